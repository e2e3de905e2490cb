/-! RULES OF WHAT IS SAID OF THE CLASS (written by wip/p2/gen46u.py) -/
section
variable {fs : List (Int → Int)} {zs : List Int}
theorem s_us {i0 i1 : Nat} : SnOk fs zs (1091, [0, i0, i1], []) ↔ cUs (nthZ zs i0) (nthZ zs i1) := Iff.rfl
theorem s_m6 {i0 : Nat} : SnOk fs zs (1089, [0, i0], []) ↔ cM6 (nthZ zs i0) := Iff.rfl
theorem s_pw2 {i0 : Nat} : SnOk fs zs (1092, [0, i0], []) ↔ cPw2 (nthZ zs i0) := Iff.rfl
theorem s_alk {i0 i1 : Nat} : SnOk fs zs (1104, [0, i0, i1], []) ↔ cAlk (nthZ zs i0) (nthZ zs i1) := Iff.rfl
theorem s_tab {a0 i0 : Nat} : SnOk fs zs (1090, [1, a0, i0], []) ↔ cTab (nthF fs a0) (nthZ zs i0) := Iff.rfl
theorem s_algn {a0 i0 i1 : Nat} : SnOk fs zs (1093, [1, a0, i0, i1], []) ↔ cAlgn (nthF fs a0) (nthZ zs i0) (nthZ zs i1) := Iff.rfl
theorem s_fits {a0 a1 i0 i1 : Nat} : SnOk fs zs (1094, [2, a0, a1, i0, i1], []) ↔ cFits (nthF fs a0) (nthF fs a1) (nthZ zs i0) (nthZ zs i1) := Iff.rfl
theorem s_curS {a0 a1 i0 i1 i2 : Nat} : SnOk fs zs (1096, [2, a0, a1, i0, i1, i2], []) ↔ cCurS (nthF fs a0) (nthF fs a1) (nthZ zs i0) (nthZ zs i1) (nthZ zs i2) := Iff.rfl
theorem s_wlc {a0 a1 i0 i1 : Nat} : SnOk fs zs (1100, [2, a0, a1, i0, i1], []) ↔ cWlc (nthF fs a0) (nthF fs a1) (nthZ zs i0) (nthZ zs i1) := Iff.rfl
theorem s_wlk {a0 a1 i0 i1 : Nat} : SnOk fs zs (1097, [2, a0, a1, i0, i1], []) ↔ cWlk (nthF fs a0) (nthF fs a1) (nthZ zs i0) (nthZ zs i1) := Iff.rfl
theorem s_curL {a0 a1 i0 i1 i2 i3 i4 : Nat} : SnOk fs zs (1099, [2, a0, a1, i0, i1, i2, i3, i4], []) ↔ cCurL (nthF fs a0) (nthF fs a1) (nthZ zs i0) (nthZ zs i1) (nthZ zs i2) (nthZ zs i3) (nthZ zs i4) := Iff.rfl
theorem s_jwo {a0 a1 i0 i1 i2 i3 : Nat} : SnOk fs zs (1106, [2, a0, a1, i0, i1, i2, i3], []) ↔ cJwo (nthF fs a0) (nthF fs a1) (nthZ zs i0) (nthZ zs i1) (nthZ zs i2) (nthZ zs i3) := Iff.rfl
theorem s_jwa {a0 a1 i0 i1 i2 i3 i4 : Nat} : SnOk fs zs (1107, [2, a0, a1, i0, i1, i2, i3, i4], []) ↔ cJwa (nthF fs a1) (nthZ zs i0) (nthZ zs i1) (nthZ zs i2) (nthZ zs i3) := Iff.rfl
theorem s_shq {a0 a1 i0 i1 : Nat} : SnOk fs zs (1108, [2, a0, a1, i0, i1], []) ↔ cShq (nthF fs a0) (nthF fs a1) (nthZ zs i0) (nthZ zs i1) := Iff.rfl
theorem s_wpl {a0 i0 : Nat} : SnOk fs zs (1116, [1, a0, i0], []) ↔ cWpl (nthF fs a0) (nthZ zs i0) := Iff.rfl
theorem s_plc {a0 a1 a2 i0 i1 i2 i3 : Nat} : SnOk fs zs (1109, [3, a0, a1, a2, i0, i1, i2, i3], []) ↔ cPlc (nthF fs a0) (nthF fs a1) (nthF fs a2) (nthZ zs i0) (nthZ zs i1) (nthZ zs i2) (nthZ zs i3) := Iff.rfl
theorem s_kna {i0 i1 : Nat} : SnOk fs zs (1112, [0, i0, i1], []) ↔ cKna (nthZ zs i0) (nthZ zs i1) := Iff.rfl
theorem s_kwi {i0 i1 : Nat} : SnOk fs zs (1113, [0, i0, i1], []) ↔ cKwi (nthZ zs i0) (nthZ zs i1) := Iff.rfl
theorem s_nft {i0 i1 : Nat} : SnOk fs zs (1114, [0, i0, i1], []) ↔ cNft (nthZ zs i0) (nthZ zs i1) := Iff.rfl
theorem s_rwn {a0 i0 i1 : Nat} : SnOk fs zs (1115, [1, a0, i0, i1], []) ↔ cRwn (nthF fs a0) (nthZ zs i0) (nthZ zs i1) := Iff.rfl
theorem s_rsz {a0 i0 : Nat} : SnOk fs zs (1103, [1, a0, i0], []) ↔ cRsz (nthF fs a0) (nthZ zs i0) := Iff.rfl
theorem s_stu {a0 a1 i0 i1 : Nat} : SnOk fs zs (1095, [2, a0, a1, i0, i1], []) ↔ cStu (nthF fs a0) (nthF fs a1) (nthZ zs i0) (nthZ zs i1) := Iff.rfl
theorem s_wau {a0 a1 i0 i1 i2 : Nat} : SnOk fs zs (1098, [2, a0, a1, i0, i1, i2], []) ↔ cWau (nthF fs a0) (nthF fs a1) (nthZ zs i0) (nthZ zs i1) (nthZ zs i2) := Iff.rfl
theorem s_eo {a0 a1 i0 i1 : Nat} : SnOk fs zs (1117, [2, a0, a1, i0, i1], []) ↔ cEo (nthF fs a0) (nthF fs a1) (nthZ zs i0) (nthZ zs i1) := Iff.rfl
theorem s_eoe {a0 a1 i0 i1 i2 : Nat} : SnOk fs zs (1118, [2, a0, a1, i0, i1, i2], []) ↔ cEoe (nthF fs a0) (nthF fs a1) (nthZ zs i0) (nthZ zs i1) (nthZ zs i2) := Iff.rfl
theorem s_jcn {a0 i0 i1 i2 i3 : Nat} : SnOk fs zs (1101, [1, a0, i0, i1, i2, i3], []) ↔ cJcn (nthF fs a0) (nthZ zs i0) (nthZ zs i1) (nthZ zs i2) (nthZ zs i3) := Iff.rfl
theorem s_nsh {a0 i0 i1 i2 : Nat} : SnOk fs zs (1102, [1, a0, i0, i1, i2], []) ↔ cNsh (nthF fs a0) (nthZ zs i0) (nthZ zs i1) (nthZ zs i2) := Iff.rfl
theorem s_jca {a0 i0 i1 i2 i3 i4 : Nat} : SnOk fs zs (1105, [1, a0, i0, i1, i2, i3, i4], []) ↔ cJca (nthF fs a0) (nthZ zs i0) (nthZ zs i1) (nthZ zs i2) (nthZ zs i3) (nthZ zs i4) := Iff.rfl
end
theorem sp_4 {fs : List (Int → Int)} {zs : List Int} {c x0 x1 x2 x3 : Int} {a0 a1 a2 a3 : Nat} : SnOk fs zs (sp c [(a0, x0), (a1, x1), (a2, x2), (a3, x3)]) ↔ 0 ≤ c + (x0 * nthZ zs a0 + (x1 * nthZ zs a1 + (x2 * nthZ zs a2 + (x3 * nthZ zs a3)))) := by
  rw [sp_ok]; show 0 ≤ c + (x0 * nthZ zs a0 + (x1 * nthZ zs a1 + (x2 * nthZ zs a2 + (x3 * nthZ zs a3 + (0))))) ↔ _; rw [Int.add_zero]
theorem sp_5 {fs : List (Int → Int)} {zs : List Int} {c x0 x1 x2 x3 x4 : Int} {a0 a1 a2 a3 a4 : Nat} : SnOk fs zs (sp c [(a0, x0), (a1, x1), (a2, x2), (a3, x3), (a4, x4)]) ↔ 0 ≤ c + (x0 * nthZ zs a0 + (x1 * nthZ zs a1 + (x2 * nthZ zs a2 + (x3 * nthZ zs a3 + (x4 * nthZ zs a4))))) := by
  rw [sp_ok]; show 0 ≤ c + (x0 * nthZ zs a0 + (x1 * nthZ zs a1 + (x2 * nthZ zs a2 + (x3 * nthZ zs a3 + (x4 * nthZ zs a4 + (0)))))) ↔ _; rw [Int.add_zero]
theorem sp_6 {fs : List (Int → Int)} {zs : List Int} {c x0 x1 x2 x3 x4 x5 : Int} {a0 a1 a2 a3 a4 a5 : Nat} : SnOk fs zs (sp c [(a0, x0), (a1, x1), (a2, x2), (a3, x3), (a4, x4), (a5, x5)]) ↔ 0 ≤ c + (x0 * nthZ zs a0 + (x1 * nthZ zs a1 + (x2 * nthZ zs a2 + (x3 * nthZ zs a3 + (x4 * nthZ zs a4 + (x5 * nthZ zs a5)))))) := by
  rw [sp_ok]; show 0 ≤ c + (x0 * nthZ zs a0 + (x1 * nthZ zs a1 + (x2 * nthZ zs a2 + (x3 * nthZ zs a3 + (x4 * nthZ zs a4 + (x5 * nthZ zs a5 + (0))))))) ↔ _; rw [Int.add_zero]
def q_m6n : qRl := ([sp 0 [(0, 1)], sp 0 [(0, (-1))]], [(1089, [0, 0], [])])
theorem q_m6n_ok : RlOk q_m6n := by
  intro fs zs h x hx
  obtain ⟨H0, h⟩ := snAll h
  replace H0 := sp_1.mp H0
  obtain ⟨H1, h⟩ := snAll h
  replace H1 := sp_1.mp H1
  have L := L_m6n (N0 := nthZ zs 0) (by omega) (by omega)
  rcases List.mem_cons.mp hx with hx | hx
  · rw [hx]; refine s_m6.mpr ?_; exact L
  · cases hx
def q_m6m : qRl := ([sp 1 [(0, 1)], sp (-1) [(0, (-1))]], [(1089, [0, 0], [])])
theorem q_m6m_ok : RlOk q_m6m := by
  intro fs zs h x hx
  obtain ⟨H0, h⟩ := snAll h
  replace H0 := sp_1.mp H0
  obtain ⟨H1, h⟩ := snAll h
  replace H1 := sp_1.mp H1
  have L := L_m6m (N0 := nthZ zs 0) (by omega) (by omega)
  rcases List.mem_cons.mp hx with hx | hx
  · rw [hx]; refine s_m6.mpr ?_; exact L
  · cases hx
def q_m6S : qRl := ([sp 6 [(1, 1), (0, (-1))], sp (-6) [(1, (-1)), (0, 1)], sp 0 [(1, 1)], (1089, [0, 1], [])], [(1089, [0, 0], [])])
theorem q_m6S_ok : RlOk q_m6S := by
  intro fs zs h x hx
  obtain ⟨H0, h⟩ := snAll h
  replace H0 := sp_2.mp H0
  obtain ⟨H1, h⟩ := snAll h
  replace H1 := sp_2.mp H1
  obtain ⟨H2, h⟩ := snAll h
  replace H2 := sp_1.mp H2
  obtain ⟨H3, h⟩ := snAll h
  replace H3 := s_m6.mp H3
  have L := L_m6S (N0 := nthZ zs 0) (N1 := nthZ zs 1) (by omega) (by omega) H3
  rcases List.mem_cons.mp hx with hx | hx
  · rw [hx]; refine s_m6.mpr ?_; exact L
  · cases hx
def q_tb0 : qRl := ([(1090, [1, 0, 9], []), (1089, [0, 0], []), sp 0 [(0, 1)], sp 1092 [(0, (-1))], sp 0 [(1, 1), (0, (-1))], sp 0 [(1, (-1)), (0, 1)], (1, [0, 1, 2], [])], [sp 0 [(2, 1)], sp 53 [(2, (-1))]])
theorem q_tb0_ok : RlOk q_tb0 := by
  intro fs zs h x hx
  obtain ⟨H0, h⟩ := snAll h
  replace H0 := s_tab.mp H0
  obtain ⟨H1, h⟩ := snAll h
  replace H1 := s_m6.mp H1
  obtain ⟨H2, h⟩ := snAll h
  replace H2 := sp_1.mp H2
  obtain ⟨H3, h⟩ := snAll h
  replace H3 := sp_1.mp H3
  obtain ⟨H4, h⟩ := snAll h
  replace H4 := sp_2.mp H4
  obtain ⟨H5, h⟩ := snAll h
  replace H5 := sp_2.mp H5
  obtain ⟨H6, h⟩ := snAll h
  replace H6 := s_rd.mp H6
  have L := L_tb0 (F0 := nthF fs 0) (N0 := nthZ zs 0) (N1 := nthZ zs 1) (N2 := nthZ zs 2) (N3 := nthZ zs 3) (N4 := nthZ zs 4) (N5 := nthZ zs 5) (N6 := nthZ zs 6) (N7 := nthZ zs 7) (N8 := nthZ zs 8) (N9 := nthZ zs 9) H0 H1 (by omega) (by omega) (by omega) H6
  rcases List.mem_cons.mp hx with hx | hx
  · rw [hx]; refine sp_1.mpr ?_; omega
  rcases List.mem_cons.mp hx with hx | hx
  · rw [hx]; refine sp_1.mpr ?_; omega
  · cases hx
def q_tb1 : qRl := ([(1090, [1, 0, 9], []), (1089, [0, 0], []), sp 0 [(0, 1)], sp 1092 [(0, (-1))], sp (-1) [(1, 1), (0, (-1))], sp 1 [(1, (-1)), (0, 1)], (1, [0, 1, 2], [])], [sp 0 [(2, 1)], sp 9 [(2, (-1))]])
theorem q_tb1_ok : RlOk q_tb1 := by
  intro fs zs h x hx
  obtain ⟨H0, h⟩ := snAll h
  replace H0 := s_tab.mp H0
  obtain ⟨H1, h⟩ := snAll h
  replace H1 := s_m6.mp H1
  obtain ⟨H2, h⟩ := snAll h
  replace H2 := sp_1.mp H2
  obtain ⟨H3, h⟩ := snAll h
  replace H3 := sp_1.mp H3
  obtain ⟨H4, h⟩ := snAll h
  replace H4 := sp_2.mp H4
  obtain ⟨H5, h⟩ := snAll h
  replace H5 := sp_2.mp H5
  obtain ⟨H6, h⟩ := snAll h
  replace H6 := s_rd.mp H6
  have L := L_tb1 (F0 := nthF fs 0) (N0 := nthZ zs 0) (N1 := nthZ zs 1) (N2 := nthZ zs 2) (N3 := nthZ zs 3) (N4 := nthZ zs 4) (N5 := nthZ zs 5) (N6 := nthZ zs 6) (N7 := nthZ zs 7) (N8 := nthZ zs 8) (N9 := nthZ zs 9) H0 H1 (by omega) (by omega) (by omega) H6
  rcases List.mem_cons.mp hx with hx | hx
  · rw [hx]; refine sp_1.mpr ?_; omega
  rcases List.mem_cons.mp hx with hx | hx
  · rw [hx]; refine sp_1.mpr ?_; omega
  · cases hx
def q_tb2 : qRl := ([(1090, [1, 0, 9], []), (1089, [0, 0], []), sp 0 [(0, 1)], sp 1092 [(0, (-1))], sp (-2) [(1, 1), (0, (-1))], sp 2 [(1, (-1)), (0, 1)], (1, [0, 1, 2], [])], [sp 0 [(2, 1)], sp 12 [(2, (-1))]])
theorem q_tb2_ok : RlOk q_tb2 := by
  intro fs zs h x hx
  obtain ⟨H0, h⟩ := snAll h
  replace H0 := s_tab.mp H0
  obtain ⟨H1, h⟩ := snAll h
  replace H1 := s_m6.mp H1
  obtain ⟨H2, h⟩ := snAll h
  replace H2 := sp_1.mp H2
  obtain ⟨H3, h⟩ := snAll h
  replace H3 := sp_1.mp H3
  obtain ⟨H4, h⟩ := snAll h
  replace H4 := sp_2.mp H4
  obtain ⟨H5, h⟩ := snAll h
  replace H5 := sp_2.mp H5
  obtain ⟨H6, h⟩ := snAll h
  replace H6 := s_rd.mp H6
  have L := L_tb2 (F0 := nthF fs 0) (N0 := nthZ zs 0) (N1 := nthZ zs 1) (N2 := nthZ zs 2) (N3 := nthZ zs 3) (N4 := nthZ zs 4) (N5 := nthZ zs 5) (N6 := nthZ zs 6) (N7 := nthZ zs 7) (N8 := nthZ zs 8) (N9 := nthZ zs 9) H0 H1 (by omega) (by omega) (by omega) H6
  rcases List.mem_cons.mp hx with hx | hx
  · rw [hx]; refine sp_1.mpr ?_; omega
  rcases List.mem_cons.mp hx with hx | hx
  · rw [hx]; refine sp_1.mpr ?_; omega
  · cases hx
def q_tb3 : qRl := ([(1090, [1, 0, 9], []), (1089, [0, 0], []), sp 0 [(0, 1)], sp 1092 [(0, (-1))], sp (-3) [(1, 1), (0, (-1))], sp 3 [(1, (-1)), (0, 1)], (1, [0, 1, 2], [])], [sp 0 [(2, 1)], sp 5 [(2, (-1))]])
theorem q_tb3_ok : RlOk q_tb3 := by
  intro fs zs h x hx
  obtain ⟨H0, h⟩ := snAll h
  replace H0 := s_tab.mp H0
  obtain ⟨H1, h⟩ := snAll h
  replace H1 := s_m6.mp H1
  obtain ⟨H2, h⟩ := snAll h
  replace H2 := sp_1.mp H2
  obtain ⟨H3, h⟩ := snAll h
  replace H3 := sp_1.mp H3
  obtain ⟨H4, h⟩ := snAll h
  replace H4 := sp_2.mp H4
  obtain ⟨H5, h⟩ := snAll h
  replace H5 := sp_2.mp H5
  obtain ⟨H6, h⟩ := snAll h
  replace H6 := s_rd.mp H6
  have L := L_tb3 (F0 := nthF fs 0) (N0 := nthZ zs 0) (N1 := nthZ zs 1) (N2 := nthZ zs 2) (N3 := nthZ zs 3) (N4 := nthZ zs 4) (N5 := nthZ zs 5) (N6 := nthZ zs 6) (N7 := nthZ zs 7) (N8 := nthZ zs 8) (N9 := nthZ zs 9) H0 H1 (by omega) (by omega) (by omega) H6
  rcases List.mem_cons.mp hx with hx | hx
  · rw [hx]; refine sp_1.mpr ?_; omega
  rcases List.mem_cons.mp hx with hx | hx
  · rw [hx]; refine sp_1.mpr ?_; omega
  · cases hx
def q_tb4 : qRl := ([(1090, [1, 0, 9], []), (1089, [0, 0], []), sp 0 [(0, 1)], sp 1092 [(0, (-1))], sp (-4) [(1, 1), (0, (-1))], sp 4 [(1, (-1)), (0, 1)], (1, [0, 1, 2], [])], [sp 0 [(2, 1)], sp 62379 [(2, (-1))]])
theorem q_tb4_ok : RlOk q_tb4 := by
  intro fs zs h x hx
  obtain ⟨H0, h⟩ := snAll h
  replace H0 := s_tab.mp H0
  obtain ⟨H1, h⟩ := snAll h
  replace H1 := s_m6.mp H1
  obtain ⟨H2, h⟩ := snAll h
  replace H2 := sp_1.mp H2
  obtain ⟨H3, h⟩ := snAll h
  replace H3 := sp_1.mp H3
  obtain ⟨H4, h⟩ := snAll h
  replace H4 := sp_2.mp H4
  obtain ⟨H5, h⟩ := snAll h
  replace H5 := sp_2.mp H5
  obtain ⟨H6, h⟩ := snAll h
  replace H6 := s_rd.mp H6
  have L := L_tb4 (F0 := nthF fs 0) (N0 := nthZ zs 0) (N1 := nthZ zs 1) (N2 := nthZ zs 2) (N3 := nthZ zs 3) (N4 := nthZ zs 4) (N5 := nthZ zs 5) (N6 := nthZ zs 6) (N7 := nthZ zs 7) (N8 := nthZ zs 8) (N9 := nthZ zs 9) H0 H1 (by omega) (by omega) (by omega) H6
  rcases List.mem_cons.mp hx with hx | hx
  · rw [hx]; refine sp_1.mpr ?_; omega
  rcases List.mem_cons.mp hx with hx | hx
  · rw [hx]; refine sp_1.mpr ?_; omega
  · cases hx
def q_tb5 : qRl := ([(1090, [1, 0, 9], []), (1089, [0, 0], []), sp 0 [(0, 1)], sp 1092 [(0, (-1))], sp (-5) [(1, 1), (0, (-1))], sp 5 [(1, (-1)), (0, 1)], (1, [0, 1, 2], [])], [sp 1 [(2, 1)], sp 7 [(2, (-1))]])
theorem q_tb5_ok : RlOk q_tb5 := by
  intro fs zs h x hx
  obtain ⟨H0, h⟩ := snAll h
  replace H0 := s_tab.mp H0
  obtain ⟨H1, h⟩ := snAll h
  replace H1 := s_m6.mp H1
  obtain ⟨H2, h⟩ := snAll h
  replace H2 := sp_1.mp H2
  obtain ⟨H3, h⟩ := snAll h
  replace H3 := sp_1.mp H3
  obtain ⟨H4, h⟩ := snAll h
  replace H4 := sp_2.mp H4
  obtain ⟨H5, h⟩ := snAll h
  replace H5 := sp_2.mp H5
  obtain ⟨H6, h⟩ := snAll h
  replace H6 := s_rd.mp H6
  have L := L_tb5 (F0 := nthF fs 0) (N0 := nthZ zs 0) (N1 := nthZ zs 1) (N2 := nthZ zs 2) (N3 := nthZ zs 3) (N4 := nthZ zs 4) (N5 := nthZ zs 5) (N6 := nthZ zs 6) (N7 := nthZ zs 7) (N8 := nthZ zs 8) (N9 := nthZ zs 9) H0 H1 (by omega) (by omega) (by omega) H6
  rcases List.mem_cons.mp hx with hx | hx
  · rw [hx]; refine sp_1.mpr ?_; omega
  rcases List.mem_cons.mp hx with hx | hx
  · rw [hx]; refine sp_1.mpr ?_; omega
  · cases hx
def q_tbD : qRl := ([(1090, [1, 0, 9], []), (1089, [0, 0], []), sp 0 [(0, 1)], sp 1092 [(0, (-1))], sp (-1) [(1, 1), (0, (-1))], sp 1 [(1, (-1)), (0, 1)], (1, [0, 1, 2], []), sp (-4) [(2, 1)], sp 4 [(2, (-1))]], [sp 1080 [(0, (-1))]])
theorem q_tbD_ok : RlOk q_tbD := by
  intro fs zs h x hx
  obtain ⟨H0, h⟩ := snAll h
  replace H0 := s_tab.mp H0
  obtain ⟨H1, h⟩ := snAll h
  replace H1 := s_m6.mp H1
  obtain ⟨H2, h⟩ := snAll h
  replace H2 := sp_1.mp H2
  obtain ⟨H3, h⟩ := snAll h
  replace H3 := sp_1.mp H3
  obtain ⟨H4, h⟩ := snAll h
  replace H4 := sp_2.mp H4
  obtain ⟨H5, h⟩ := snAll h
  replace H5 := sp_2.mp H5
  obtain ⟨H6, h⟩ := snAll h
  replace H6 := s_rd.mp H6
  obtain ⟨H7, h⟩ := snAll h
  replace H7 := sp_1.mp H7
  obtain ⟨H8, h⟩ := snAll h
  replace H8 := sp_1.mp H8
  have L := L_tbD (F0 := nthF fs 0) (N0 := nthZ zs 0) (N1 := nthZ zs 1) (N2 := nthZ zs 2) (N3 := nthZ zs 3) (N4 := nthZ zs 4) (N5 := nthZ zs 5) (N6 := nthZ zs 6) (N7 := nthZ zs 7) (N8 := nthZ zs 8) (N9 := nthZ zs 9) H0 H1 (by omega) (by omega) (by omega) H6 (by omega) (by omega)
  rcases List.mem_cons.mp hx with hx | hx
  · rw [hx]; refine sp_1.mpr ?_; omega
  · cases hx
def q_m6T : qRl := ([(1089, [0, 0], []), sp (-1093) [(0, 1)], sp 1097 [(0, (-1))]], [sp (-1) []])
theorem q_m6T_ok : RlOk q_m6T := by
  intro fs zs h x hx
  obtain ⟨H0, h⟩ := snAll h
  replace H0 := s_m6.mp H0
  obtain ⟨H1, h⟩ := snAll h
  replace H1 := sp_1.mp H1
  obtain ⟨H2, h⟩ := snAll h
  replace H2 := sp_1.mp H2
  have L := L_m6T (N0 := nthZ zs 0) H0 (by omega) (by omega)
  rcases List.mem_cons.mp hx with hx | hx
  · rw [hx]; refine sp_0.mpr ?_; omega
  · cases hx
def q_m6B : qRl := ([(1089, [0, 0], []), sp 0 [(0, 1)], sp 1097 [(0, (-1))]], [sp 1092 [(0, (-1))]])
theorem q_m6B_ok : RlOk q_m6B := by
  intro fs zs h x hx
  obtain ⟨H0, h⟩ := snAll h
  replace H0 := s_m6.mp H0
  obtain ⟨H1, h⟩ := snAll h
  replace H1 := sp_1.mp H1
  obtain ⟨H2, h⟩ := snAll h
  replace H2 := sp_1.mp H2
  have L := L_m6B (N0 := nthZ zs 0) H0 (by omega) (by omega)
  rcases List.mem_cons.mp hx with hx | hx
  · rw [hx]; refine sp_1.mpr ?_; omega
  · cases hx
def q_alE : qRl := ([sp 0 [(0, 1), (1, (-1))]], [(1093, [1, 0, 0, 1], [])])
theorem q_alE_ok : RlOk q_alE := by
  intro fs zs h x hx
  obtain ⟨H0, h⟩ := snAll h
  replace H0 := sp_2.mp H0
  have L := L_alE (F0 := nthF fs 0) (N0 := nthZ zs 0) (N1 := nthZ zs 1) (by omega)
  rcases List.mem_cons.mp hx with hx | hx
  · rw [hx]; refine s_algn.mpr ?_; exact L
  · cases hx
def q_alX : qRl := ([sp 1 [(2, 1), (1, (-1))], sp (-1) [(2, (-1)), (1, 1)], (1093, [1, 0, 0, 2], []), sp 7 [(3, 1), (1, (-7))], sp (-7) [(3, (-1)), (1, 7)], (1, [0, 3, 4], []), sp 1 [(4, (-1))]], [(1093, [1, 0, 0, 1], [])])
theorem q_alX_ok : RlOk q_alX := by
  intro fs zs h x hx
  obtain ⟨H0, h⟩ := snAll h
  replace H0 := sp_2.mp H0
  obtain ⟨H1, h⟩ := snAll h
  replace H1 := sp_2.mp H1
  obtain ⟨H2, h⟩ := snAll h
  replace H2 := s_algn.mp H2
  obtain ⟨H3, h⟩ := snAll h
  replace H3 := sp_2.mp H3
  obtain ⟨H4, h⟩ := snAll h
  replace H4 := sp_2.mp H4
  obtain ⟨H5, h⟩ := snAll h
  replace H5 := s_rd.mp H5
  obtain ⟨H6, h⟩ := snAll h
  replace H6 := sp_1.mp H6
  have L := L_alX (F0 := nthF fs 0) (N0 := nthZ zs 0) (N1 := nthZ zs 1) (N2 := nthZ zs 2) (N3 := nthZ zs 3) (N4 := nthZ zs 4) (by omega) H2 (by omega) H5 (by omega)
  rcases List.mem_cons.mp hx with hx | hx
  · rw [hx]; refine s_algn.mpr ?_; exact L
  · cases hx
def q_alY : qRl := ([sp 1 [(2, 1), (1, (-1))], sp (-1) [(2, (-1)), (1, 1)], (1093, [1, 0, 0, 2], []), sp 7 [(3, 1), (1, (-7))], sp (-7) [(3, (-1)), (1, 7)], (1, [0, 3, 4], []), sp (-3) [(4, 1)]], [(1093, [1, 0, 0, 1], [])])
theorem q_alY_ok : RlOk q_alY := by
  intro fs zs h x hx
  obtain ⟨H0, h⟩ := snAll h
  replace H0 := sp_2.mp H0
  obtain ⟨H1, h⟩ := snAll h
  replace H1 := sp_2.mp H1
  obtain ⟨H2, h⟩ := snAll h
  replace H2 := s_algn.mp H2
  obtain ⟨H3, h⟩ := snAll h
  replace H3 := sp_2.mp H3
  obtain ⟨H4, h⟩ := snAll h
  replace H4 := sp_2.mp H4
  obtain ⟨H5, h⟩ := snAll h
  replace H5 := s_rd.mp H5
  obtain ⟨H6, h⟩ := snAll h
  replace H6 := sp_1.mp H6
  have L := L_alY (F0 := nthF fs 0) (N0 := nthZ zs 0) (N1 := nthZ zs 1) (N2 := nthZ zs 2) (N3 := nthZ zs 3) (N4 := nthZ zs 4) (by omega) H2 (by omega) H5 (by omega)
  rcases List.mem_cons.mp hx with hx | hx
  · rw [hx]; refine s_algn.mpr ?_; exact L
  · cases hx
def q_alZ : qRl := ([sp 1 [(2, 1), (1, (-1))], sp (-1) [(2, (-1)), (1, 1)], (1093, [1, 0, 0, 2], []), sp 2 [(3, 1), (1, (-7))], sp (-2) [(3, (-1)), (1, 7)], (1, [0, 3, 4], []), (1092, [0, 4], [])], [(1093, [1, 0, 0, 1], [])])
theorem q_alZ_ok : RlOk q_alZ := by
  intro fs zs h x hx
  obtain ⟨H0, h⟩ := snAll h
  replace H0 := sp_2.mp H0
  obtain ⟨H1, h⟩ := snAll h
  replace H1 := sp_2.mp H1
  obtain ⟨H2, h⟩ := snAll h
  replace H2 := s_algn.mp H2
  obtain ⟨H3, h⟩ := snAll h
  replace H3 := sp_2.mp H3
  obtain ⟨H4, h⟩ := snAll h
  replace H4 := sp_2.mp H4
  obtain ⟨H5, h⟩ := snAll h
  replace H5 := s_rd.mp H5
  obtain ⟨H6, h⟩ := snAll h
  replace H6 := s_pw2.mp H6
  have L := L_alZ (F0 := nthF fs 0) (N0 := nthZ zs 0) (N1 := nthZ zs 1) (N2 := nthZ zs 2) (N3 := nthZ zs 3) (N4 := nthZ zs 4) (by omega) H2 (by omega) H5 H6
  rcases List.mem_cons.mp hx with hx | hx
  · rw [hx]; refine s_algn.mpr ?_; exact L
  · cases hx
def q_alW : qRl := ([(2, [1, 0, 2, 3], []), (1093, [1, 0, 0, 1], []), sp 0 [(2, 1), (1, (-7))]], [(1093, [1, 1, 0, 1], [])])
theorem q_alW_ok : RlOk q_alW := by
  intro fs zs h x hx
  obtain ⟨H0, h⟩ := snAll h
  replace H0 := s_wr.mp H0
  obtain ⟨H1, h⟩ := snAll h
  replace H1 := s_algn.mp H1
  obtain ⟨H2, h⟩ := snAll h
  replace H2 := sp_2.mp H2
  have L := L_alW (F0 := nthF fs 0) (F1 := nthF fs 1) (N0 := nthZ zs 0) (N1 := nthZ zs 1) (N2 := nthZ zs 2) (N3 := nthZ zs 3) H0 H1 (by omega)
  rcases List.mem_cons.mp hx with hx | hx
  · rw [hx]; refine s_algn.mpr ?_; exact L
  · cases hx
def q_alV : qRl := ([(2, [1, 0, 2, 3], []), (1093, [1, 0, 0, 1], []), (1091, [0, 4, 5], []), sp (-1) [(2, 1), (4, (-7))], sp 4 [(4, 7), (2, (-1))]], [(1093, [1, 1, 0, 1], [])])
theorem q_alV_ok : RlOk q_alV := by
  intro fs zs h x hx
  obtain ⟨H0, h⟩ := snAll h
  replace H0 := s_wr.mp H0
  obtain ⟨H1, h⟩ := snAll h
  replace H1 := s_algn.mp H1
  obtain ⟨H2, h⟩ := snAll h
  replace H2 := s_us.mp H2
  obtain ⟨H3, h⟩ := snAll h
  replace H3 := sp_2.mp H3
  obtain ⟨H4, h⟩ := snAll h
  replace H4 := sp_2.mp H4
  have L := L_alV (F0 := nthF fs 0) (F1 := nthF fs 1) (N0 := nthZ zs 0) (N1 := nthZ zs 1) (N2 := nthZ zs 2) (N3 := nthZ zs 3) (N4 := nthZ zs 4) (N5 := nthZ zs 5) H0 H1 H2 (by omega) (by omega)
  rcases List.mem_cons.mp hx with hx | hx
  · rw [hx]; refine s_algn.mpr ?_; exact L
  · cases hx
def q_alU : qRl := ([(2, [1, 0, 2, 3], []), (1093, [1, 0, 0, 1], []), sp (-3) [(3, 1)], (1091, [0, 4, 5], []), sp 0 [(2, 1), (4, (-7))], sp 0 [(4, 7), (2, (-1))]], [(1093, [1, 1, 0, 1], [])])
theorem q_alU_ok : RlOk q_alU := by
  intro fs zs h x hx
  obtain ⟨H0, h⟩ := snAll h
  replace H0 := s_wr.mp H0
  obtain ⟨H1, h⟩ := snAll h
  replace H1 := s_algn.mp H1
  obtain ⟨H2, h⟩ := snAll h
  replace H2 := sp_1.mp H2
  obtain ⟨H3, h⟩ := snAll h
  replace H3 := s_us.mp H3
  obtain ⟨H4, h⟩ := snAll h
  replace H4 := sp_2.mp H4
  obtain ⟨H5, h⟩ := snAll h
  replace H5 := sp_2.mp H5
  have L := L_alU (F0 := nthF fs 0) (F1 := nthF fs 1) (N0 := nthZ zs 0) (N1 := nthZ zs 1) (N2 := nthZ zs 2) (N3 := nthZ zs 3) (N4 := nthZ zs 4) (N5 := nthZ zs 5) H0 H1 (by omega) H3 (by omega) (by omega)
  rcases List.mem_cons.mp hx with hx | hx
  · rw [hx]; refine s_algn.mpr ?_; exact L
  · cases hx
def q_alO : qRl := ([(1091, [0, 2, 6], []), (1093, [1, 0, 0, 1], []), sp 0 [(2, 1), (0, (-1))], sp (-1) [(1, 1), (2, (-1))], sp 0 [(3, 1), (2, (-7))], sp 0 [(3, (-1)), (2, 7)], (1, [0, 3, 4], []), sp (-2) [(4, 1)], sp 2 [(4, (-1))], sp (-5) [(5, 1), (2, (-7))], sp 5 [(5, (-1)), (2, 7)], (1, [0, 5, 7], [])], [sp (-1) [(7, 1)], sp 4096 [(7, (-1))]])
theorem q_alO_ok : RlOk q_alO := by
  intro fs zs h x hx
  obtain ⟨H0, h⟩ := snAll h
  replace H0 := s_us.mp H0
  obtain ⟨H1, h⟩ := snAll h
  replace H1 := s_algn.mp H1
  obtain ⟨H2, h⟩ := snAll h
  replace H2 := sp_2.mp H2
  obtain ⟨H3, h⟩ := snAll h
  replace H3 := sp_2.mp H3
  obtain ⟨H4, h⟩ := snAll h
  replace H4 := sp_2.mp H4
  obtain ⟨H5, h⟩ := snAll h
  replace H5 := sp_2.mp H5
  obtain ⟨H6, h⟩ := snAll h
  replace H6 := s_rd.mp H6
  obtain ⟨H7, h⟩ := snAll h
  replace H7 := sp_1.mp H7
  obtain ⟨H8, h⟩ := snAll h
  replace H8 := sp_1.mp H8
  obtain ⟨H9, h⟩ := snAll h
  replace H9 := sp_2.mp H9
  obtain ⟨H10, h⟩ := snAll h
  replace H10 := sp_2.mp H10
  obtain ⟨H11, h⟩ := snAll h
  replace H11 := s_rd.mp H11
  have L := L_alO (F0 := nthF fs 0) (N0 := nthZ zs 0) (N1 := nthZ zs 1) (N2 := nthZ zs 2) (N3 := nthZ zs 3) (N4 := nthZ zs 4) (N5 := nthZ zs 5) (N6 := nthZ zs 6) (N7 := nthZ zs 7) H0 H1 (by omega) (by omega) (by omega) H6 (by omega) (by omega) (by omega) H11
  rcases List.mem_cons.mp hx with hx | hx
  · rw [hx]; refine sp_1.mpr ?_; omega
  rcases List.mem_cons.mp hx with hx | hx
  · rw [hx]; refine sp_1.mpr ?_; omega
  · cases hx
def q_fiE : qRl := ([sp 0 [(0, 1), (1, (-1))]], [(1094, [2, 0, 1, 0, 1], [])])
theorem q_fiE_ok : RlOk q_fiE := by
  intro fs zs h x hx
  obtain ⟨H0, h⟩ := snAll h
  replace H0 := sp_2.mp H0
  have L := L_fiE (F0 := nthF fs 0) (F1 := nthF fs 1) (N0 := nthZ zs 0) (N1 := nthZ zs 1) (by omega)
  rcases List.mem_cons.mp hx with hx | hx
  · rw [hx]; refine s_fits.mpr ?_; exact L
  · cases hx
def q_fiW : qRl := ([(2, [2, 0, 2, 3], []), (1094, [2, 0, 1, 0, 1], []), sp 0 [(2, 1), (1, (-7))]], [(1094, [2, 2, 1, 0, 1], [])])
theorem q_fiW_ok : RlOk q_fiW := by
  intro fs zs h x hx
  obtain ⟨H0, h⟩ := snAll h
  replace H0 := s_wr.mp H0
  obtain ⟨H1, h⟩ := snAll h
  replace H1 := s_fits.mp H1
  obtain ⟨H2, h⟩ := snAll h
  replace H2 := sp_2.mp H2
  have L := L_fiW (F0 := nthF fs 0) (F1 := nthF fs 1) (F2 := nthF fs 2) (N0 := nthZ zs 0) (N1 := nthZ zs 1) (N2 := nthZ zs 2) (N3 := nthZ zs 3) H0 H1 (by omega)
  rcases List.mem_cons.mp hx with hx | hx
  · rw [hx]; refine s_fits.mpr ?_; exact L
  · cases hx
def q_fiU : qRl := ([(2, [2, 1, 2, 3], []), (1094, [2, 0, 1, 0, 1], []), (1, [1, 2, 4], []), sp 0 [(3, 1), (4, (-1))]], [(1094, [2, 0, 2, 0, 1], [])])
theorem q_fiU_ok : RlOk q_fiU := by
  intro fs zs h x hx
  obtain ⟨H0, h⟩ := snAll h
  replace H0 := s_wr.mp H0
  obtain ⟨H1, h⟩ := snAll h
  replace H1 := s_fits.mp H1
  obtain ⟨H2, h⟩ := snAll h
  replace H2 := s_rd.mp H2
  obtain ⟨H3, h⟩ := snAll h
  replace H3 := sp_2.mp H3
  have L := L_fiU (F0 := nthF fs 0) (F1 := nthF fs 1) (F2 := nthF fs 2) (N0 := nthZ zs 0) (N1 := nthZ zs 1) (N2 := nthZ zs 2) (N3 := nthZ zs 3) (N4 := nthZ zs 4) H0 H1 H2 (by omega)
  rcases List.mem_cons.mp hx with hx | hx
  · rw [hx]; refine s_fits.mpr ?_; exact L
  · cases hx
def q_fiK : qRl := ([(2, [2, 0, 2, 3], []), (1094, [2, 0, 1, 0, 1], []), (1091, [0, 4, 5], []), sp 0 [(2, 1), (4, (-7))], sp 0 [(4, 7), (2, (-1))]], [(1094, [2, 2, 1, 0, 1], [])])
theorem q_fiK_ok : RlOk q_fiK := by
  intro fs zs h x hx
  obtain ⟨H0, h⟩ := snAll h
  replace H0 := s_wr.mp H0
  obtain ⟨H1, h⟩ := snAll h
  replace H1 := s_fits.mp H1
  obtain ⟨H2, h⟩ := snAll h
  replace H2 := s_us.mp H2
  obtain ⟨H3, h⟩ := snAll h
  replace H3 := sp_2.mp H3
  obtain ⟨H4, h⟩ := snAll h
  replace H4 := sp_2.mp H4
  have L := L_fiK (F0 := nthF fs 0) (F1 := nthF fs 1) (F2 := nthF fs 2) (N0 := nthZ zs 0) (N1 := nthZ zs 1) (N2 := nthZ zs 2) (N3 := nthZ zs 3) (N4 := nthZ zs 4) (N5 := nthZ zs 5) H0 H1 H2 (by omega) (by omega)
  rcases List.mem_cons.mp hx with hx | hx
  · rw [hx]; refine s_fits.mpr ?_; exact L
  · cases hx
def q_fiX : qRl := ([sp 1 [(2, 1), (1, (-1))], sp (-1) [(2, (-1)), (1, 1)], (1094, [2, 0, 1, 0, 2], []), sp 4 [(3, 1), (1, (-7))], sp (-4) [(3, (-1)), (1, 7)], (1, [0, 3, 4], []), sp 3 [(5, 1), (1, (-7))], sp (-3) [(5, (-1)), (1, 7)], (1, [0, 5, 6], []), sp 6 [(7, 1), (1, (-7))], sp (-6) [(7, (-1)), (1, 7)], (1, [0, 7, 8], []), sp 0 [(8, 1)], sp 3 [(8, (-1))], (1, [1, 8, 9], []), sp 0 [(9, 1), (4, (-1)), (6, (-1))]], [(1094, [2, 0, 1, 0, 1], [])])
theorem q_fiX_ok : RlOk q_fiX := by
  intro fs zs h x hx
  obtain ⟨H0, h⟩ := snAll h
  replace H0 := sp_2.mp H0
  obtain ⟨H1, h⟩ := snAll h
  replace H1 := sp_2.mp H1
  obtain ⟨H2, h⟩ := snAll h
  replace H2 := s_fits.mp H2
  obtain ⟨H3, h⟩ := snAll h
  replace H3 := sp_2.mp H3
  obtain ⟨H4, h⟩ := snAll h
  replace H4 := sp_2.mp H4
  obtain ⟨H5, h⟩ := snAll h
  replace H5 := s_rd.mp H5
  obtain ⟨H6, h⟩ := snAll h
  replace H6 := sp_2.mp H6
  obtain ⟨H7, h⟩ := snAll h
  replace H7 := sp_2.mp H7
  obtain ⟨H8, h⟩ := snAll h
  replace H8 := s_rd.mp H8
  obtain ⟨H9, h⟩ := snAll h
  replace H9 := sp_2.mp H9
  obtain ⟨H10, h⟩ := snAll h
  replace H10 := sp_2.mp H10
  obtain ⟨H11, h⟩ := snAll h
  replace H11 := s_rd.mp H11
  obtain ⟨H12, h⟩ := snAll h
  replace H12 := sp_1.mp H12
  obtain ⟨H13, h⟩ := snAll h
  replace H13 := sp_1.mp H13
  obtain ⟨H14, h⟩ := snAll h
  replace H14 := s_rd.mp H14
  obtain ⟨H15, h⟩ := snAll h
  replace H15 := sp_3.mp H15
  have L := L_fiX (F0 := nthF fs 0) (F1 := nthF fs 1) (N0 := nthZ zs 0) (N1 := nthZ zs 1) (N2 := nthZ zs 2) (N3 := nthZ zs 3) (N4 := nthZ zs 4) (N5 := nthZ zs 5) (N6 := nthZ zs 6) (N7 := nthZ zs 7) (N8 := nthZ zs 8) (N9 := nthZ zs 9) (by omega) H2 (by omega) H5 (by omega) H8 (by omega) H11 (by omega) (by omega) H14 (by omega)
  rcases List.mem_cons.mp hx with hx | hx
  · rw [hx]; refine s_fits.mpr ?_; exact L
  · cases hx
def q_fiI : qRl := ([(1091, [0, 2, 10], []), (1094, [2, 0, 1, 0, 1], []), sp 0 [(2, 1), (0, (-1))], sp (-1) [(1, 1), (2, (-1))], sp (-3) [(3, 1), (2, (-7))], sp 3 [(3, (-1)), (2, 7)], (1, [0, 3, 4], []), sp (-4) [(5, 1), (2, (-7))], sp 4 [(5, (-1)), (2, 7)], (1, [0, 5, 6], []), sp (-1) [(7, 1), (2, (-7))], sp 1 [(7, (-1)), (2, 7)], (1, [0, 7, 8], []), (1, [1, 8, 9], [])], [sp 0 [(9, 1), (4, (-1)), (6, (-1))]])
theorem q_fiI_ok : RlOk q_fiI := by
  intro fs zs h x hx
  obtain ⟨H0, h⟩ := snAll h
  replace H0 := s_us.mp H0
  obtain ⟨H1, h⟩ := snAll h
  replace H1 := s_fits.mp H1
  obtain ⟨H2, h⟩ := snAll h
  replace H2 := sp_2.mp H2
  obtain ⟨H3, h⟩ := snAll h
  replace H3 := sp_2.mp H3
  obtain ⟨H4, h⟩ := snAll h
  replace H4 := sp_2.mp H4
  obtain ⟨H5, h⟩ := snAll h
  replace H5 := sp_2.mp H5
  obtain ⟨H6, h⟩ := snAll h
  replace H6 := s_rd.mp H6
  obtain ⟨H7, h⟩ := snAll h
  replace H7 := sp_2.mp H7
  obtain ⟨H8, h⟩ := snAll h
  replace H8 := sp_2.mp H8
  obtain ⟨H9, h⟩ := snAll h
  replace H9 := s_rd.mp H9
  obtain ⟨H10, h⟩ := snAll h
  replace H10 := sp_2.mp H10
  obtain ⟨H11, h⟩ := snAll h
  replace H11 := sp_2.mp H11
  obtain ⟨H12, h⟩ := snAll h
  replace H12 := s_rd.mp H12
  obtain ⟨H13, h⟩ := snAll h
  replace H13 := s_rd.mp H13
  have L := L_fiI (F0 := nthF fs 0) (F1 := nthF fs 1) (N0 := nthZ zs 0) (N1 := nthZ zs 1) (N2 := nthZ zs 2) (N3 := nthZ zs 3) (N4 := nthZ zs 4) (N5 := nthZ zs 5) (N6 := nthZ zs 6) (N7 := nthZ zs 7) (N8 := nthZ zs 8) (N9 := nthZ zs 9) (N10 := nthZ zs 10) H0 H1 (by omega) (by omega) (by omega) H6 (by omega) H9 (by omega) H12 H13
  rcases List.mem_cons.mp hx with hx | hx
  · rw [hx]; refine sp_3.mpr ?_; omega
  · cases hx
def q_cuR : qRl := ([(2, [2, 1, 3, 4], []), (1096, [2, 0, 1, 0, 1, 2], []), sp (-17) [(3, 1), (0, (-17))]], [(1096, [2, 0, 2, 0, 1, 2], [])])
theorem q_cuR_ok : RlOk q_cuR := by
  intro fs zs h x hx
  obtain ⟨H0, h⟩ := snAll h
  replace H0 := s_wr.mp H0
  obtain ⟨H1, h⟩ := snAll h
  replace H1 := s_curS.mp H1
  obtain ⟨H2, h⟩ := snAll h
  replace H2 := sp_2.mp H2
  have L := L_cuR (F0 := nthF fs 0) (F1 := nthF fs 1) (F2 := nthF fs 2) (N0 := nthZ zs 0) (N1 := nthZ zs 1) (N2 := nthZ zs 2) (N3 := nthZ zs 3) (N4 := nthZ zs 4) H0 H1 (by omega)
  rcases List.mem_cons.mp hx with hx | hx
  · rw [hx]; refine s_curS.mpr ?_; exact L
  · cases hx
def q_rzEb : qRl := ([sp 0 [(0, (-1))]], [(1103, [1, 0, 0], [])])
theorem q_rzEb_ok : RlOk q_rzEb := by
  intro fs zs h x hx
  obtain ⟨H0, h⟩ := snAll h
  replace H0 := sp_1.mp H0
  have L := L_rzEb (F0 := nthF fs 0) (N0 := nthZ zs 0) (by omega)
  rcases List.mem_cons.mp hx with hx | hx
  · rw [hx]; refine s_rsz.mpr ?_; exact L
  · cases hx
def q_rzWb : qRl := ([(2, [1, 0, 1, 2], []), (1103, [1, 0, 0], []), sp 0 [(1, 1), (0, (-17))]], [(1103, [1, 1, 0], [])])
theorem q_rzWb_ok : RlOk q_rzWb := by
  intro fs zs h x hx
  obtain ⟨H0, h⟩ := snAll h
  replace H0 := s_wr.mp H0
  obtain ⟨H1, h⟩ := snAll h
  replace H1 := s_rsz.mp H1
  obtain ⟨H2, h⟩ := snAll h
  replace H2 := sp_2.mp H2
  have L := L_rzWb (F0 := nthF fs 0) (F1 := nthF fs 1) (N0 := nthZ zs 0) (N1 := nthZ zs 1) (N2 := nthZ zs 2) H0 H1 (by omega)
  rcases List.mem_cons.mp hx with hx | hx
  · rw [hx]; refine s_rsz.mpr ?_; exact L
  · cases hx
def q_rzI : qRl := ([(1091, [0, 1, 2], []), (1103, [1, 0, 0], []), sp 0 [(1, 1)], sp (-1) [(0, 1), (1, (-1))], sp 0 [(2, 1)], sp 2 [(2, (-1))], sp (-5) [(3, 1), (1, (-17)), (2, (-1))], sp 5 [(3, (-1)), (1, 17), (2, 1)], (1, [0, 3, 4], []), sp (-4) [(5, 1), (3, (-1))], sp 4 [(5, (-1)), (3, 1)], (1, [0, 5, 6], [])], [sp 131072 [(4, (-1)), (6, (-1))]])
theorem q_rzI_ok : RlOk q_rzI := by
  intro fs zs h x hx
  obtain ⟨H0, h⟩ := snAll h
  replace H0 := s_us.mp H0
  obtain ⟨H1, h⟩ := snAll h
  replace H1 := s_rsz.mp H1
  obtain ⟨H2, h⟩ := snAll h
  replace H2 := sp_1.mp H2
  obtain ⟨H3, h⟩ := snAll h
  replace H3 := sp_2.mp H3
  obtain ⟨H4, h⟩ := snAll h
  replace H4 := sp_1.mp H4
  obtain ⟨H5, h⟩ := snAll h
  replace H5 := sp_1.mp H5
  obtain ⟨H6, h⟩ := snAll h
  replace H6 := sp_3.mp H6
  obtain ⟨H7, h⟩ := snAll h
  replace H7 := sp_3.mp H7
  obtain ⟨H8, h⟩ := snAll h
  replace H8 := s_rd.mp H8
  obtain ⟨H9, h⟩ := snAll h
  replace H9 := sp_2.mp H9
  obtain ⟨H10, h⟩ := snAll h
  replace H10 := sp_2.mp H10
  obtain ⟨H11, h⟩ := snAll h
  replace H11 := s_rd.mp H11
  have L := L_rzI (F0 := nthF fs 0) (N0 := nthZ zs 0) (N1 := nthZ zs 1) (N2 := nthZ zs 2) (N3 := nthZ zs 3) (N4 := nthZ zs 4) (N5 := nthZ zs 5) (N6 := nthZ zs 6) H0 H1 (by omega) (by omega) (by omega) (by omega) (by omega) H8 (by omega) H11
  rcases List.mem_cons.mp hx with hx | hx
  · rw [hx]; refine sp_2.mpr ?_; omega
  · cases hx
def q_wkE : qRl := ([sp 0 [(0, (-1))], sp 0 []], [(1097, [2, 0, 1, 0, 1], [])])
theorem q_wkE_ok : RlOk q_wkE := by
  intro fs zs h x hx
  obtain ⟨H0, h⟩ := snAll h
  replace H0 := sp_1.mp H0
  obtain ⟨H1, h⟩ := snAll h
  replace H1 := sp_0.mp H1
  have L := L_wkE (F0 := nthF fs 0) (F1 := nthF fs 1) (N0 := nthZ zs 0) (N1 := nthZ zs 1) (by omega) (by omega)
  rcases List.mem_cons.mp hx with hx | hx
  · rw [hx]; refine s_wlk.mpr ?_; exact L
  · cases hx
def q_wkW : qRl := ([(2, [2, 0, 2, 3], []), (1097, [2, 0, 1, 0, 1], []), sp 0 [(2, 1), (0, (-6))]], [(1097, [2, 2, 1, 0, 1], [])])
theorem q_wkW_ok : RlOk q_wkW := by
  intro fs zs h x hx
  obtain ⟨H0, h⟩ := snAll h
  replace H0 := s_wr.mp H0
  obtain ⟨H1, h⟩ := snAll h
  replace H1 := s_wlk.mp H1
  obtain ⟨H2, h⟩ := snAll h
  replace H2 := sp_2.mp H2
  have L := L_wkW (F0 := nthF fs 0) (F1 := nthF fs 1) (F2 := nthF fs 2) (N0 := nthZ zs 0) (N1 := nthZ zs 1) (N2 := nthZ zs 2) (N3 := nthZ zs 3) H0 H1 (by omega)
  rcases List.mem_cons.mp hx with hx | hx
  · rw [hx]; refine s_wlk.mpr ?_; exact L
  · cases hx
def q_wkSb : qRl := ([(2, [2, 1, 2, 3], []), (1097, [2, 0, 1, 0, 1], []), sp 0 [(2, 1), (1, (-7))]], [(1097, [2, 0, 2, 0, 1], [])])
theorem q_wkSb_ok : RlOk q_wkSb := by
  intro fs zs h x hx
  obtain ⟨H0, h⟩ := snAll h
  replace H0 := s_wr.mp H0
  obtain ⟨H1, h⟩ := snAll h
  replace H1 := s_wlk.mp H1
  obtain ⟨H2, h⟩ := snAll h
  replace H2 := sp_2.mp H2
  have L := L_wkSb (F0 := nthF fs 0) (F1 := nthF fs 1) (F2 := nthF fs 2) (N0 := nthZ zs 0) (N1 := nthZ zs 1) (N2 := nthZ zs 2) (N3 := nthZ zs 3) H0 H1 (by omega)
  rcases List.mem_cons.mp hx with hx | hx
  · rw [hx]; refine s_wlk.mpr ?_; exact L
  · cases hx
def q_wkI : qRl := ([(1091, [0, 2, 9], []), (1097, [2, 0, 1, 0, 1], []), sp 0 [(2, 1)], sp (-1) [(0, 1), (2, (-1))], sp 0 [(3, 1), (2, (-6))], sp 0 [(3, (-1)), (2, 6)], (1, [0, 3, 4], [])], [sp 0 [(4, 1)], sp (-1) [(1, 1), (4, (-1))]])
theorem q_wkI_ok : RlOk q_wkI := by
  intro fs zs h x hx
  obtain ⟨H0, h⟩ := snAll h
  replace H0 := s_us.mp H0
  obtain ⟨H1, h⟩ := snAll h
  replace H1 := s_wlk.mp H1
  obtain ⟨H2, h⟩ := snAll h
  replace H2 := sp_1.mp H2
  obtain ⟨H3, h⟩ := snAll h
  replace H3 := sp_2.mp H3
  obtain ⟨H4, h⟩ := snAll h
  replace H4 := sp_2.mp H4
  obtain ⟨H5, h⟩ := snAll h
  replace H5 := sp_2.mp H5
  obtain ⟨H6, h⟩ := snAll h
  replace H6 := s_rd.mp H6
  have L := L_wkI (F0 := nthF fs 0) (F1 := nthF fs 1) (N0 := nthZ zs 0) (N1 := nthZ zs 1) (N2 := nthZ zs 2) (N3 := nthZ zs 3) (N4 := nthZ zs 4) (N5 := nthZ zs 5) (N6 := nthZ zs 6) (N7 := nthZ zs 7) (N8 := nthZ zs 8) (N9 := nthZ zs 9) H0 H1 (by omega) (by omega) (by omega) H6
  rcases List.mem_cons.mp hx with hx | hx
  · rw [hx]; refine sp_1.mpr ?_; omega
  rcases List.mem_cons.mp hx with hx | hx
  · rw [hx]; refine sp_2.mpr ?_; omega
  · cases hx
def q_wkJ : qRl := ([(1091, [0, 2, 9], []), (1097, [2, 0, 1, 0, 1], []), sp 0 [(2, 1)], sp (-1) [(0, 1), (2, (-1))], sp 0 [(3, 1), (2, (-6))], sp 0 [(3, (-1)), (2, 6)], (1, [0, 3, 4], []), sp (-1) [(5, 1), (2, (-6))], sp 1 [(5, (-1)), (2, 6)], (1, [0, 5, 6], []), sp (-2) [(7, 1), (2, (-6))], sp 2 [(7, (-1)), (2, 6)], (1, [0, 7, 8], []), sp (-1) [(8, 1)], sp (-4) [(10, 1), (4, (-7))], sp 4 [(10, (-1)), (4, 7)], (1, [1, 10, 11], [])], [sp 0 [(11, 1), (6, (-1)), (8, (-1))]])
theorem q_wkJ_ok : RlOk q_wkJ := by
  intro fs zs h x hx
  obtain ⟨H0, h⟩ := snAll h
  replace H0 := s_us.mp H0
  obtain ⟨H1, h⟩ := snAll h
  replace H1 := s_wlk.mp H1
  obtain ⟨H2, h⟩ := snAll h
  replace H2 := sp_1.mp H2
  obtain ⟨H3, h⟩ := snAll h
  replace H3 := sp_2.mp H3
  obtain ⟨H4, h⟩ := snAll h
  replace H4 := sp_2.mp H4
  obtain ⟨H5, h⟩ := snAll h
  replace H5 := sp_2.mp H5
  obtain ⟨H6, h⟩ := snAll h
  replace H6 := s_rd.mp H6
  obtain ⟨H7, h⟩ := snAll h
  replace H7 := sp_2.mp H7
  obtain ⟨H8, h⟩ := snAll h
  replace H8 := sp_2.mp H8
  obtain ⟨H9, h⟩ := snAll h
  replace H9 := s_rd.mp H9
  obtain ⟨H10, h⟩ := snAll h
  replace H10 := sp_2.mp H10
  obtain ⟨H11, h⟩ := snAll h
  replace H11 := sp_2.mp H11
  obtain ⟨H12, h⟩ := snAll h
  replace H12 := s_rd.mp H12
  obtain ⟨H13, h⟩ := snAll h
  replace H13 := sp_1.mp H13
  obtain ⟨H14, h⟩ := snAll h
  replace H14 := sp_2.mp H14
  obtain ⟨H15, h⟩ := snAll h
  replace H15 := sp_2.mp H15
  obtain ⟨H16, h⟩ := snAll h
  replace H16 := s_rd.mp H16
  have L := L_wkJ (F0 := nthF fs 0) (F1 := nthF fs 1) (N0 := nthZ zs 0) (N1 := nthZ zs 1) (N2 := nthZ zs 2) (N3 := nthZ zs 3) (N4 := nthZ zs 4) (N5 := nthZ zs 5) (N6 := nthZ zs 6) (N7 := nthZ zs 7) (N8 := nthZ zs 8) (N9 := nthZ zs 9) (N10 := nthZ zs 10) (N11 := nthZ zs 11) H0 H1 (by omega) (by omega) (by omega) H6 (by omega) H9 (by omega) H12 (by omega) (by omega) H16
  rcases List.mem_cons.mp hx with hx | hx
  · rw [hx]; refine sp_3.mpr ?_; omega
  · cases hx
def q_wcE : qRl := ([sp 0 [(0, 1), (1, (-1))]], [(1100, [2, 0, 1, 0, 1], [])])
theorem q_wcE_ok : RlOk q_wcE := by
  intro fs zs h x hx
  obtain ⟨H0, h⟩ := snAll h
  replace H0 := sp_2.mp H0
  have L := L_wcE (F0 := nthF fs 0) (F1 := nthF fs 1) (N0 := nthZ zs 0) (N1 := nthZ zs 1) (by omega)
  rcases List.mem_cons.mp hx with hx | hx
  · rw [hx]; refine s_wlc.mpr ?_; exact L
  · cases hx
def q_wcW : qRl := ([(2, [2, 0, 2, 3], []), (1100, [2, 0, 1, 0, 1], []), sp 0 [(2, 1), (1, (-6))]], [(1100, [2, 2, 1, 0, 1], [])])
theorem q_wcW_ok : RlOk q_wcW := by
  intro fs zs h x hx
  obtain ⟨H0, h⟩ := snAll h
  replace H0 := s_wr.mp H0
  obtain ⟨H1, h⟩ := snAll h
  replace H1 := s_wlc.mp H1
  obtain ⟨H2, h⟩ := snAll h
  replace H2 := sp_2.mp H2
  have L := L_wcW (F0 := nthF fs 0) (F1 := nthF fs 1) (F2 := nthF fs 2) (N0 := nthZ zs 0) (N1 := nthZ zs 1) (N2 := nthZ zs 2) (N3 := nthZ zs 3) H0 H1 (by omega)
  rcases List.mem_cons.mp hx with hx | hx
  · rw [hx]; refine s_wlc.mpr ?_; exact L
  · cases hx
def q_wcX0 : qRl := ([sp 1 [(2, 1), (1, (-1))], sp (-1) [(2, (-1)), (1, 1)], (1100, [2, 0, 1, 0, 2], []), sp 4 [(3, 1), (1, (-6))], sp (-4) [(3, (-1)), (1, 6)], (1, [0, 3, 4], []), sp 0 [(4, 1)], sp 0 [(4, (-1))]], [(1100, [2, 0, 1, 0, 1], [])])
theorem q_wcX0_ok : RlOk q_wcX0 := by
  intro fs zs h x hx
  obtain ⟨H0, h⟩ := snAll h
  replace H0 := sp_2.mp H0
  obtain ⟨H1, h⟩ := snAll h
  replace H1 := sp_2.mp H1
  obtain ⟨H2, h⟩ := snAll h
  replace H2 := s_wlc.mp H2
  obtain ⟨H3, h⟩ := snAll h
  replace H3 := sp_2.mp H3
  obtain ⟨H4, h⟩ := snAll h
  replace H4 := sp_2.mp H4
  obtain ⟨H5, h⟩ := snAll h
  replace H5 := s_rd.mp H5
  obtain ⟨H6, h⟩ := snAll h
  replace H6 := sp_1.mp H6
  obtain ⟨H7, h⟩ := snAll h
  replace H7 := sp_1.mp H7
  have L := L_wcX0 (F0 := nthF fs 0) (F1 := nthF fs 1) (N0 := nthZ zs 0) (N1 := nthZ zs 1) (N2 := nthZ zs 2) (N3 := nthZ zs 3) (N4 := nthZ zs 4) (by omega) H2 (by omega) H5 (by omega) (by omega)
  rcases List.mem_cons.mp hx with hx | hx
  · rw [hx]; refine s_wlc.mpr ?_; exact L
  · cases hx
def q_wcX1 : qRl := ([sp 1 [(2, 1), (1, (-1))], sp (-1) [(2, (-1)), (1, 1)], (1100, [2, 0, 1, 0, 2], []), (1099, [2, 0, 1, 3, 4, 5, 6, 7], []), sp (-1) [(7, (-1))], sp 0 [(2, 1), (3, (-1))], sp 0 [(4, 1), (1, (-1))], sp 6 [(12, 1), (1, (-6))], sp (-6) [(12, (-1)), (1, 6)], (1, [0, 12, 8], []), sp (-1) [(5, 1), (8, (-1))], sp 0 [(13, 1), (8, (-7))], sp 0 [(13, (-1)), (8, 7)], (1, [1, 13, 9], []), sp 3 [(9, (-1))]], [(1100, [2, 0, 1, 0, 1], [])])
theorem q_wcX1_ok : RlOk q_wcX1 := by
  intro fs zs h x hx
  obtain ⟨H0, h⟩ := snAll h
  replace H0 := sp_2.mp H0
  obtain ⟨H1, h⟩ := snAll h
  replace H1 := sp_2.mp H1
  obtain ⟨H2, h⟩ := snAll h
  replace H2 := s_wlc.mp H2
  obtain ⟨H3, h⟩ := snAll h
  replace H3 := s_curL.mp H3
  obtain ⟨H4, h⟩ := snAll h
  replace H4 := sp_1.mp H4
  obtain ⟨H5, h⟩ := snAll h
  replace H5 := sp_2.mp H5
  obtain ⟨H6, h⟩ := snAll h
  replace H6 := sp_2.mp H6
  obtain ⟨H7, h⟩ := snAll h
  replace H7 := sp_2.mp H7
  obtain ⟨H8, h⟩ := snAll h
  replace H8 := sp_2.mp H8
  obtain ⟨H9, h⟩ := snAll h
  replace H9 := s_rd.mp H9
  obtain ⟨H10, h⟩ := snAll h
  replace H10 := sp_2.mp H10
  obtain ⟨H11, h⟩ := snAll h
  replace H11 := sp_2.mp H11
  obtain ⟨H12, h⟩ := snAll h
  replace H12 := sp_2.mp H12
  obtain ⟨H13, h⟩ := snAll h
  replace H13 := s_rd.mp H13
  obtain ⟨H14, h⟩ := snAll h
  replace H14 := sp_1.mp H14
  have L := L_wcX1 (F0 := nthF fs 0) (F1 := nthF fs 1) (N0 := nthZ zs 0) (N1 := nthZ zs 1) (N2 := nthZ zs 2) (N3 := nthZ zs 3) (N4 := nthZ zs 4) (N5 := nthZ zs 5) (N6 := nthZ zs 6) (N7 := nthZ zs 7) (N8 := nthZ zs 8) (N9 := nthZ zs 9) (N10 := nthZ zs 10) (N11 := nthZ zs 11) (N12 := nthZ zs 12) (N13 := nthZ zs 13) (by omega) H2 H3 (by omega) (by omega) (by omega) (by omega) H9 (by omega) (by omega) H13 (by omega)
  rcases List.mem_cons.mp hx with hx | hx
  · rw [hx]; refine s_wlc.mpr ?_; exact L
  · cases hx
def q_wcX4 : qRl := ([sp 1 [(2, 1), (1, (-1))], sp (-1) [(2, (-1)), (1, 1)], (1100, [2, 0, 1, 0, 2], []), (1099, [2, 0, 1, 3, 4, 5, 6, 7], []), sp (-1) [(7, (-1))], sp 0 [(2, 1), (3, (-1))], sp 0 [(4, 1), (1, (-1))], sp 6 [(12, 1), (1, (-6))], sp (-6) [(12, (-1)), (1, 6)], (1, [0, 12, 8], []), sp (-1) [(5, 1), (8, (-1))], sp 0 [(13, 1), (8, (-7))], sp 0 [(13, (-1)), (8, 7)], (1, [1, 13, 9], []), sp (-4) [(9, 1)], sp (-4) [(14, 1), (8, (-7))], sp 4 [(14, (-1)), (8, 7)], (1, [1, 14, 10], []), sp (-6) [(10, 1)]], [(1100, [2, 0, 1, 0, 1], [])])
theorem q_wcX4_ok : RlOk q_wcX4 := by
  intro fs zs h x hx
  obtain ⟨H0, h⟩ := snAll h
  replace H0 := sp_2.mp H0
  obtain ⟨H1, h⟩ := snAll h
  replace H1 := sp_2.mp H1
  obtain ⟨H2, h⟩ := snAll h
  replace H2 := s_wlc.mp H2
  obtain ⟨H3, h⟩ := snAll h
  replace H3 := s_curL.mp H3
  obtain ⟨H4, h⟩ := snAll h
  replace H4 := sp_1.mp H4
  obtain ⟨H5, h⟩ := snAll h
  replace H5 := sp_2.mp H5
  obtain ⟨H6, h⟩ := snAll h
  replace H6 := sp_2.mp H6
  obtain ⟨H7, h⟩ := snAll h
  replace H7 := sp_2.mp H7
  obtain ⟨H8, h⟩ := snAll h
  replace H8 := sp_2.mp H8
  obtain ⟨H9, h⟩ := snAll h
  replace H9 := s_rd.mp H9
  obtain ⟨H10, h⟩ := snAll h
  replace H10 := sp_2.mp H10
  obtain ⟨H11, h⟩ := snAll h
  replace H11 := sp_2.mp H11
  obtain ⟨H12, h⟩ := snAll h
  replace H12 := sp_2.mp H12
  obtain ⟨H13, h⟩ := snAll h
  replace H13 := s_rd.mp H13
  obtain ⟨H14, h⟩ := snAll h
  replace H14 := sp_1.mp H14
  obtain ⟨H15, h⟩ := snAll h
  replace H15 := sp_2.mp H15
  obtain ⟨H16, h⟩ := snAll h
  replace H16 := sp_2.mp H16
  obtain ⟨H17, h⟩ := snAll h
  replace H17 := s_rd.mp H17
  obtain ⟨H18, h⟩ := snAll h
  replace H18 := sp_1.mp H18
  have L := L_wcX4 (F0 := nthF fs 0) (F1 := nthF fs 1) (N0 := nthZ zs 0) (N1 := nthZ zs 1) (N2 := nthZ zs 2) (N3 := nthZ zs 3) (N4 := nthZ zs 4) (N5 := nthZ zs 5) (N6 := nthZ zs 6) (N7 := nthZ zs 7) (N8 := nthZ zs 8) (N9 := nthZ zs 9) (N10 := nthZ zs 10) (N11 := nthZ zs 11) (N12 := nthZ zs 12) (N13 := nthZ zs 13) (N14 := nthZ zs 14) (by omega) H2 H3 (by omega) (by omega) (by omega) (by omega) H9 (by omega) (by omega) H13 (by omega) (by omega) H17 (by omega)
  rcases List.mem_cons.mp hx with hx | hx
  · rw [hx]; refine s_wlc.mpr ?_; exact L
  · cases hx
def q_wcX5 : qRl := ([sp 1 [(2, 1), (1, (-1))], sp (-1) [(2, (-1)), (1, 1)], (1100, [2, 0, 1, 0, 2], []), (1099, [2, 0, 1, 3, 4, 5, 6, 7], []), sp (-1) [(7, (-1))], sp 0 [(2, 1), (3, (-1))], sp 0 [(4, 1), (1, (-1))], sp 6 [(12, 1), (1, (-6))], sp (-6) [(12, (-1)), (1, 6)], (1, [0, 12, 8], []), sp (-1) [(5, 1), (8, (-1))], sp 0 [(13, 1), (8, (-7))], sp 0 [(13, (-1)), (8, 7)], (1, [1, 13, 9], []), sp (-4) [(9, 1)], sp (-4) [(14, 1), (8, (-7))], sp 4 [(14, (-1)), (8, 7)], (1, [1, 14, 10], []), sp (-5) [(10, 1)], sp (-5) [(15, 1), (8, (-7))], sp 5 [(15, (-1)), (8, 7)], (1, [1, 15, 11], []), sp (-1) [(11, (-1))]], [(1100, [2, 0, 1, 0, 1], [])])
theorem q_wcX5_ok : RlOk q_wcX5 := by
  intro fs zs h x hx
  obtain ⟨H0, h⟩ := snAll h
  replace H0 := sp_2.mp H0
  obtain ⟨H1, h⟩ := snAll h
  replace H1 := sp_2.mp H1
  obtain ⟨H2, h⟩ := snAll h
  replace H2 := s_wlc.mp H2
  obtain ⟨H3, h⟩ := snAll h
  replace H3 := s_curL.mp H3
  obtain ⟨H4, h⟩ := snAll h
  replace H4 := sp_1.mp H4
  obtain ⟨H5, h⟩ := snAll h
  replace H5 := sp_2.mp H5
  obtain ⟨H6, h⟩ := snAll h
  replace H6 := sp_2.mp H6
  obtain ⟨H7, h⟩ := snAll h
  replace H7 := sp_2.mp H7
  obtain ⟨H8, h⟩ := snAll h
  replace H8 := sp_2.mp H8
  obtain ⟨H9, h⟩ := snAll h
  replace H9 := s_rd.mp H9
  obtain ⟨H10, h⟩ := snAll h
  replace H10 := sp_2.mp H10
  obtain ⟨H11, h⟩ := snAll h
  replace H11 := sp_2.mp H11
  obtain ⟨H12, h⟩ := snAll h
  replace H12 := sp_2.mp H12
  obtain ⟨H13, h⟩ := snAll h
  replace H13 := s_rd.mp H13
  obtain ⟨H14, h⟩ := snAll h
  replace H14 := sp_1.mp H14
  obtain ⟨H15, h⟩ := snAll h
  replace H15 := sp_2.mp H15
  obtain ⟨H16, h⟩ := snAll h
  replace H16 := sp_2.mp H16
  obtain ⟨H17, h⟩ := snAll h
  replace H17 := s_rd.mp H17
  obtain ⟨H18, h⟩ := snAll h
  replace H18 := sp_1.mp H18
  obtain ⟨H19, h⟩ := snAll h
  replace H19 := sp_2.mp H19
  obtain ⟨H20, h⟩ := snAll h
  replace H20 := sp_2.mp H20
  obtain ⟨H21, h⟩ := snAll h
  replace H21 := s_rd.mp H21
  obtain ⟨H22, h⟩ := snAll h
  replace H22 := sp_1.mp H22
  have L := L_wcX5 (F0 := nthF fs 0) (F1 := nthF fs 1) (N0 := nthZ zs 0) (N1 := nthZ zs 1) (N2 := nthZ zs 2) (N3 := nthZ zs 3) (N4 := nthZ zs 4) (N5 := nthZ zs 5) (N6 := nthZ zs 6) (N7 := nthZ zs 7) (N8 := nthZ zs 8) (N9 := nthZ zs 9) (N10 := nthZ zs 10) (N11 := nthZ zs 11) (N12 := nthZ zs 12) (N13 := nthZ zs 13) (N14 := nthZ zs 14) (N15 := nthZ zs 15) (by omega) H2 H3 (by omega) (by omega) (by omega) (by omega) H9 (by omega) (by omega) H13 (by omega) (by omega) H17 (by omega) (by omega) H21 (by omega)
  rcases List.mem_cons.mp hx with hx | hx
  · rw [hx]; refine s_wlc.mpr ?_; exact L
  · cases hx
def q_cLE : qRl := ([sp 0 [(0, 1), (1, (-1))], sp 0 [], sp 0 [], sp 0 []], [(1099, [2, 0, 1, 0, 1, 2, 3, 4], [])])
theorem q_cLE_ok : RlOk q_cLE := by
  intro fs zs h x hx
  obtain ⟨H0, h⟩ := snAll h
  replace H0 := sp_2.mp H0
  obtain ⟨H1, h⟩ := snAll h
  replace H1 := sp_0.mp H1
  obtain ⟨H2, h⟩ := snAll h
  replace H2 := sp_0.mp H2
  obtain ⟨H3, h⟩ := snAll h
  replace H3 := sp_0.mp H3
  have L := L_cLE (F0 := nthF fs 0) (F1 := nthF fs 1) (N0 := nthZ zs 0) (N1 := nthZ zs 1) (N2 := nthZ zs 2) (N3 := nthZ zs 3) (N4 := nthZ zs 4) (by omega) (by omega) (by omega) (by omega)
  rcases List.mem_cons.mp hx with hx | hx
  · rw [hx]; refine s_curL.mpr ?_; exact L
  · cases hx
def q_cLs : qRl := ([sp 0 [(4, 1)], sp 0 [], sp 0 [], sp 0 [], sp 0 []], [(1099, [2, 0, 1, 0, 1, 2, 3, 4], [])])
theorem q_cLs_ok : RlOk q_cLs := by
  intro fs zs h x hx
  obtain ⟨H0, h⟩ := snAll h
  replace H0 := sp_1.mp H0
  obtain ⟨H1, h⟩ := snAll h
  replace H1 := sp_0.mp H1
  obtain ⟨H2, h⟩ := snAll h
  replace H2 := sp_0.mp H2
  obtain ⟨H3, h⟩ := snAll h
  replace H3 := sp_0.mp H3
  obtain ⟨H4, h⟩ := snAll h
  replace H4 := sp_0.mp H4
  have L := L_cLs (F0 := nthF fs 0) (F1 := nthF fs 1) (N0 := nthZ zs 0) (N1 := nthZ zs 1) (N2 := nthZ zs 2) (N3 := nthZ zs 3) (N4 := nthZ zs 4) (by omega) (by omega) (by omega) (by omega) (by omega)
  rcases List.mem_cons.mp hx with hx | hx
  · rw [hx]; refine s_curL.mpr ?_; exact L
  · cases hx
def q_cLZ : qRl := ([(1099, [2, 0, 1, 5, 1, 2, 6, 7], []), sp 0 [(0, 1), (5, (-1))], sp 0 [(3, 1), (6, (-1))], sp 0 [(4, 1), (7, (-1))]], [(1099, [2, 0, 1, 0, 1, 2, 3, 4], [])])
theorem q_cLZ_ok : RlOk q_cLZ := by
  intro fs zs h x hx
  obtain ⟨H0, h⟩ := snAll h
  replace H0 := s_curL.mp H0
  obtain ⟨H1, h⟩ := snAll h
  replace H1 := sp_2.mp H1
  obtain ⟨H2, h⟩ := snAll h
  replace H2 := sp_2.mp H2
  obtain ⟨H3, h⟩ := snAll h
  replace H3 := sp_2.mp H3
  have L := L_cLZ (F0 := nthF fs 0) (F1 := nthF fs 1) (N0 := nthZ zs 0) (N1 := nthZ zs 1) (N2 := nthZ zs 2) (N3 := nthZ zs 3) (N4 := nthZ zs 4) (N5 := nthZ zs 5) (N6 := nthZ zs 6) (N7 := nthZ zs 7) H0 (by omega) (by omega) (by omega)
  rcases List.mem_cons.mp hx with hx | hx
  · rw [hx]; refine s_curL.mpr ?_; exact L
  · cases hx
def q_cLO : qRl := ([(1099, [2, 0, 1, 5, 1, 2, 6, 7], []), sp 0 [(0, 1), (5, (-1))], sp 0 [(3, 1), (6, (-1))], sp (-1) [(7, (-1))], sp 0 []], [(1099, [2, 0, 1, 0, 1, 2, 3, 4], [])])
theorem q_cLO_ok : RlOk q_cLO := by
  intro fs zs h x hx
  obtain ⟨H0, h⟩ := snAll h
  replace H0 := s_curL.mp H0
  obtain ⟨H1, h⟩ := snAll h
  replace H1 := sp_2.mp H1
  obtain ⟨H2, h⟩ := snAll h
  replace H2 := sp_2.mp H2
  obtain ⟨H3, h⟩ := snAll h
  replace H3 := sp_1.mp H3
  obtain ⟨H4, h⟩ := snAll h
  replace H4 := sp_0.mp H4
  have L := L_cLO (F0 := nthF fs 0) (F1 := nthF fs 1) (N0 := nthZ zs 0) (N1 := nthZ zs 1) (N2 := nthZ zs 2) (N3 := nthZ zs 3) (N4 := nthZ zs 4) (N5 := nthZ zs 5) (N6 := nthZ zs 6) (N7 := nthZ zs 7) H0 (by omega) (by omega) (by omega) (by omega)
  rcases List.mem_cons.mp hx with hx | hx
  · rw [hx]; refine s_curL.mpr ?_; exact L
  · cases hx
def q_cLW : qRl := ([(2, [2, 0, 5, 6], []), (1099, [2, 0, 1, 0, 1, 2, 3, 4], []), sp 0 [(5, 1), (1, (-6))]], [(1099, [2, 2, 1, 0, 1, 2, 3, 4], [])])
theorem q_cLW_ok : RlOk q_cLW := by
  intro fs zs h x hx
  obtain ⟨H0, h⟩ := snAll h
  replace H0 := s_wr.mp H0
  obtain ⟨H1, h⟩ := snAll h
  replace H1 := s_curL.mp H1
  obtain ⟨H2, h⟩ := snAll h
  replace H2 := sp_2.mp H2
  have L := L_cLW (F0 := nthF fs 0) (F1 := nthF fs 1) (F2 := nthF fs 2) (N0 := nthZ zs 0) (N1 := nthZ zs 1) (N2 := nthZ zs 2) (N3 := nthZ zs 3) (N4 := nthZ zs 4) (N5 := nthZ zs 5) (N6 := nthZ zs 6) H0 H1 (by omega)
  rcases List.mem_cons.mp hx with hx | hx
  · rw [hx]; refine s_curL.mpr ?_; exact L
  · cases hx
def q_cLV : qRl := ([(2, [2, 0, 5, 6], []), (1099, [2, 0, 1, 0, 1, 2, 3, 4], []), sp (-1) [(0, 6), (5, (-1))]], [(1099, [2, 2, 1, 0, 1, 2, 3, 4], [])])
theorem q_cLV_ok : RlOk q_cLV := by
  intro fs zs h x hx
  obtain ⟨H0, h⟩ := snAll h
  replace H0 := s_wr.mp H0
  obtain ⟨H1, h⟩ := snAll h
  replace H1 := s_curL.mp H1
  obtain ⟨H2, h⟩ := snAll h
  replace H2 := sp_2.mp H2
  have L := L_cLV (F0 := nthF fs 0) (F1 := nthF fs 1) (F2 := nthF fs 2) (N0 := nthZ zs 0) (N1 := nthZ zs 1) (N2 := nthZ zs 2) (N3 := nthZ zs 3) (N4 := nthZ zs 4) (N5 := nthZ zs 5) (N6 := nthZ zs 6) H0 H1 (by omega)
  rcases List.mem_cons.mp hx with hx | hx
  · rw [hx]; refine s_curL.mpr ?_; exact L
  · cases hx
def q_cLX : qRl := ([sp 1 [(5, 1), (1, (-1))], sp (-1) [(5, (-1)), (1, 1)], (1099, [2, 0, 1, 0, 5, 2, 6, 4], []), sp 0 [(3, 1), (6, (-1))], sp 6 [(7, 1), (1, (-6))], sp (-6) [(7, (-1)), (1, 6)], (1, [0, 7, 8], []), sp 0 [(8, 1), (2, (-1))], sp 0 [(2, 1), (8, (-1))], sp 5 [(9, 1), (1, (-6))], sp (-5) [(9, (-1)), (1, 6)], (1, [0, 9, 10], []), sp 4 [(11, 1), (1, (-6))], sp (-4) [(11, (-1)), (1, 6)], (1, [0, 11, 12], []), sp 0 [(10, 1)], sp 0 [(12, 1)], sp 0 [(3, 1), (10, (-1)), (12, (-1))]], [(1099, [2, 0, 1, 0, 1, 2, 3, 4], [])])
theorem q_cLX_ok : RlOk q_cLX := by
  intro fs zs h x hx
  obtain ⟨H0, h⟩ := snAll h
  replace H0 := sp_2.mp H0
  obtain ⟨H1, h⟩ := snAll h
  replace H1 := sp_2.mp H1
  obtain ⟨H2, h⟩ := snAll h
  replace H2 := s_curL.mp H2
  obtain ⟨H3, h⟩ := snAll h
  replace H3 := sp_2.mp H3
  obtain ⟨H4, h⟩ := snAll h
  replace H4 := sp_2.mp H4
  obtain ⟨H5, h⟩ := snAll h
  replace H5 := sp_2.mp H5
  obtain ⟨H6, h⟩ := snAll h
  replace H6 := s_rd.mp H6
  obtain ⟨H7, h⟩ := snAll h
  replace H7 := sp_2.mp H7
  obtain ⟨H8, h⟩ := snAll h
  replace H8 := sp_2.mp H8
  obtain ⟨H9, h⟩ := snAll h
  replace H9 := sp_2.mp H9
  obtain ⟨H10, h⟩ := snAll h
  replace H10 := sp_2.mp H10
  obtain ⟨H11, h⟩ := snAll h
  replace H11 := s_rd.mp H11
  obtain ⟨H12, h⟩ := snAll h
  replace H12 := sp_2.mp H12
  obtain ⟨H13, h⟩ := snAll h
  replace H13 := sp_2.mp H13
  obtain ⟨H14, h⟩ := snAll h
  replace H14 := s_rd.mp H14
  obtain ⟨H15, h⟩ := snAll h
  replace H15 := sp_1.mp H15
  obtain ⟨H16, h⟩ := snAll h
  replace H16 := sp_1.mp H16
  obtain ⟨H17, h⟩ := snAll h
  replace H17 := sp_3.mp H17
  have L := L_cLX (F0 := nthF fs 0) (F1 := nthF fs 1) (N0 := nthZ zs 0) (N1 := nthZ zs 1) (N2 := nthZ zs 2) (N3 := nthZ zs 3) (N4 := nthZ zs 4) (N5 := nthZ zs 5) (N6 := nthZ zs 6) (N7 := nthZ zs 7) (N8 := nthZ zs 8) (N9 := nthZ zs 9) (N10 := nthZ zs 10) (N11 := nthZ zs 11) (N12 := nthZ zs 12) (by omega) H2 (by omega) (by omega) H6 (by omega) (by omega) (by omega) H11 (by omega) H14 (by omega) (by omega) (by omega)
  rcases List.mem_cons.mp hx with hx | hx
  · rw [hx]; refine s_curL.mpr ?_; exact L
  · cases hx
def q_cLS : qRl := ([(2, [2, 1, 5, 6], []), (1099, [2, 0, 1, 0, 1, 2, 3, 4], []), sp 0 [(5, 1), (2, (-7))]], [(1099, [2, 0, 2, 0, 1, 2, 3, 4], [])])
theorem q_cLS_ok : RlOk q_cLS := by
  intro fs zs h x hx
  obtain ⟨H0, h⟩ := snAll h
  replace H0 := s_wr.mp H0
  obtain ⟨H1, h⟩ := snAll h
  replace H1 := s_curL.mp H1
  obtain ⟨H2, h⟩ := snAll h
  replace H2 := sp_2.mp H2
  have L := L_cLS (F0 := nthF fs 0) (F1 := nthF fs 1) (F2 := nthF fs 2) (N0 := nthZ zs 0) (N1 := nthZ zs 1) (N2 := nthZ zs 2) (N3 := nthZ zs 3) (N4 := nthZ zs 4) (N5 := nthZ zs 5) (N6 := nthZ zs 6) H0 H1 (by omega)
  rcases List.mem_cons.mp hx with hx | hx
  · rw [hx]; refine s_curL.mpr ?_; exact L
  · cases hx
def q_cLT : qRl := ([(2, [2, 1, 5, 6], []), (1091, [0, 10, 11], []), (1099, [2, 0, 1, 0, 1, 2, 3, 4], []), sp (-1) [(5, 1), (10, (-7))], sp 3 [(10, 7), (5, (-1))]], [(1099, [2, 0, 2, 0, 1, 2, 3, 4], [])])
theorem q_cLT_ok : RlOk q_cLT := by
  intro fs zs h x hx
  obtain ⟨H0, h⟩ := snAll h
  replace H0 := s_wr.mp H0
  obtain ⟨H1, h⟩ := snAll h
  replace H1 := s_us.mp H1
  obtain ⟨H2, h⟩ := snAll h
  replace H2 := s_curL.mp H2
  obtain ⟨H3, h⟩ := snAll h
  replace H3 := sp_2.mp H3
  obtain ⟨H4, h⟩ := snAll h
  replace H4 := sp_2.mp H4
  have L := L_cLT (F0 := nthF fs 0) (F1 := nthF fs 1) (F2 := nthF fs 2) (N0 := nthZ zs 0) (N1 := nthZ zs 1) (N2 := nthZ zs 2) (N3 := nthZ zs 3) (N4 := nthZ zs 4) (N5 := nthZ zs 5) (N6 := nthZ zs 6) (N7 := nthZ zs 7) (N8 := nthZ zs 8) (N9 := nthZ zs 9) (N10 := nthZ zs 10) (N11 := nthZ zs 11) H0 H1 H2 (by omega) (by omega)
  rcases List.mem_cons.mp hx with hx | hx
  · rw [hx]; refine s_curL.mpr ?_; exact L
  · cases hx
def q_cLL0 : qRl := ([(2, [2, 1, 5, 6], []), (1091, [0, 10, 11], []), (1099, [2, 0, 1, 0, 1, 2, 3, 4], []), sp (-4) [(5, 1), (10, (-7))], sp 4 [(10, 7), (5, (-1))], sp 0 [(13, 1), (10, (-7))], sp 0 [(13, (-1)), (10, 7)], (1, [1, 13, 12], []), sp (-2) [(12, 1)], sp 2 [(12, (-1))]], [(1099, [2, 0, 2, 0, 1, 2, 3, 4], [])])
theorem q_cLL0_ok : RlOk q_cLL0 := by
  intro fs zs h x hx
  obtain ⟨H0, h⟩ := snAll h
  replace H0 := s_wr.mp H0
  obtain ⟨H1, h⟩ := snAll h
  replace H1 := s_us.mp H1
  obtain ⟨H2, h⟩ := snAll h
  replace H2 := s_curL.mp H2
  obtain ⟨H3, h⟩ := snAll h
  replace H3 := sp_2.mp H3
  obtain ⟨H4, h⟩ := snAll h
  replace H4 := sp_2.mp H4
  obtain ⟨H5, h⟩ := snAll h
  replace H5 := sp_2.mp H5
  obtain ⟨H6, h⟩ := snAll h
  replace H6 := sp_2.mp H6
  obtain ⟨H7, h⟩ := snAll h
  replace H7 := s_rd.mp H7
  obtain ⟨H8, h⟩ := snAll h
  replace H8 := sp_1.mp H8
  obtain ⟨H9, h⟩ := snAll h
  replace H9 := sp_1.mp H9
  have L := L_cLL0 (F0 := nthF fs 0) (F1 := nthF fs 1) (F2 := nthF fs 2) (N0 := nthZ zs 0) (N1 := nthZ zs 1) (N2 := nthZ zs 2) (N3 := nthZ zs 3) (N4 := nthZ zs 4) (N5 := nthZ zs 5) (N6 := nthZ zs 6) (N7 := nthZ zs 7) (N8 := nthZ zs 8) (N9 := nthZ zs 9) (N10 := nthZ zs 10) (N11 := nthZ zs 11) (N12 := nthZ zs 12) (N13 := nthZ zs 13) H0 H1 H2 (by omega) (by omega) (by omega) H7 (by omega) (by omega)
  rcases List.mem_cons.mp hx with hx | hx
  · rw [hx]; refine s_curL.mpr ?_; exact L
  · cases hx
def q_cLL1 : qRl := ([(2, [2, 1, 5, 6], []), (1091, [0, 10, 11], []), (1099, [2, 0, 1, 0, 1, 2, 3, 4], []), sp (-4) [(5, 1), (10, (-7))], sp 4 [(10, 7), (5, (-1))], sp 0 [(13, 1), (10, (-7))], sp 0 [(13, (-1)), (10, 7)], (1, [1, 13, 12], []), sp (-4) [(12, 1)]], [(1099, [2, 0, 2, 0, 1, 2, 3, 4], [])])
theorem q_cLL1_ok : RlOk q_cLL1 := by
  intro fs zs h x hx
  obtain ⟨H0, h⟩ := snAll h
  replace H0 := s_wr.mp H0
  obtain ⟨H1, h⟩ := snAll h
  replace H1 := s_us.mp H1
  obtain ⟨H2, h⟩ := snAll h
  replace H2 := s_curL.mp H2
  obtain ⟨H3, h⟩ := snAll h
  replace H3 := sp_2.mp H3
  obtain ⟨H4, h⟩ := snAll h
  replace H4 := sp_2.mp H4
  obtain ⟨H5, h⟩ := snAll h
  replace H5 := sp_2.mp H5
  obtain ⟨H6, h⟩ := snAll h
  replace H6 := sp_2.mp H6
  obtain ⟨H7, h⟩ := snAll h
  replace H7 := s_rd.mp H7
  obtain ⟨H8, h⟩ := snAll h
  replace H8 := sp_1.mp H8
  have L := L_cLL1 (F0 := nthF fs 0) (F1 := nthF fs 1) (F2 := nthF fs 2) (N0 := nthZ zs 0) (N1 := nthZ zs 1) (N2 := nthZ zs 2) (N3 := nthZ zs 3) (N4 := nthZ zs 4) (N5 := nthZ zs 5) (N6 := nthZ zs 6) (N7 := nthZ zs 7) (N8 := nthZ zs 8) (N9 := nthZ zs 9) (N10 := nthZ zs 10) (N11 := nthZ zs 11) (N12 := nthZ zs 12) (N13 := nthZ zs 13) H0 H1 H2 (by omega) (by omega) (by omega) H7 (by omega)
  rcases List.mem_cons.mp hx with hx | hx
  · rw [hx]; refine s_curL.mpr ?_; exact L
  · cases hx
def q_cLK : qRl := ([(2, [2, 1, 5, 6], []), (1091, [0, 10, 11], []), (1099, [2, 0, 1, 0, 1, 2, 3, 4], []), sp 0 [(5, 1), (10, (-7))], sp 0 [(10, 7), (5, (-1))], (1, [1, 5, 12], []), sp (-4) [(12, 1)], sp (-4) [(6, 1)]], [(1099, [2, 0, 2, 0, 1, 2, 3, 4], [])])
theorem q_cLK_ok : RlOk q_cLK := by
  intro fs zs h x hx
  obtain ⟨H0, h⟩ := snAll h
  replace H0 := s_wr.mp H0
  obtain ⟨H1, h⟩ := snAll h
  replace H1 := s_us.mp H1
  obtain ⟨H2, h⟩ := snAll h
  replace H2 := s_curL.mp H2
  obtain ⟨H3, h⟩ := snAll h
  replace H3 := sp_2.mp H3
  obtain ⟨H4, h⟩ := snAll h
  replace H4 := sp_2.mp H4
  obtain ⟨H5, h⟩ := snAll h
  replace H5 := s_rd.mp H5
  obtain ⟨H6, h⟩ := snAll h
  replace H6 := sp_1.mp H6
  obtain ⟨H7, h⟩ := snAll h
  replace H7 := sp_1.mp H7
  have L := L_cLK (F0 := nthF fs 0) (F1 := nthF fs 1) (F2 := nthF fs 2) (N0 := nthZ zs 0) (N1 := nthZ zs 1) (N2 := nthZ zs 2) (N3 := nthZ zs 3) (N4 := nthZ zs 4) (N5 := nthZ zs 5) (N6 := nthZ zs 6) (N7 := nthZ zs 7) (N8 := nthZ zs 8) (N9 := nthZ zs 9) (N10 := nthZ zs 10) (N11 := nthZ zs 11) (N12 := nthZ zs 12) H0 H1 H2 (by omega) (by omega) H5 (by omega) (by omega)
  rcases List.mem_cons.mp hx with hx | hx
  · rw [hx]; refine s_curL.mpr ?_; exact L
  · cases hx
def q_cLA0 : qRl := ([sp 1 [(5, 1), (2, (-1))], sp (-1) [(5, (-1)), (2, 1)], (1099, [2, 0, 1, 0, 1, 5, 6, 4], []), sp 7 [(7, 1), (2, (-7))], sp (-7) [(7, (-1)), (2, 7)], (1, [1, 7, 8], []), sp 1 [(8, (-1))], sp 3 [(9, 1), (2, (-7))], sp (-3) [(9, (-1)), (2, 7)], (1, [1, 9, 10], []), sp 0 [(10, 1), (6, (-1))], sp 0 []], [(1099, [2, 0, 1, 0, 1, 2, 3, 4], [])])
theorem q_cLA0_ok : RlOk q_cLA0 := by
  intro fs zs h x hx
  obtain ⟨H0, h⟩ := snAll h
  replace H0 := sp_2.mp H0
  obtain ⟨H1, h⟩ := snAll h
  replace H1 := sp_2.mp H1
  obtain ⟨H2, h⟩ := snAll h
  replace H2 := s_curL.mp H2
  obtain ⟨H3, h⟩ := snAll h
  replace H3 := sp_2.mp H3
  obtain ⟨H4, h⟩ := snAll h
  replace H4 := sp_2.mp H4
  obtain ⟨H5, h⟩ := snAll h
  replace H5 := s_rd.mp H5
  obtain ⟨H6, h⟩ := snAll h
  replace H6 := sp_1.mp H6
  obtain ⟨H7, h⟩ := snAll h
  replace H7 := sp_2.mp H7
  obtain ⟨H8, h⟩ := snAll h
  replace H8 := sp_2.mp H8
  obtain ⟨H9, h⟩ := snAll h
  replace H9 := s_rd.mp H9
  obtain ⟨H10, h⟩ := snAll h
  replace H10 := sp_2.mp H10
  obtain ⟨H11, h⟩ := snAll h
  replace H11 := sp_0.mp H11
  have L := L_cLA0 (F0 := nthF fs 0) (F1 := nthF fs 1) (N0 := nthZ zs 0) (N1 := nthZ zs 1) (N2 := nthZ zs 2) (N3 := nthZ zs 3) (N4 := nthZ zs 4) (N5 := nthZ zs 5) (N6 := nthZ zs 6) (N7 := nthZ zs 7) (N8 := nthZ zs 8) (N9 := nthZ zs 9) (N10 := nthZ zs 10) (by omega) H2 (by omega) H5 (by omega) (by omega) H9 (by omega) (by omega)
  rcases List.mem_cons.mp hx with hx | hx
  · rw [hx]; refine s_curL.mpr ?_; exact L
  · cases hx
def q_cLA1 : qRl := ([sp 1 [(5, 1), (2, (-1))], sp (-1) [(5, (-1)), (2, 1)], (1099, [2, 0, 1, 0, 1, 5, 6, 4], []), sp 7 [(7, 1), (2, (-7))], sp (-7) [(7, (-1)), (2, 7)], (1, [1, 7, 8], []), sp (-3) [(8, 1)], sp 3 [(8, (-1))], sp 3 [(9, 1), (2, (-7))], sp (-3) [(9, (-1)), (2, 7)], (1, [1, 9, 10], []), sp 0 [(10, 1), (6, (-1))], sp 0 []], [(1099, [2, 0, 1, 0, 1, 2, 3, 4], [])])
theorem q_cLA1_ok : RlOk q_cLA1 := by
  intro fs zs h x hx
  obtain ⟨H0, h⟩ := snAll h
  replace H0 := sp_2.mp H0
  obtain ⟨H1, h⟩ := snAll h
  replace H1 := sp_2.mp H1
  obtain ⟨H2, h⟩ := snAll h
  replace H2 := s_curL.mp H2
  obtain ⟨H3, h⟩ := snAll h
  replace H3 := sp_2.mp H3
  obtain ⟨H4, h⟩ := snAll h
  replace H4 := sp_2.mp H4
  obtain ⟨H5, h⟩ := snAll h
  replace H5 := s_rd.mp H5
  obtain ⟨H6, h⟩ := snAll h
  replace H6 := sp_1.mp H6
  obtain ⟨H7, h⟩ := snAll h
  replace H7 := sp_1.mp H7
  obtain ⟨H8, h⟩ := snAll h
  replace H8 := sp_2.mp H8
  obtain ⟨H9, h⟩ := snAll h
  replace H9 := sp_2.mp H9
  obtain ⟨H10, h⟩ := snAll h
  replace H10 := s_rd.mp H10
  obtain ⟨H11, h⟩ := snAll h
  replace H11 := sp_2.mp H11
  obtain ⟨H12, h⟩ := snAll h
  replace H12 := sp_0.mp H12
  have L := L_cLA1 (F0 := nthF fs 0) (F1 := nthF fs 1) (N0 := nthZ zs 0) (N1 := nthZ zs 1) (N2 := nthZ zs 2) (N3 := nthZ zs 3) (N4 := nthZ zs 4) (N5 := nthZ zs 5) (N6 := nthZ zs 6) (N7 := nthZ zs 7) (N8 := nthZ zs 8) (N9 := nthZ zs 9) (N10 := nthZ zs 10) (by omega) H2 (by omega) H5 (by omega) (by omega) (by omega) H10 (by omega) (by omega)
  rcases List.mem_cons.mp hx with hx | hx
  · rw [hx]; refine s_curL.mpr ?_; exact L
  · cases hx
def q_cLA2 : qRl := ([sp 1 [(5, 1), (2, (-1))], sp (-1) [(5, (-1)), (2, 1)], (1099, [2, 0, 1, 0, 1, 5, 6, 4], []), sp 7 [(7, 1), (2, (-7))], sp (-7) [(7, (-1)), (2, 7)], (1, [1, 7, 8], []), sp (-1) [(6, (-1))], sp 0 []], [(1099, [2, 0, 1, 0, 1, 2, 3, 4], [])])
theorem q_cLA2_ok : RlOk q_cLA2 := by
  intro fs zs h x hx
  obtain ⟨H0, h⟩ := snAll h
  replace H0 := sp_2.mp H0
  obtain ⟨H1, h⟩ := snAll h
  replace H1 := sp_2.mp H1
  obtain ⟨H2, h⟩ := snAll h
  replace H2 := s_curL.mp H2
  obtain ⟨H3, h⟩ := snAll h
  replace H3 := sp_2.mp H3
  obtain ⟨H4, h⟩ := snAll h
  replace H4 := sp_2.mp H4
  obtain ⟨H5, h⟩ := snAll h
  replace H5 := s_rd.mp H5
  obtain ⟨H6, h⟩ := snAll h
  replace H6 := sp_1.mp H6
  obtain ⟨H7, h⟩ := snAll h
  replace H7 := sp_0.mp H7
  have L := L_cLA2 (F0 := nthF fs 0) (F1 := nthF fs 1) (N0 := nthZ zs 0) (N1 := nthZ zs 1) (N2 := nthZ zs 2) (N3 := nthZ zs 3) (N4 := nthZ zs 4) (N5 := nthZ zs 5) (N6 := nthZ zs 6) (N7 := nthZ zs 7) (N8 := nthZ zs 8) (by omega) H2 (by omega) H5 (by omega) (by omega)
  rcases List.mem_cons.mp hx with hx | hx
  · rw [hx]; refine s_curL.mpr ?_; exact L
  · cases hx
def q_cLA3 : qRl := ([sp 1 [(5, 1), (2, (-1))], sp (-1) [(5, (-1)), (2, 1)], (1099, [2, 0, 1, 0, 1, 5, 6, 4], []), sp 7 [(7, 1), (2, (-7))], sp (-7) [(7, (-1)), (2, 7)], (1, [1, 7, 8], []), sp (-4) [(8, 1)], sp 5 [(6, (-1))], sp 0 []], [(1099, [2, 0, 1, 0, 1, 2, 3, 4], [])])
theorem q_cLA3_ok : RlOk q_cLA3 := by
  intro fs zs h x hx
  obtain ⟨H0, h⟩ := snAll h
  replace H0 := sp_2.mp H0
  obtain ⟨H1, h⟩ := snAll h
  replace H1 := sp_2.mp H1
  obtain ⟨H2, h⟩ := snAll h
  replace H2 := s_curL.mp H2
  obtain ⟨H3, h⟩ := snAll h
  replace H3 := sp_2.mp H3
  obtain ⟨H4, h⟩ := snAll h
  replace H4 := sp_2.mp H4
  obtain ⟨H5, h⟩ := snAll h
  replace H5 := s_rd.mp H5
  obtain ⟨H6, h⟩ := snAll h
  replace H6 := sp_1.mp H6
  obtain ⟨H7, h⟩ := snAll h
  replace H7 := sp_1.mp H7
  obtain ⟨H8, h⟩ := snAll h
  replace H8 := sp_0.mp H8
  have L := L_cLA3 (F0 := nthF fs 0) (F1 := nthF fs 1) (N0 := nthZ zs 0) (N1 := nthZ zs 1) (N2 := nthZ zs 2) (N3 := nthZ zs 3) (N4 := nthZ zs 4) (N5 := nthZ zs 5) (N6 := nthZ zs 6) (N7 := nthZ zs 7) (N8 := nthZ zs 8) (by omega) H2 (by omega) H5 (by omega) (by omega) (by omega)
  rcases List.mem_cons.mp hx with hx | hx
  · rw [hx]; refine s_curL.mpr ?_; exact L
  · cases hx
def q_cLA4 : qRl := ([sp 1 [(5, 1), (2, (-1))], sp (-1) [(5, (-1)), (2, 1)], (1099, [2, 0, 1, 0, 1, 5, 6, 4], []), sp 7 [(7, 1), (2, (-7))], sp (-7) [(7, (-1)), (2, 7)], (1, [1, 7, 8], []), sp (-4) [(8, 1)], sp 6 [(6, (-1))], sp 2 [(9, 1), (2, (-7))], sp (-2) [(9, (-1)), (2, 7)], (1, [1, 9, 10], []), sp 0 [(10, 1)], sp 0 []], [(1099, [2, 0, 1, 0, 1, 2, 3, 4], [])])
theorem q_cLA4_ok : RlOk q_cLA4 := by
  intro fs zs h x hx
  obtain ⟨H0, h⟩ := snAll h
  replace H0 := sp_2.mp H0
  obtain ⟨H1, h⟩ := snAll h
  replace H1 := sp_2.mp H1
  obtain ⟨H2, h⟩ := snAll h
  replace H2 := s_curL.mp H2
  obtain ⟨H3, h⟩ := snAll h
  replace H3 := sp_2.mp H3
  obtain ⟨H4, h⟩ := snAll h
  replace H4 := sp_2.mp H4
  obtain ⟨H5, h⟩ := snAll h
  replace H5 := s_rd.mp H5
  obtain ⟨H6, h⟩ := snAll h
  replace H6 := sp_1.mp H6
  obtain ⟨H7, h⟩ := snAll h
  replace H7 := sp_1.mp H7
  obtain ⟨H8, h⟩ := snAll h
  replace H8 := sp_2.mp H8
  obtain ⟨H9, h⟩ := snAll h
  replace H9 := sp_2.mp H9
  obtain ⟨H10, h⟩ := snAll h
  replace H10 := s_rd.mp H10
  obtain ⟨H11, h⟩ := snAll h
  replace H11 := sp_1.mp H11
  obtain ⟨H12, h⟩ := snAll h
  replace H12 := sp_0.mp H12
  have L := L_cLA4 (F0 := nthF fs 0) (F1 := nthF fs 1) (N0 := nthZ zs 0) (N1 := nthZ zs 1) (N2 := nthZ zs 2) (N3 := nthZ zs 3) (N4 := nthZ zs 4) (N5 := nthZ zs 5) (N6 := nthZ zs 6) (N7 := nthZ zs 7) (N8 := nthZ zs 8) (N9 := nthZ zs 9) (N10 := nthZ zs 10) (by omega) H2 (by omega) H5 (by omega) (by omega) (by omega) H10 (by omega) (by omega)
  rcases List.mem_cons.mp hx with hx | hx
  · rw [hx]; refine s_curL.mpr ?_; exact L
  · cases hx
def q_ak0 : qRl := ([sp 1 [(0, (-1))], sp 0 []], [(1104, [0, 0, 1], [])])
theorem q_ak0_ok : RlOk q_ak0 := by
  intro fs zs h x hx
  obtain ⟨H0, h⟩ := snAll h
  replace H0 := sp_1.mp H0
  obtain ⟨H1, h⟩ := snAll h
  replace H1 := sp_0.mp H1
  have L := L_ak0 (N0 := nthZ zs 0) (N1 := nthZ zs 1) (by omega) (by omega)
  rcases List.mem_cons.mp hx with hx | hx
  · rw [hx]; refine s_alk.mpr ?_; exact L
  · cases hx
def q_ak1 : qRl := ([sp (-3) [(0, 1)], sp 0 []], [(1104, [0, 0, 1], [])])
theorem q_ak1_ok : RlOk q_ak1 := by
  intro fs zs h x hx
  obtain ⟨H0, h⟩ := snAll h
  replace H0 := sp_1.mp H0
  obtain ⟨H1, h⟩ := snAll h
  replace H1 := sp_0.mp H1
  have L := L_ak1 (N0 := nthZ zs 0) (N1 := nthZ zs 1) (by omega) (by omega)
  rcases List.mem_cons.mp hx with hx | hx
  · rw [hx]; refine s_alk.mpr ?_; exact L
  · cases hx
def q_ak2 : qRl := ([(1092, [0, 1], []), sp 0 []], [(1104, [0, 0, 1], [])])
theorem q_ak2_ok : RlOk q_ak2 := by
  intro fs zs h x hx
  obtain ⟨H0, h⟩ := snAll h
  replace H0 := s_pw2.mp H0
  obtain ⟨H1, h⟩ := snAll h
  replace H1 := sp_0.mp H1
  have L := L_ak2 (N0 := nthZ zs 0) (N1 := nthZ zs 1) H0 (by omega)
  rcases List.mem_cons.mp hx with hx | hx
  · rw [hx]; refine s_alk.mpr ?_; exact L
  · cases hx
def q_alA : qRl := ([sp 1 [(2, 1), (1, (-1))], sp (-1) [(2, (-1)), (1, 1)], (1093, [1, 0, 0, 2], []), sp 7 [(3, 1), (1, (-7))], sp (-7) [(3, (-1)), (1, 7)], (1, [0, 3, 4], []), sp 2 [(5, 1), (1, (-7))], sp (-2) [(5, (-1)), (1, 7)], (1, [0, 5, 6], []), (1104, [0, 7, 8], []), sp 0 [(7, 1), (4, (-1))], sp 0 [(4, 1), (7, (-1))], sp 0 [(8, 1), (6, (-1))], sp 0 [(6, 1), (8, (-1))]], [(1093, [1, 0, 0, 1], [])])
theorem q_alA_ok : RlOk q_alA := by
  intro fs zs h x hx
  obtain ⟨H0, h⟩ := snAll h
  replace H0 := sp_2.mp H0
  obtain ⟨H1, h⟩ := snAll h
  replace H1 := sp_2.mp H1
  obtain ⟨H2, h⟩ := snAll h
  replace H2 := s_algn.mp H2
  obtain ⟨H3, h⟩ := snAll h
  replace H3 := sp_2.mp H3
  obtain ⟨H4, h⟩ := snAll h
  replace H4 := sp_2.mp H4
  obtain ⟨H5, h⟩ := snAll h
  replace H5 := s_rd.mp H5
  obtain ⟨H6, h⟩ := snAll h
  replace H6 := sp_2.mp H6
  obtain ⟨H7, h⟩ := snAll h
  replace H7 := sp_2.mp H7
  obtain ⟨H8, h⟩ := snAll h
  replace H8 := s_rd.mp H8
  obtain ⟨H9, h⟩ := snAll h
  replace H9 := s_alk.mp H9
  obtain ⟨H10, h⟩ := snAll h
  replace H10 := sp_2.mp H10
  obtain ⟨H11, h⟩ := snAll h
  replace H11 := sp_2.mp H11
  obtain ⟨H12, h⟩ := snAll h
  replace H12 := sp_2.mp H12
  obtain ⟨H13, h⟩ := snAll h
  replace H13 := sp_2.mp H13
  have L := L_alA (F0 := nthF fs 0) (N0 := nthZ zs 0) (N1 := nthZ zs 1) (N2 := nthZ zs 2) (N3 := nthZ zs 3) (N4 := nthZ zs 4) (N5 := nthZ zs 5) (N6 := nthZ zs 6) (N7 := nthZ zs 7) (N8 := nthZ zs 8) (by omega) H2 (by omega) H5 (by omega) H8 H9 (by omega) (by omega) (by omega) (by omega)
  rcases List.mem_cons.mp hx with hx | hx
  · rw [hx]; refine s_algn.mpr ?_; exact L
  · cases hx
def q_jwE : qRl := ([sp 0 [(0, 1), (1, (-1))], sp 0 [], sp 0 []], [(1106, [2, 0, 1, 0, 1, 2, 3], [])])
theorem q_jwE_ok : RlOk q_jwE := by
  intro fs zs h x hx
  obtain ⟨H0, h⟩ := snAll h
  replace H0 := sp_2.mp H0
  obtain ⟨H1, h⟩ := snAll h
  replace H1 := sp_0.mp H1
  obtain ⟨H2, h⟩ := snAll h
  replace H2 := sp_0.mp H2
  have L := L_jwE (F0 := nthF fs 0) (F1 := nthF fs 1) (N0 := nthZ zs 0) (N1 := nthZ zs 1) (N2 := nthZ zs 2) (N3 := nthZ zs 3) (by omega) (by omega) (by omega)
  rcases List.mem_cons.mp hx with hx | hx
  · rw [hx]; refine s_jwo.mpr ?_; exact L
  · cases hx
def q_jws : qRl := ([sp 0 [(3, 1)], sp 0 [], sp 0 [], sp 0 []], [(1106, [2, 0, 1, 0, 1, 2, 3], [])])
theorem q_jws_ok : RlOk q_jws := by
  intro fs zs h x hx
  obtain ⟨H0, h⟩ := snAll h
  replace H0 := sp_1.mp H0
  obtain ⟨H1, h⟩ := snAll h
  replace H1 := sp_0.mp H1
  obtain ⟨H2, h⟩ := snAll h
  replace H2 := sp_0.mp H2
  obtain ⟨H3, h⟩ := snAll h
  replace H3 := sp_0.mp H3
  have L := L_jws (F0 := nthF fs 0) (F1 := nthF fs 1) (N0 := nthZ zs 0) (N1 := nthZ zs 1) (N2 := nthZ zs 2) (N3 := nthZ zs 3) (by omega) (by omega) (by omega) (by omega)
  rcases List.mem_cons.mp hx with hx | hx
  · rw [hx]; refine s_jwo.mpr ?_; exact L
  · cases hx
def q_jwZ : qRl := ([(1106, [2, 0, 1, 0, 1, 4, 5], []), sp 0 [(2, 1), (4, (-1))], sp 0 [(3, 1), (5, (-1))]], [(1106, [2, 0, 1, 0, 1, 2, 3], [])])
theorem q_jwZ_ok : RlOk q_jwZ := by
  intro fs zs h x hx
  obtain ⟨H0, h⟩ := snAll h
  replace H0 := s_jwo.mp H0
  obtain ⟨H1, h⟩ := snAll h
  replace H1 := sp_2.mp H1
  obtain ⟨H2, h⟩ := snAll h
  replace H2 := sp_2.mp H2
  have L := L_jwZ (F0 := nthF fs 0) (F1 := nthF fs 1) (N0 := nthZ zs 0) (N1 := nthZ zs 1) (N2 := nthZ zs 2) (N3 := nthZ zs 3) (N4 := nthZ zs 4) (N5 := nthZ zs 5) H0 (by omega) (by omega)
  rcases List.mem_cons.mp hx with hx | hx
  · rw [hx]; refine s_jwo.mpr ?_; exact L
  · cases hx
def q_jwO : qRl := ([(1106, [2, 0, 1, 0, 1, 4, 5], []), sp 0 [(2, 1), (4, (-1))], sp (-1) [(5, (-1))], sp 0 []], [(1106, [2, 0, 1, 0, 1, 2, 3], [])])
theorem q_jwO_ok : RlOk q_jwO := by
  intro fs zs h x hx
  obtain ⟨H0, h⟩ := snAll h
  replace H0 := s_jwo.mp H0
  obtain ⟨H1, h⟩ := snAll h
  replace H1 := sp_2.mp H1
  obtain ⟨H2, h⟩ := snAll h
  replace H2 := sp_1.mp H2
  obtain ⟨H3, h⟩ := snAll h
  replace H3 := sp_0.mp H3
  have L := L_jwO (F0 := nthF fs 0) (F1 := nthF fs 1) (N0 := nthZ zs 0) (N1 := nthZ zs 1) (N2 := nthZ zs 2) (N3 := nthZ zs 3) (N4 := nthZ zs 4) (N5 := nthZ zs 5) H0 (by omega) (by omega) (by omega)
  rcases List.mem_cons.mp hx with hx | hx
  · rw [hx]; refine s_jwo.mpr ?_; exact L
  · cases hx
def q_jwS : qRl := ([(2, [2, 0, 4, 5], []), (1106, [2, 0, 1, 0, 1, 2, 3], []), sp 0 [(4, 1), (1, (-7))]], [(1106, [2, 2, 1, 0, 1, 2, 3], [])])
theorem q_jwS_ok : RlOk q_jwS := by
  intro fs zs h x hx
  obtain ⟨H0, h⟩ := snAll h
  replace H0 := s_wr.mp H0
  obtain ⟨H1, h⟩ := snAll h
  replace H1 := s_jwo.mp H1
  obtain ⟨H2, h⟩ := snAll h
  replace H2 := sp_2.mp H2
  have L := L_jwS (F0 := nthF fs 0) (F1 := nthF fs 1) (F2 := nthF fs 2) (N0 := nthZ zs 0) (N1 := nthZ zs 1) (N2 := nthZ zs 2) (N3 := nthZ zs 3) (N4 := nthZ zs 4) (N5 := nthZ zs 5) H0 H1 (by omega)
  rcases List.mem_cons.mp hx with hx | hx
  · rw [hx]; refine s_jwo.mpr ?_; exact L
  · cases hx
def q_jwW : qRl := ([(2, [2, 1, 4, 5], []), (1106, [2, 0, 1, 0, 1, 2, 3], []), sp 0 [(4, 1), (2, (-6))]], [(1106, [2, 0, 2, 0, 1, 2, 3], [])])
theorem q_jwW_ok : RlOk q_jwW := by
  intro fs zs h x hx
  obtain ⟨H0, h⟩ := snAll h
  replace H0 := s_wr.mp H0
  obtain ⟨H1, h⟩ := snAll h
  replace H1 := s_jwo.mp H1
  obtain ⟨H2, h⟩ := snAll h
  replace H2 := sp_2.mp H2
  have L := L_jwW (F0 := nthF fs 0) (F1 := nthF fs 1) (F2 := nthF fs 2) (N0 := nthZ zs 0) (N1 := nthZ zs 1) (N2 := nthZ zs 2) (N3 := nthZ zs 3) (N4 := nthZ zs 4) (N5 := nthZ zs 5) H0 H1 (by omega)
  rcases List.mem_cons.mp hx with hx | hx
  · rw [hx]; refine s_jwo.mpr ?_; exact L
  · cases hx
def q_jwV : qRl := ([(2, [2, 0, 4, 5], []), (1091, [0, 10, 11], []), (1106, [2, 0, 1, 0, 1, 2, 3], []), sp (-1) [(4, 1), (10, (-7))], sp 5 [(10, 7), (4, (-1))]], [(1106, [2, 2, 1, 0, 1, 2, 3], [])])
theorem q_jwV_ok : RlOk q_jwV := by
  intro fs zs h x hx
  obtain ⟨H0, h⟩ := snAll h
  replace H0 := s_wr.mp H0
  obtain ⟨H1, h⟩ := snAll h
  replace H1 := s_us.mp H1
  obtain ⟨H2, h⟩ := snAll h
  replace H2 := s_jwo.mp H2
  obtain ⟨H3, h⟩ := snAll h
  replace H3 := sp_2.mp H3
  obtain ⟨H4, h⟩ := snAll h
  replace H4 := sp_2.mp H4
  have L := L_jwV (F0 := nthF fs 0) (F1 := nthF fs 1) (F2 := nthF fs 2) (N0 := nthZ zs 0) (N1 := nthZ zs 1) (N2 := nthZ zs 2) (N3 := nthZ zs 3) (N4 := nthZ zs 4) (N5 := nthZ zs 5) (N6 := nthZ zs 6) (N7 := nthZ zs 7) (N8 := nthZ zs 8) (N9 := nthZ zs 9) (N10 := nthZ zs 10) (N11 := nthZ zs 11) H0 H1 H2 (by omega) (by omega)
  rcases List.mem_cons.mp hx with hx | hx
  · rw [hx]; refine s_jwo.mpr ?_; exact L
  · cases hx
def q_jwK : qRl := ([(2, [2, 0, 4, 5], []), (1091, [0, 10, 11], []), (1106, [2, 0, 1, 0, 1, 2, 3], []), sp 0 [(4, 1), (10, (-7))], sp 0 [(10, 7), (4, (-1))], (1, [0, 4, 6], []), sp (-4) [(6, 1)]], [(1106, [2, 2, 1, 0, 1, 2, 3], [])])
theorem q_jwK_ok : RlOk q_jwK := by
  intro fs zs h x hx
  obtain ⟨H0, h⟩ := snAll h
  replace H0 := s_wr.mp H0
  obtain ⟨H1, h⟩ := snAll h
  replace H1 := s_us.mp H1
  obtain ⟨H2, h⟩ := snAll h
  replace H2 := s_jwo.mp H2
  obtain ⟨H3, h⟩ := snAll h
  replace H3 := sp_2.mp H3
  obtain ⟨H4, h⟩ := snAll h
  replace H4 := sp_2.mp H4
  obtain ⟨H5, h⟩ := snAll h
  replace H5 := s_rd.mp H5
  obtain ⟨H6, h⟩ := snAll h
  replace H6 := sp_1.mp H6
  have L := L_jwK (F0 := nthF fs 0) (F1 := nthF fs 1) (F2 := nthF fs 2) (N0 := nthZ zs 0) (N1 := nthZ zs 1) (N2 := nthZ zs 2) (N3 := nthZ zs 3) (N4 := nthZ zs 4) (N5 := nthZ zs 5) (N6 := nthZ zs 6) (N7 := nthZ zs 7) (N8 := nthZ zs 8) (N9 := nthZ zs 9) (N10 := nthZ zs 10) (N11 := nthZ zs 11) H0 H1 H2 (by omega) (by omega) H5 (by omega)
  rcases List.mem_cons.mp hx with hx | hx
  · rw [hx]; refine s_jwo.mpr ?_; exact L
  · cases hx
def q_jwX : qRl := ([sp 1 [(4, 1), (1, (-1))], sp (-1) [(4, (-1)), (1, 1)], (1106, [2, 0, 1, 0, 4, 2, 3], []), sp 7 [(5, 1), (1, (-7))], sp (-7) [(5, (-1)), (1, 7)], (1, [0, 5, 6], []), sp 3 [(6, (-1))]], [(1106, [2, 0, 1, 0, 1, 2, 3], [])])
theorem q_jwX_ok : RlOk q_jwX := by
  intro fs zs h x hx
  obtain ⟨H0, h⟩ := snAll h
  replace H0 := sp_2.mp H0
  obtain ⟨H1, h⟩ := snAll h
  replace H1 := sp_2.mp H1
  obtain ⟨H2, h⟩ := snAll h
  replace H2 := s_jwo.mp H2
  obtain ⟨H3, h⟩ := snAll h
  replace H3 := sp_2.mp H3
  obtain ⟨H4, h⟩ := snAll h
  replace H4 := sp_2.mp H4
  obtain ⟨H5, h⟩ := snAll h
  replace H5 := s_rd.mp H5
  obtain ⟨H6, h⟩ := snAll h
  replace H6 := sp_1.mp H6
  have L := L_jwX (F0 := nthF fs 0) (F1 := nthF fs 1) (N0 := nthZ zs 0) (N1 := nthZ zs 1) (N2 := nthZ zs 2) (N3 := nthZ zs 3) (N4 := nthZ zs 4) (N5 := nthZ zs 5) (N6 := nthZ zs 6) (by omega) H2 (by omega) H5 (by omega)
  rcases List.mem_cons.mp hx with hx | hx
  · rw [hx]; refine s_jwo.mpr ?_; exact L
  · cases hx
def q_jwY : qRl := ([sp 1 [(4, 1), (1, (-1))], sp (-1) [(4, (-1)), (1, 1)], (1106, [2, 0, 1, 0, 4, 2, 3], []), sp 1 [(5, 1), (1, (-7))], sp (-1) [(5, (-1)), (1, 7)], (1, [0, 5, 6], []), sp 0 [(7, 1), (6, (-6))], sp 0 [(7, (-1)), (6, 6)], (1, [1, 7, 8], []), sp 0 [(8, 1), (4, (-1))], sp 0 [(4, 1), (8, (-1))], sp 0 [(6, 1)], sp (-1) [(2, 1), (6, (-1))]], [(1106, [2, 0, 1, 0, 1, 2, 3], [])])
theorem q_jwY_ok : RlOk q_jwY := by
  intro fs zs h x hx
  obtain ⟨H0, h⟩ := snAll h
  replace H0 := sp_2.mp H0
  obtain ⟨H1, h⟩ := snAll h
  replace H1 := sp_2.mp H1
  obtain ⟨H2, h⟩ := snAll h
  replace H2 := s_jwo.mp H2
  obtain ⟨H3, h⟩ := snAll h
  replace H3 := sp_2.mp H3
  obtain ⟨H4, h⟩ := snAll h
  replace H4 := sp_2.mp H4
  obtain ⟨H5, h⟩ := snAll h
  replace H5 := s_rd.mp H5
  obtain ⟨H6, h⟩ := snAll h
  replace H6 := sp_2.mp H6
  obtain ⟨H7, h⟩ := snAll h
  replace H7 := sp_2.mp H7
  obtain ⟨H8, h⟩ := snAll h
  replace H8 := s_rd.mp H8
  obtain ⟨H9, h⟩ := snAll h
  replace H9 := sp_2.mp H9
  obtain ⟨H10, h⟩ := snAll h
  replace H10 := sp_2.mp H10
  obtain ⟨H11, h⟩ := snAll h
  replace H11 := sp_1.mp H11
  obtain ⟨H12, h⟩ := snAll h
  replace H12 := sp_2.mp H12
  have L := L_jwY (F0 := nthF fs 0) (F1 := nthF fs 1) (N0 := nthZ zs 0) (N1 := nthZ zs 1) (N2 := nthZ zs 2) (N3 := nthZ zs 3) (N4 := nthZ zs 4) (N5 := nthZ zs 5) (N6 := nthZ zs 6) (N7 := nthZ zs 7) (N8 := nthZ zs 8) (by omega) H2 (by omega) H5 (by omega) H8 (by omega) (by omega) (by omega) (by omega)
  rcases List.mem_cons.mp hx with hx | hx
  · rw [hx]; refine s_jwo.mpr ?_; exact L
  · cases hx
def q_jwQ : qRl := ([sp 1 [(4, 1), (1, (-1))], sp (-1) [(4, (-1)), (1, 1)], (1106, [2, 0, 1, 0, 4, 2, 3], []), (1107, [2, 0, 1, 4, 2, 5, 3, 9], []), sp 7 [(6, 1), (1, (-7))], sp (-7) [(6, (-1)), (1, 7)], (1, [0, 6, 7], []), sp 0 [(7, 1), (5, (-1))], sp 0 [(5, 1), (7, (-1))], sp 1 [(8, 1), (1, (-7))], sp (-1) [(8, (-1)), (1, 7)], (1, [0, 8, 11], []), sp 1 [(11, 1), (2, (-1))], sp (-1) [(2, 1), (11, (-1))]], [(1106, [2, 0, 1, 0, 1, 2, 3], [])])
theorem q_jwQ_ok : RlOk q_jwQ := by
  intro fs zs h x hx
  obtain ⟨H0, h⟩ := snAll h
  replace H0 := sp_2.mp H0
  obtain ⟨H1, h⟩ := snAll h
  replace H1 := sp_2.mp H1
  obtain ⟨H2, h⟩ := snAll h
  replace H2 := s_jwo.mp H2
  obtain ⟨H3, h⟩ := snAll h
  replace H3 := s_jwa.mp H3
  obtain ⟨H4, h⟩ := snAll h
  replace H4 := sp_2.mp H4
  obtain ⟨H5, h⟩ := snAll h
  replace H5 := sp_2.mp H5
  obtain ⟨H6, h⟩ := snAll h
  replace H6 := s_rd.mp H6
  obtain ⟨H7, h⟩ := snAll h
  replace H7 := sp_2.mp H7
  obtain ⟨H8, h⟩ := snAll h
  replace H8 := sp_2.mp H8
  obtain ⟨H9, h⟩ := snAll h
  replace H9 := sp_2.mp H9
  obtain ⟨H10, h⟩ := snAll h
  replace H10 := sp_2.mp H10
  obtain ⟨H11, h⟩ := snAll h
  replace H11 := s_rd.mp H11
  obtain ⟨H12, h⟩ := snAll h
  replace H12 := sp_2.mp H12
  obtain ⟨H13, h⟩ := snAll h
  replace H13 := sp_2.mp H13
  have L := L_jwQ (F0 := nthF fs 0) (F1 := nthF fs 1) (N0 := nthZ zs 0) (N1 := nthZ zs 1) (N2 := nthZ zs 2) (N3 := nthZ zs 3) (N4 := nthZ zs 4) (N5 := nthZ zs 5) (N6 := nthZ zs 6) (N7 := nthZ zs 7) (N8 := nthZ zs 8) (N9 := nthZ zs 9) (N10 := nthZ zs 10) (N11 := nthZ zs 11) (by omega) H2 H3 (by omega) H6 (by omega) (by omega) (by omega) H11 (by omega) (by omega)
  rcases List.mem_cons.mp hx with hx | hx
  · rw [hx]; refine s_jwo.mpr ?_; exact L
  · cases hx
def q_jy0 : qRl := ([sp 3 [(2, (-1))], sp 0 [], sp 0 [], sp 0 [], sp 0 []], [(1107, [2, 0, 1, 0, 1, 2, 3, 4], [])])
theorem q_jy0_ok : RlOk q_jy0 := by
  intro fs zs h x hx
  obtain ⟨H0, h⟩ := snAll h
  replace H0 := sp_1.mp H0
  obtain ⟨H1, h⟩ := snAll h
  replace H1 := sp_0.mp H1
  obtain ⟨H2, h⟩ := snAll h
  replace H2 := sp_0.mp H2
  obtain ⟨H3, h⟩ := snAll h
  replace H3 := sp_0.mp H3
  obtain ⟨H4, h⟩ := snAll h
  replace H4 := sp_0.mp H4
  have L := L_jy0 (F0 := nthF fs 0) (F1 := nthF fs 1) (N0 := nthZ zs 0) (N1 := nthZ zs 1) (N2 := nthZ zs 2) (N3 := nthZ zs 3) (N4 := nthZ zs 4) (by omega) (by omega) (by omega) (by omega) (by omega)
  rcases List.mem_cons.mp hx with hx | hx
  · rw [hx]; refine s_jwa.mpr ?_; exact L
  · cases hx
def q_jys : qRl := ([sp 0 [(3, 1)], sp 0 [], sp 0 [], sp 0 [], sp 0 []], [(1107, [2, 0, 1, 0, 1, 2, 3, 4], [])])
theorem q_jys_ok : RlOk q_jys := by
  intro fs zs h x hx
  obtain ⟨H0, h⟩ := snAll h
  replace H0 := sp_1.mp H0
  obtain ⟨H1, h⟩ := snAll h
  replace H1 := sp_0.mp H1
  obtain ⟨H2, h⟩ := snAll h
  replace H2 := sp_0.mp H2
  obtain ⟨H3, h⟩ := snAll h
  replace H3 := sp_0.mp H3
  obtain ⟨H4, h⟩ := snAll h
  replace H4 := sp_0.mp H4
  have L := L_jys (F0 := nthF fs 0) (F1 := nthF fs 1) (N0 := nthZ zs 0) (N1 := nthZ zs 1) (N2 := nthZ zs 2) (N3 := nthZ zs 3) (N4 := nthZ zs 4) (by omega) (by omega) (by omega) (by omega) (by omega)
  rcases List.mem_cons.mp hx with hx | hx
  · rw [hx]; refine s_jwa.mpr ?_; exact L
  · cases hx
def q_jyX : qRl := ([sp (-1) [(1, 1)], sp 6 [(5, 1), (1, (-6))], sp (-6) [(5, (-1)), (1, 6)], (1, [1, 5, 6], []), sp 0 [(6, 1), (0, (-1))], sp 0 [(0, 1), (6, (-1))], sp 0 [], sp 0 [], sp 0 []], [(1107, [2, 0, 1, 0, 1, 2, 3, 4], [])])
theorem q_jyX_ok : RlOk q_jyX := by
  intro fs zs h x hx
  obtain ⟨H0, h⟩ := snAll h
  replace H0 := sp_1.mp H0
  obtain ⟨H1, h⟩ := snAll h
  replace H1 := sp_2.mp H1
  obtain ⟨H2, h⟩ := snAll h
  replace H2 := sp_2.mp H2
  obtain ⟨H3, h⟩ := snAll h
  replace H3 := s_rd.mp H3
  obtain ⟨H4, h⟩ := snAll h
  replace H4 := sp_2.mp H4
  obtain ⟨H5, h⟩ := snAll h
  replace H5 := sp_2.mp H5
  obtain ⟨H6, h⟩ := snAll h
  replace H6 := sp_0.mp H6
  obtain ⟨H7, h⟩ := snAll h
  replace H7 := sp_0.mp H7
  obtain ⟨H8, h⟩ := snAll h
  replace H8 := sp_0.mp H8
  have L := L_jyX (F0 := nthF fs 0) (F1 := nthF fs 1) (N0 := nthZ zs 0) (N1 := nthZ zs 1) (N2 := nthZ zs 2) (N3 := nthZ zs 3) (N4 := nthZ zs 4) (N5 := nthZ zs 5) (N6 := nthZ zs 6) (by omega) (by omega) H3 (by omega) (by omega) (by omega) (by omega) (by omega)
  rcases List.mem_cons.mp hx with hx | hx
  · rw [hx]; refine s_jwa.mpr ?_; exact L
  · cases hx
def q_jyW : qRl := ([(2, [2, 0, 5, 6], []), (1107, [2, 0, 1, 0, 1, 2, 3, 4], [])], [(1107, [2, 2, 1, 0, 1, 2, 3, 4], [])])
theorem q_jyW_ok : RlOk q_jyW := by
  intro fs zs h x hx
  obtain ⟨H0, h⟩ := snAll h
  replace H0 := s_wr.mp H0
  obtain ⟨H1, h⟩ := snAll h
  replace H1 := s_jwa.mp H1
  have L := L_jyW (F0 := nthF fs 0) (F1 := nthF fs 1) (F2 := nthF fs 2) (N0 := nthZ zs 0) (N1 := nthZ zs 1) (N2 := nthZ zs 2) (N3 := nthZ zs 3) (N4 := nthZ zs 4) (N5 := nthZ zs 5) (N6 := nthZ zs 6) H0 H1
  rcases List.mem_cons.mp hx with hx | hx
  · rw [hx]; refine s_jwa.mpr ?_; exact L
  · cases hx
def q_sqE : qRl := ([sp 0 [(0, 1), (1, (-1))]], [(1108, [2, 0, 1, 0, 1], [])])
theorem q_sqE_ok : RlOk q_sqE := by
  intro fs zs h x hx
  obtain ⟨H0, h⟩ := snAll h
  replace H0 := sp_2.mp H0
  have L := L_sqE (F0 := nthF fs 0) (F1 := nthF fs 1) (N0 := nthZ zs 0) (N1 := nthZ zs 1) (by omega)
  rcases List.mem_cons.mp hx with hx | hx
  · rw [hx]; refine s_shq.mpr ?_; exact L
  · cases hx
def q_sqX : qRl := ([sp 1 [(2, 1), (1, (-1))], sp (-1) [(2, (-1)), (1, 1)], (1108, [2, 0, 1, 0, 2], []), sp 7 [(3, 1), (1, (-7))], sp (-7) [(3, (-1)), (1, 7)], (1, [0, 3, 4], []), sp 4 [(4, (-1))]], [(1108, [2, 0, 1, 0, 1], [])])
theorem q_sqX_ok : RlOk q_sqX := by
  intro fs zs h x hx
  obtain ⟨H0, h⟩ := snAll h
  replace H0 := sp_2.mp H0
  obtain ⟨H1, h⟩ := snAll h
  replace H1 := sp_2.mp H1
  obtain ⟨H2, h⟩ := snAll h
  replace H2 := s_shq.mp H2
  obtain ⟨H3, h⟩ := snAll h
  replace H3 := sp_2.mp H3
  obtain ⟨H4, h⟩ := snAll h
  replace H4 := sp_2.mp H4
  obtain ⟨H5, h⟩ := snAll h
  replace H5 := s_rd.mp H5
  obtain ⟨H6, h⟩ := snAll h
  replace H6 := sp_1.mp H6
  have L := L_sqX (F0 := nthF fs 0) (F1 := nthF fs 1) (N0 := nthZ zs 0) (N1 := nthZ zs 1) (N2 := nthZ zs 2) (N3 := nthZ zs 3) (N4 := nthZ zs 4) (by omega) H2 (by omega) H5 (by omega)
  rcases List.mem_cons.mp hx with hx | hx
  · rw [hx]; refine s_shq.mpr ?_; exact L
  · cases hx
def q_sqY0 : qRl := ([sp 1 [(2, 1), (1, (-1))], sp (-1) [(2, (-1)), (1, 1)], (1108, [2, 0, 1, 0, 2], []), sp 1 [(3, 1), (1, (-7))], sp (-1) [(3, (-1)), (1, 7)], (1, [0, 3, 4], []), sp 0 [(4, 1)], sp 0 [(5, 1), (4, (-6))], sp 0 [(5, (-1)), (4, 6)], (1, [1, 5, 6], []), sp 0 [(6, 1), (2, (-1))], sp 0 [(2, 1), (6, (-1))], sp (-4) [(7, 1), (4, (-6))], sp 4 [(7, (-1)), (4, 6)], (1, [1, 7, 9], []), sp (-2) [(9, (-1))]], [(1108, [2, 0, 1, 0, 1], [])])
theorem q_sqY0_ok : RlOk q_sqY0 := by
  intro fs zs h x hx
  obtain ⟨H0, h⟩ := snAll h
  replace H0 := sp_2.mp H0
  obtain ⟨H1, h⟩ := snAll h
  replace H1 := sp_2.mp H1
  obtain ⟨H2, h⟩ := snAll h
  replace H2 := s_shq.mp H2
  obtain ⟨H3, h⟩ := snAll h
  replace H3 := sp_2.mp H3
  obtain ⟨H4, h⟩ := snAll h
  replace H4 := sp_2.mp H4
  obtain ⟨H5, h⟩ := snAll h
  replace H5 := s_rd.mp H5
  obtain ⟨H6, h⟩ := snAll h
  replace H6 := sp_1.mp H6
  obtain ⟨H7, h⟩ := snAll h
  replace H7 := sp_2.mp H7
  obtain ⟨H8, h⟩ := snAll h
  replace H8 := sp_2.mp H8
  obtain ⟨H9, h⟩ := snAll h
  replace H9 := s_rd.mp H9
  obtain ⟨H10, h⟩ := snAll h
  replace H10 := sp_2.mp H10
  obtain ⟨H11, h⟩ := snAll h
  replace H11 := sp_2.mp H11
  obtain ⟨H12, h⟩ := snAll h
  replace H12 := sp_2.mp H12
  obtain ⟨H13, h⟩ := snAll h
  replace H13 := sp_2.mp H13
  obtain ⟨H14, h⟩ := snAll h
  replace H14 := s_rd.mp H14
  obtain ⟨H15, h⟩ := snAll h
  replace H15 := sp_1.mp H15
  have L := L_sqY0 (F0 := nthF fs 0) (F1 := nthF fs 1) (N0 := nthZ zs 0) (N1 := nthZ zs 1) (N2 := nthZ zs 2) (N3 := nthZ zs 3) (N4 := nthZ zs 4) (N5 := nthZ zs 5) (N6 := nthZ zs 6) (N7 := nthZ zs 7) (N8 := nthZ zs 8) (N9 := nthZ zs 9) (by omega) H2 (by omega) H5 (by omega) (by omega) H9 (by omega) (by omega) (by omega) H14 (by omega)
  rcases List.mem_cons.mp hx with hx | hx
  · rw [hx]; refine s_shq.mpr ?_; exact L
  · cases hx
def q_sqY1 : qRl := ([sp 1 [(2, 1), (1, (-1))], sp (-1) [(2, (-1)), (1, 1)], (1108, [2, 0, 1, 0, 2], []), sp 1 [(3, 1), (1, (-7))], sp (-1) [(3, (-1)), (1, 7)], (1, [0, 3, 4], []), sp 0 [(4, 1)], sp 0 [(5, 1), (4, (-6))], sp 0 [(5, (-1)), (4, 6)], (1, [1, 5, 6], []), sp 0 [(6, 1), (2, (-1))], sp 0 [(2, 1), (6, (-1))], sp (-4) [(7, 1), (4, (-6))], sp 4 [(7, (-1)), (4, 6)], (1, [1, 7, 9], []), sp 0 [(9, 1)]], [(1108, [2, 0, 1, 0, 1], [])])
theorem q_sqY1_ok : RlOk q_sqY1 := by
  intro fs zs h x hx
  obtain ⟨H0, h⟩ := snAll h
  replace H0 := sp_2.mp H0
  obtain ⟨H1, h⟩ := snAll h
  replace H1 := sp_2.mp H1
  obtain ⟨H2, h⟩ := snAll h
  replace H2 := s_shq.mp H2
  obtain ⟨H3, h⟩ := snAll h
  replace H3 := sp_2.mp H3
  obtain ⟨H4, h⟩ := snAll h
  replace H4 := sp_2.mp H4
  obtain ⟨H5, h⟩ := snAll h
  replace H5 := s_rd.mp H5
  obtain ⟨H6, h⟩ := snAll h
  replace H6 := sp_1.mp H6
  obtain ⟨H7, h⟩ := snAll h
  replace H7 := sp_2.mp H7
  obtain ⟨H8, h⟩ := snAll h
  replace H8 := sp_2.mp H8
  obtain ⟨H9, h⟩ := snAll h
  replace H9 := s_rd.mp H9
  obtain ⟨H10, h⟩ := snAll h
  replace H10 := sp_2.mp H10
  obtain ⟨H11, h⟩ := snAll h
  replace H11 := sp_2.mp H11
  obtain ⟨H12, h⟩ := snAll h
  replace H12 := sp_2.mp H12
  obtain ⟨H13, h⟩ := snAll h
  replace H13 := sp_2.mp H13
  obtain ⟨H14, h⟩ := snAll h
  replace H14 := s_rd.mp H14
  obtain ⟨H15, h⟩ := snAll h
  replace H15 := sp_1.mp H15
  have L := L_sqY1 (F0 := nthF fs 0) (F1 := nthF fs 1) (N0 := nthZ zs 0) (N1 := nthZ zs 1) (N2 := nthZ zs 2) (N3 := nthZ zs 3) (N4 := nthZ zs 4) (N5 := nthZ zs 5) (N6 := nthZ zs 6) (N7 := nthZ zs 7) (N8 := nthZ zs 8) (N9 := nthZ zs 9) (by omega) H2 (by omega) H5 (by omega) (by omega) H9 (by omega) (by omega) (by omega) H14 (by omega)
  rcases List.mem_cons.mp hx with hx | hx
  · rw [hx]; refine s_shq.mpr ?_; exact L
  · cases hx
def q_sqW : qRl := ([(2, [2, 0, 4, 5], []), (1108, [2, 0, 1, 0, 1], []), sp 0 [(4, 1), (1, (-7))]], [(1108, [2, 2, 1, 0, 1], [])])
theorem q_sqW_ok : RlOk q_sqW := by
  intro fs zs h x hx
  obtain ⟨H0, h⟩ := snAll h
  replace H0 := s_wr.mp H0
  obtain ⟨H1, h⟩ := snAll h
  replace H1 := s_shq.mp H1
  obtain ⟨H2, h⟩ := snAll h
  replace H2 := sp_2.mp H2
  have L := L_sqW (F0 := nthF fs 0) (F1 := nthF fs 1) (F2 := nthF fs 2) (N0 := nthZ zs 0) (N1 := nthZ zs 1) (N2 := nthZ zs 2) (N3 := nthZ zs 3) (N4 := nthZ zs 4) (N5 := nthZ zs 5) H0 H1 (by omega)
  rcases List.mem_cons.mp hx with hx | hx
  · rw [hx]; refine s_shq.mpr ?_; exact L
  · cases hx
def q_sqV : qRl := ([(2, [2, 0, 4, 5], []), (1091, [0, 10, 11], []), (1108, [2, 0, 1, 0, 1], []), sp (-1) [(4, 1), (10, (-7))], sp 5 [(10, 7), (4, (-1))]], [(1108, [2, 2, 1, 0, 1], [])])
theorem q_sqV_ok : RlOk q_sqV := by
  intro fs zs h x hx
  obtain ⟨H0, h⟩ := snAll h
  replace H0 := s_wr.mp H0
  obtain ⟨H1, h⟩ := snAll h
  replace H1 := s_us.mp H1
  obtain ⟨H2, h⟩ := snAll h
  replace H2 := s_shq.mp H2
  obtain ⟨H3, h⟩ := snAll h
  replace H3 := sp_2.mp H3
  obtain ⟨H4, h⟩ := snAll h
  replace H4 := sp_2.mp H4
  have L := L_sqV (F0 := nthF fs 0) (F1 := nthF fs 1) (F2 := nthF fs 2) (N0 := nthZ zs 0) (N1 := nthZ zs 1) (N2 := nthZ zs 2) (N3 := nthZ zs 3) (N4 := nthZ zs 4) (N5 := nthZ zs 5) (N6 := nthZ zs 6) (N7 := nthZ zs 7) (N8 := nthZ zs 8) (N9 := nthZ zs 9) (N10 := nthZ zs 10) (N11 := nthZ zs 11) H0 H1 H2 (by omega) (by omega)
  rcases List.mem_cons.mp hx with hx | hx
  · rw [hx]; refine s_shq.mpr ?_; exact L
  · cases hx
def q_sqK : qRl := ([(2, [2, 0, 4, 5], []), (1091, [0, 10, 11], []), (1108, [2, 0, 1, 0, 1], []), sp 0 [(4, 1), (10, (-7))], sp 0 [(10, 7), (4, (-1))], sp 4 [(5, (-1))]], [(1108, [2, 2, 1, 0, 1], [])])
theorem q_sqK_ok : RlOk q_sqK := by
  intro fs zs h x hx
  obtain ⟨H0, h⟩ := snAll h
  replace H0 := s_wr.mp H0
  obtain ⟨H1, h⟩ := snAll h
  replace H1 := s_us.mp H1
  obtain ⟨H2, h⟩ := snAll h
  replace H2 := s_shq.mp H2
  obtain ⟨H3, h⟩ := snAll h
  replace H3 := sp_2.mp H3
  obtain ⟨H4, h⟩ := snAll h
  replace H4 := sp_2.mp H4
  obtain ⟨H5, h⟩ := snAll h
  replace H5 := sp_1.mp H5
  have L := L_sqK (F0 := nthF fs 0) (F1 := nthF fs 1) (F2 := nthF fs 2) (N0 := nthZ zs 0) (N1 := nthZ zs 1) (N2 := nthZ zs 2) (N3 := nthZ zs 3) (N4 := nthZ zs 4) (N5 := nthZ zs 5) (N6 := nthZ zs 6) (N7 := nthZ zs 7) (N8 := nthZ zs 8) (N9 := nthZ zs 9) (N10 := nthZ zs 10) (N11 := nthZ zs 11) H0 H1 H2 (by omega) (by omega) (by omega)
  rcases List.mem_cons.mp hx with hx | hx
  · rw [hx]; refine s_shq.mpr ?_; exact L
  · cases hx
def q_sqA : qRl := ([(2, [2, 1, 4, 5], []), (1091, [0, 10, 11], []), (1108, [2, 0, 1, 0, 1], []), sp (-1) [(4, 1), (10, (-6))], sp 3 [(10, 6), (4, (-1))]], [(1108, [2, 0, 2, 0, 1], [])])
theorem q_sqA_ok : RlOk q_sqA := by
  intro fs zs h x hx
  obtain ⟨H0, h⟩ := snAll h
  replace H0 := s_wr.mp H0
  obtain ⟨H1, h⟩ := snAll h
  replace H1 := s_us.mp H1
  obtain ⟨H2, h⟩ := snAll h
  replace H2 := s_shq.mp H2
  obtain ⟨H3, h⟩ := snAll h
  replace H3 := sp_2.mp H3
  obtain ⟨H4, h⟩ := snAll h
  replace H4 := sp_2.mp H4
  have L := L_sqA (F0 := nthF fs 0) (F1 := nthF fs 1) (F2 := nthF fs 2) (N0 := nthZ zs 0) (N1 := nthZ zs 1) (N2 := nthZ zs 2) (N3 := nthZ zs 3) (N4 := nthZ zs 4) (N5 := nthZ zs 5) (N6 := nthZ zs 6) (N7 := nthZ zs 7) (N8 := nthZ zs 8) (N9 := nthZ zs 9) (N10 := nthZ zs 10) (N11 := nthZ zs 11) H0 H1 H2 (by omega) (by omega)
  rcases List.mem_cons.mp hx with hx | hx
  · rw [hx]; refine s_shq.mpr ?_; exact L
  · cases hx
def q_sqB : qRl := ([(2, [2, 1, 4, 5], []), (1091, [0, 10, 11], []), (1108, [2, 0, 1, 0, 1], []), sp (-5) [(4, 1), (10, (-6))], sp 5 [(10, 6), (4, (-1))]], [(1108, [2, 0, 2, 0, 1], [])])
theorem q_sqB_ok : RlOk q_sqB := by
  intro fs zs h x hx
  obtain ⟨H0, h⟩ := snAll h
  replace H0 := s_wr.mp H0
  obtain ⟨H1, h⟩ := snAll h
  replace H1 := s_us.mp H1
  obtain ⟨H2, h⟩ := snAll h
  replace H2 := s_shq.mp H2
  obtain ⟨H3, h⟩ := snAll h
  replace H3 := sp_2.mp H3
  obtain ⟨H4, h⟩ := snAll h
  replace H4 := sp_2.mp H4
  have L := L_sqB (F0 := nthF fs 0) (F1 := nthF fs 1) (F2 := nthF fs 2) (N0 := nthZ zs 0) (N1 := nthZ zs 1) (N2 := nthZ zs 2) (N3 := nthZ zs 3) (N4 := nthZ zs 4) (N5 := nthZ zs 5) (N6 := nthZ zs 6) (N7 := nthZ zs 7) (N8 := nthZ zs 8) (N9 := nthZ zs 9) (N10 := nthZ zs 10) (N11 := nthZ zs 11) H0 H1 H2 (by omega) (by omega)
  rcases List.mem_cons.mp hx with hx | hx
  · rw [hx]; refine s_shq.mpr ?_; exact L
  · cases hx
def q_sqC : qRl := ([(2, [2, 1, 4, 5], []), (1091, [0, 10, 11], []), (1108, [2, 0, 1, 0, 1], []), sp (-4) [(4, 1), (10, (-6))], sp 4 [(10, 6), (4, (-1))], sp 0 [(6, 1), (10, (-6))], sp 0 [(6, (-1)), (10, 6)], (1, [1, 6, 7], []), sp 0 [(8, 1), (7, (-7))], sp 0 [(8, (-1)), (7, 7)], (1, [0, 8, 9], []), sp 4 [(9, (-1))]], [(1108, [2, 0, 2, 0, 1], [])])
theorem q_sqC_ok : RlOk q_sqC := by
  intro fs zs h x hx
  obtain ⟨H0, h⟩ := snAll h
  replace H0 := s_wr.mp H0
  obtain ⟨H1, h⟩ := snAll h
  replace H1 := s_us.mp H1
  obtain ⟨H2, h⟩ := snAll h
  replace H2 := s_shq.mp H2
  obtain ⟨H3, h⟩ := snAll h
  replace H3 := sp_2.mp H3
  obtain ⟨H4, h⟩ := snAll h
  replace H4 := sp_2.mp H4
  obtain ⟨H5, h⟩ := snAll h
  replace H5 := sp_2.mp H5
  obtain ⟨H6, h⟩ := snAll h
  replace H6 := sp_2.mp H6
  obtain ⟨H7, h⟩ := snAll h
  replace H7 := s_rd.mp H7
  obtain ⟨H8, h⟩ := snAll h
  replace H8 := sp_2.mp H8
  obtain ⟨H9, h⟩ := snAll h
  replace H9 := sp_2.mp H9
  obtain ⟨H10, h⟩ := snAll h
  replace H10 := s_rd.mp H10
  obtain ⟨H11, h⟩ := snAll h
  replace H11 := sp_1.mp H11
  have L := L_sqC (F0 := nthF fs 0) (F1 := nthF fs 1) (F2 := nthF fs 2) (N0 := nthZ zs 0) (N1 := nthZ zs 1) (N2 := nthZ zs 2) (N3 := nthZ zs 3) (N4 := nthZ zs 4) (N5 := nthZ zs 5) (N6 := nthZ zs 6) (N7 := nthZ zs 7) (N8 := nthZ zs 8) (N9 := nthZ zs 9) (N10 := nthZ zs 10) (N11 := nthZ zs 11) H0 H1 H2 (by omega) (by omega) (by omega) H7 (by omega) H10 (by omega)
  rcases List.mem_cons.mp hx with hx | hx
  · rw [hx]; refine s_shq.mpr ?_; exact L
  · cases hx
def q_pcE : qRl := ([sp 0 [(1, 1)], sp 0 [(1, (-1))], sp 0 [(2, 1)], sp 0 [(2, (-1))], sp 0 [], sp 0 []], [(1109, [3, 0, 1, 2, 0, 1, 2, 3], [])])
theorem q_pcE_ok : RlOk q_pcE := by
  intro fs zs h x hx
  obtain ⟨H0, h⟩ := snAll h
  replace H0 := sp_1.mp H0
  obtain ⟨H1, h⟩ := snAll h
  replace H1 := sp_1.mp H1
  obtain ⟨H2, h⟩ := snAll h
  replace H2 := sp_1.mp H2
  obtain ⟨H3, h⟩ := snAll h
  replace H3 := sp_1.mp H3
  obtain ⟨H4, h⟩ := snAll h
  replace H4 := sp_0.mp H4
  obtain ⟨H5, h⟩ := snAll h
  replace H5 := sp_0.mp H5
  have L := L_pcE (F0 := nthF fs 0) (F1 := nthF fs 1) (F2 := nthF fs 2) (N0 := nthZ zs 0) (N1 := nthZ zs 1) (N2 := nthZ zs 2) (N3 := nthZ zs 3) (by omega) (by omega) (by omega) (by omega) (by omega) (by omega)
  rcases List.mem_cons.mp hx with hx | hx
  · rw [hx]; refine s_plc.mpr ?_; exact L
  · cases hx
def q_pcX0 : qRl := ([sp 1 [(4, 1), (2, (-1))], sp (-1) [(4, (-1)), (2, 1)], (1109, [3, 0, 1, 2, 0, 1, 4, 3], []), sp 4 [(5, 1), (2, (-4)), (1, (-1))], sp (-4) [(5, (-1)), (2, 4), (1, 1)], (1, [1, 5, 6], []), sp 0 [(6, 1)], sp 0 [(6, (-1))]], [(1109, [3, 0, 1, 2, 0, 1, 2, 3], [])])
theorem q_pcX0_ok : RlOk q_pcX0 := by
  intro fs zs h x hx
  obtain ⟨H0, h⟩ := snAll h
  replace H0 := sp_2.mp H0
  obtain ⟨H1, h⟩ := snAll h
  replace H1 := sp_2.mp H1
  obtain ⟨H2, h⟩ := snAll h
  replace H2 := s_plc.mp H2
  obtain ⟨H3, h⟩ := snAll h
  replace H3 := sp_3.mp H3
  obtain ⟨H4, h⟩ := snAll h
  replace H4 := sp_3.mp H4
  obtain ⟨H5, h⟩ := snAll h
  replace H5 := s_rd.mp H5
  obtain ⟨H6, h⟩ := snAll h
  replace H6 := sp_1.mp H6
  obtain ⟨H7, h⟩ := snAll h
  replace H7 := sp_1.mp H7
  have L := L_pcX0 (F0 := nthF fs 0) (F1 := nthF fs 1) (F2 := nthF fs 2) (N0 := nthZ zs 0) (N1 := nthZ zs 1) (N2 := nthZ zs 2) (N3 := nthZ zs 3) (N4 := nthZ zs 4) (N5 := nthZ zs 5) (N6 := nthZ zs 6) (by omega) H2 (by omega) H5 (by omega) (by omega)
  rcases List.mem_cons.mp hx with hx | hx
  · rw [hx]; refine s_plc.mpr ?_; exact L
  · cases hx
def q_pcX1 : qRl := ([sp 1 [(4, 1), (2, (-1))], sp (-1) [(4, (-1)), (2, 1)], (1109, [3, 0, 1, 2, 0, 1, 4, 7], []), sp 0 [(3, 1), (7, (-1))], sp 4 [(5, 1), (2, (-4)), (1, (-1))], sp (-4) [(5, (-1)), (2, 4), (1, 1)], (1, [0, 5, 6], []), sp (-4194304) [(6, 1)], sp 8 [(8, 1), (2, (-17)), (1, (-1))], sp (-8) [(8, (-1)), (2, 17), (1, 1)], (1, [2, 8, 9], []), sp 0 [(3, 1), (6, (-1)), (9, (-1))]], [(1109, [3, 0, 1, 2, 0, 1, 2, 3], [])])
theorem q_pcX1_ok : RlOk q_pcX1 := by
  intro fs zs h x hx
  obtain ⟨H0, h⟩ := snAll h
  replace H0 := sp_2.mp H0
  obtain ⟨H1, h⟩ := snAll h
  replace H1 := sp_2.mp H1
  obtain ⟨H2, h⟩ := snAll h
  replace H2 := s_plc.mp H2
  obtain ⟨H3, h⟩ := snAll h
  replace H3 := sp_2.mp H3
  obtain ⟨H4, h⟩ := snAll h
  replace H4 := sp_3.mp H4
  obtain ⟨H5, h⟩ := snAll h
  replace H5 := sp_3.mp H5
  obtain ⟨H6, h⟩ := snAll h
  replace H6 := s_rd.mp H6
  obtain ⟨H7, h⟩ := snAll h
  replace H7 := sp_1.mp H7
  obtain ⟨H8, h⟩ := snAll h
  replace H8 := sp_3.mp H8
  obtain ⟨H9, h⟩ := snAll h
  replace H9 := sp_3.mp H9
  obtain ⟨H10, h⟩ := snAll h
  replace H10 := s_rd.mp H10
  obtain ⟨H11, h⟩ := snAll h
  replace H11 := sp_3.mp H11
  have L := L_pcX1 (F0 := nthF fs 0) (F1 := nthF fs 1) (F2 := nthF fs 2) (N0 := nthZ zs 0) (N1 := nthZ zs 1) (N2 := nthZ zs 2) (N3 := nthZ zs 3) (N4 := nthZ zs 4) (N5 := nthZ zs 5) (N6 := nthZ zs 6) (N7 := nthZ zs 7) (N8 := nthZ zs 8) (N9 := nthZ zs 9) (by omega) H2 (by omega) (by omega) H6 (by omega) (by omega) H10 (by omega)
  rcases List.mem_cons.mp hx with hx | hx
  · rw [hx]; refine s_plc.mpr ?_; exact L
  · cases hx
def q_pcS : qRl := ([sp 1 [(4, 1), (1, (-1))], sp (-1) [(4, (-1)), (1, 1)], (1109, [3, 0, 1, 2, 0, 4, 5, 6], []), sp 0 [(5, 1), (0, (-1))], sp 0 [(3, 1), (6, (-1))], sp 0 [(2, (-1))], sp 0 [(2, 1)]], [(1109, [3, 0, 1, 2, 0, 1, 2, 3], [])])
theorem q_pcS_ok : RlOk q_pcS := by
  intro fs zs h x hx
  obtain ⟨H0, h⟩ := snAll h
  replace H0 := sp_2.mp H0
  obtain ⟨H1, h⟩ := snAll h
  replace H1 := sp_2.mp H1
  obtain ⟨H2, h⟩ := snAll h
  replace H2 := s_plc.mp H2
  obtain ⟨H3, h⟩ := snAll h
  replace H3 := sp_2.mp H3
  obtain ⟨H4, h⟩ := snAll h
  replace H4 := sp_2.mp H4
  obtain ⟨H5, h⟩ := snAll h
  replace H5 := sp_1.mp H5
  obtain ⟨H6, h⟩ := snAll h
  replace H6 := sp_1.mp H6
  have L := L_pcS (F0 := nthF fs 0) (F1 := nthF fs 1) (F2 := nthF fs 2) (N0 := nthZ zs 0) (N1 := nthZ zs 1) (N2 := nthZ zs 2) (N3 := nthZ zs 3) (N4 := nthZ zs 4) (N5 := nthZ zs 5) (N6 := nthZ zs 6) (by omega) H2 (by omega) (by omega) (by omega) (by omega)
  rcases List.mem_cons.mp hx with hx | hx
  · rw [hx]; refine s_plc.mpr ?_; exact L
  · cases hx
def q_pcU : qRl := ([(2, [3, 0, 4, 5], []), (1109, [3, 0, 1, 2, 0, 1, 2, 3], []), sp 0 [(4, 1), (2, (-4)), (1, (-1))], sp 0 [(2, 4), (1, 1), (4, (-1))], sp 0 [(1, 1)], sp 3 [(1, (-1))]], [(1109, [3, 3, 1, 2, 0, 1, 2, 3], [])])
theorem q_pcU_ok : RlOk q_pcU := by
  intro fs zs h x hx
  obtain ⟨H0, h⟩ := snAll h
  replace H0 := s_wr.mp H0
  obtain ⟨H1, h⟩ := snAll h
  replace H1 := s_plc.mp H1
  obtain ⟨H2, h⟩ := snAll h
  replace H2 := sp_3.mp H2
  obtain ⟨H3, h⟩ := snAll h
  replace H3 := sp_3.mp H3
  obtain ⟨H4, h⟩ := snAll h
  replace H4 := sp_1.mp H4
  obtain ⟨H5, h⟩ := snAll h
  replace H5 := sp_1.mp H5
  have L := L_pcU (F0 := nthF fs 0) (F1 := nthF fs 1) (F2 := nthF fs 2) (F3 := nthF fs 3) (N0 := nthZ zs 0) (N1 := nthZ zs 1) (N2 := nthZ zs 2) (N3 := nthZ zs 3) (N4 := nthZ zs 4) (N5 := nthZ zs 5) H0 H1 (by omega) (by omega) (by omega) (by omega)
  rcases List.mem_cons.mp hx with hx | hx
  · rw [hx]; refine s_plc.mpr ?_; exact L
  · cases hx
def q_pcZ : qRl := ([(1109, [3, 0, 1, 2, 0, 1, 2, 4], []), sp 0 [(3, 1), (4, (-1))]], [(1109, [3, 0, 1, 2, 0, 1, 2, 3], [])])
theorem q_pcZ_ok : RlOk q_pcZ := by
  intro fs zs h x hx
  obtain ⟨H0, h⟩ := snAll h
  replace H0 := s_plc.mp H0
  obtain ⟨H1, h⟩ := snAll h
  replace H1 := sp_2.mp H1
  have L := L_pcZ (F0 := nthF fs 0) (F1 := nthF fs 1) (F2 := nthF fs 2) (N0 := nthZ zs 0) (N1 := nthZ zs 1) (N2 := nthZ zs 2) (N3 := nthZ zs 3) (N4 := nthZ zs 4) H0 (by omega)
  rcases List.mem_cons.mp hx with hx | hx
  · rw [hx]; refine s_plc.mpr ?_; exact L
  · cases hx
def q_pcI : qRl := ([(1091, [0, 4, 5], []), (1109, [3, 0, 1, 2, 0, 1, 2, 3], []), sp (-4) [(1, 1)], sp 0 [(4, 1)], sp (-1) [(0, 1), (4, (-1))], sp 0 [(5, 1)], sp 3 [(5, (-1))], sp 0 [(6, 1), (4, (-4)), (5, (-1))], sp 0 [(6, (-1)), (4, 4), (5, 1)], (1, [1, 6, 7], []), sp (-1) [(7, 1)], (1, [0, 6, 8], []), sp (-9) [(9, 1), (4, (-17)), (5, (-1))], sp 9 [(9, (-1)), (4, 17), (5, 1)], (1, [2, 9, 10], [])], [sp (-4194304) [(8, 1)], sp 0 [(3, 1), (8, (-1)), (10, (-1))]])
theorem q_pcI_ok : RlOk q_pcI := by
  intro fs zs h x hx
  obtain ⟨H0, h⟩ := snAll h
  replace H0 := s_us.mp H0
  obtain ⟨H1, h⟩ := snAll h
  replace H1 := s_plc.mp H1
  obtain ⟨H2, h⟩ := snAll h
  replace H2 := sp_1.mp H2
  obtain ⟨H3, h⟩ := snAll h
  replace H3 := sp_1.mp H3
  obtain ⟨H4, h⟩ := snAll h
  replace H4 := sp_2.mp H4
  obtain ⟨H5, h⟩ := snAll h
  replace H5 := sp_1.mp H5
  obtain ⟨H6, h⟩ := snAll h
  replace H6 := sp_1.mp H6
  obtain ⟨H7, h⟩ := snAll h
  replace H7 := sp_3.mp H7
  obtain ⟨H8, h⟩ := snAll h
  replace H8 := sp_3.mp H8
  obtain ⟨H9, h⟩ := snAll h
  replace H9 := s_rd.mp H9
  obtain ⟨H10, h⟩ := snAll h
  replace H10 := sp_1.mp H10
  obtain ⟨H11, h⟩ := snAll h
  replace H11 := s_rd.mp H11
  obtain ⟨H12, h⟩ := snAll h
  replace H12 := sp_3.mp H12
  obtain ⟨H13, h⟩ := snAll h
  replace H13 := sp_3.mp H13
  obtain ⟨H14, h⟩ := snAll h
  replace H14 := s_rd.mp H14
  have L := L_pcI (F0 := nthF fs 0) (F1 := nthF fs 1) (F2 := nthF fs 2) (N0 := nthZ zs 0) (N1 := nthZ zs 1) (N2 := nthZ zs 2) (N3 := nthZ zs 3) (N4 := nthZ zs 4) (N5 := nthZ zs 5) (N6 := nthZ zs 6) (N7 := nthZ zs 7) (N8 := nthZ zs 8) (N9 := nthZ zs 9) (N10 := nthZ zs 10) H0 H1 (by omega) (by omega) (by omega) (by omega) (by omega) (by omega) H9 (by omega) H11 (by omega) H14
  rcases List.mem_cons.mp hx with hx | hx
  · rw [hx]; refine sp_1.mpr ?_; omega
  rcases List.mem_cons.mp hx with hx | hx
  · rw [hx]; refine sp_3.mpr ?_; omega
  · cases hx
def q_curLM : qRl := ([(1099, [2, 0, 1, 0, 1, 2, 3, 5], []), sp 9 [(4, 10), (5, (-1))]], [(1099, [2, 0, 1, 0, 1, 2, 3, 4], [])])
theorem q_curLM_ok : RlOk q_curLM := by
  intro fs zs h x hx
  obtain ⟨H0, h⟩ := snAll h
  replace H0 := s_curL.mp H0
  obtain ⟨H1, h⟩ := snAll h
  replace H1 := sp_2.mp H1
  have L := L_curLM (F0 := nthF fs 0) (F1 := nthF fs 1) (N0 := nthZ zs 0) (N1 := nthZ zs 1) (N2 := nthZ zs 2) (N3 := nthZ zs 3) (N4 := nthZ zs 4) (N5 := nthZ zs 5) H0 (by omega)
  rcases List.mem_cons.mp hx with hx | hx
  · rw [hx]; refine s_curL.mpr ?_; exact L
  · cases hx
def q_jwoM : qRl := ([(1106, [2, 0, 1, 0, 1, 2, 4], []), sp 9 [(3, 10), (4, (-1))]], [(1106, [2, 0, 1, 0, 1, 2, 3], [])])
theorem q_jwoM_ok : RlOk q_jwoM := by
  intro fs zs h x hx
  obtain ⟨H0, h⟩ := snAll h
  replace H0 := s_jwo.mp H0
  obtain ⟨H1, h⟩ := snAll h
  replace H1 := sp_2.mp H1
  have L := L_jwoM (F0 := nthF fs 0) (F1 := nthF fs 1) (N0 := nthZ zs 0) (N1 := nthZ zs 1) (N2 := nthZ zs 2) (N3 := nthZ zs 3) (N4 := nthZ zs 4) H0 (by omega)
  rcases List.mem_cons.mp hx with hx | hx
  · rw [hx]; refine s_jwo.mpr ?_; exact L
  · cases hx
def q_jyM : qRl := ([(1107, [2, 0, 1, 0, 1, 2, 5, 4], []), sp 0 [(3, 1), (5, (-1))]], [(1107, [2, 0, 1, 0, 1, 2, 3, 4], [])])
theorem q_jyM_ok : RlOk q_jyM := by
  intro fs zs h x hx
  obtain ⟨H0, h⟩ := snAll h
  replace H0 := s_jwa.mp H0
  obtain ⟨H1, h⟩ := snAll h
  replace H1 := sp_2.mp H1
  have L := L_jyM (F0 := nthF fs 0) (F1 := nthF fs 1) (N0 := nthZ zs 0) (N1 := nthZ zs 1) (N2 := nthZ zs 2) (N3 := nthZ zs 3) (N4 := nthZ zs 4) (N5 := nthZ zs 5) H0 (by omega)
  rcases List.mem_cons.mp hx with hx | hx
  · rw [hx]; refine s_jwa.mpr ?_; exact L
  · cases hx
def q_nf0 : qRl := ([sp 0 [(1, (-1))], sp 0 []], [(1114, [0, 0, 1], [])])
theorem q_nf0_ok : RlOk q_nf0 := by
  intro fs zs h x hx
  obtain ⟨H0, h⟩ := snAll h
  replace H0 := sp_1.mp H0
  obtain ⟨H1, h⟩ := snAll h
  replace H1 := sp_0.mp H1
  have L := L_nf0 (N0 := nthZ zs 0) (N1 := nthZ zs 1) (by omega) (by omega)
  rcases List.mem_cons.mp hx with hx | hx
  · rw [hx]; refine s_nft.mpr ?_; exact L
  · cases hx
def q_nf4 : qRl := ([sp (-4) [(0, 1)], sp 4 [(0, (-1))], sp 4 [(1, (-1))]], [(1114, [0, 0, 1], [])])
theorem q_nf4_ok : RlOk q_nf4 := by
  intro fs zs h x hx
  obtain ⟨H0, h⟩ := snAll h
  replace H0 := sp_1.mp H0
  obtain ⟨H1, h⟩ := snAll h
  replace H1 := sp_1.mp H1
  obtain ⟨H2, h⟩ := snAll h
  replace H2 := sp_1.mp H2
  have L := L_nf4 (N0 := nthZ zs 0) (N1 := nthZ zs 1) (by omega) (by omega) (by omega)
  rcases List.mem_cons.mp hx with hx | hx
  · rw [hx]; refine s_nft.mpr ?_; exact L
  · cases hx
def q_nf5 : qRl := ([sp (-5) [(0, 1)], sp 5 [(0, (-1))], sp 8 [(1, (-1))]], [(1114, [0, 0, 1], [])])
theorem q_nf5_ok : RlOk q_nf5 := by
  intro fs zs h x hx
  obtain ⟨H0, h⟩ := snAll h
  replace H0 := sp_1.mp H0
  obtain ⟨H1, h⟩ := snAll h
  replace H1 := sp_1.mp H1
  obtain ⟨H2, h⟩ := snAll h
  replace H2 := sp_1.mp H2
  have L := L_nf5 (N0 := nthZ zs 0) (N1 := nthZ zs 1) (by omega) (by omega) (by omega)
  rcases List.mem_cons.mp hx with hx | hx
  · rw [hx]; refine s_nft.mpr ?_; exact L
  · cases hx
def q_rwA : qRl := ([sp (-3) [(2, 1), (0, (-1))], sp 3 [(2, (-1)), (0, 1)], (1, [0, 2, 3], []), (1114, [0, 3, 1], [])], [(1115, [1, 0, 0, 1], [])])
theorem q_rwA_ok : RlOk q_rwA := by
  intro fs zs h x hx
  obtain ⟨H0, h⟩ := snAll h
  replace H0 := sp_2.mp H0
  obtain ⟨H1, h⟩ := snAll h
  replace H1 := sp_2.mp H1
  obtain ⟨H2, h⟩ := snAll h
  replace H2 := s_rd.mp H2
  obtain ⟨H3, h⟩ := snAll h
  replace H3 := s_nft.mp H3
  have L := L_rwA (F0 := nthF fs 0) (N0 := nthZ zs 0) (N1 := nthZ zs 1) (N2 := nthZ zs 2) (N3 := nthZ zs 3) (by omega) H2 H3
  rcases List.mem_cons.mp hx with hx | hx
  · rw [hx]; refine s_rwn.mpr ?_; exact L
  · cases hx
def q_rwB : qRl := ([sp (-2) [(2, 1), (0, (-1))], sp 2 [(2, (-1)), (0, 1)], (1, [0, 2, 3], []), (1112, [0, 3, 4], []), sp (-1) [(4, (-1))], sp 0 []], [(1115, [1, 0, 0, 1], [])])
theorem q_rwB_ok : RlOk q_rwB := by
  intro fs zs h x hx
  obtain ⟨H0, h⟩ := snAll h
  replace H0 := sp_2.mp H0
  obtain ⟨H1, h⟩ := snAll h
  replace H1 := sp_2.mp H1
  obtain ⟨H2, h⟩ := snAll h
  replace H2 := s_rd.mp H2
  obtain ⟨H3, h⟩ := snAll h
  replace H3 := s_kna.mp H3
  obtain ⟨H4, h⟩ := snAll h
  replace H4 := sp_1.mp H4
  obtain ⟨H5, h⟩ := snAll h
  replace H5 := sp_0.mp H5
  have L := L_rwB (F0 := nthF fs 0) (N0 := nthZ zs 0) (N1 := nthZ zs 1) (N2 := nthZ zs 2) (N3 := nthZ zs 3) (N4 := nthZ zs 4) (by omega) H2 H3 (by omega) (by omega)
  rcases List.mem_cons.mp hx with hx | hx
  · rw [hx]; refine s_rwn.mpr ?_; exact L
  · cases hx
def q_rwN : qRl := ([sp (-1) [(0, (-1))], sp 0 []], [(1115, [1, 0, 0, 1], [])])
theorem q_rwN_ok : RlOk q_rwN := by
  intro fs zs h x hx
  obtain ⟨H0, h⟩ := snAll h
  replace H0 := sp_1.mp H0
  obtain ⟨H1, h⟩ := snAll h
  replace H1 := sp_0.mp H1
  have L := L_rwN (F0 := nthF fs 0) (N0 := nthZ zs 0) (N1 := nthZ zs 1) (by omega) (by omega)
  rcases List.mem_cons.mp hx with hx | hx
  · rw [hx]; refine s_rwn.mpr ?_; exact L
  · cases hx
def q_rwI : qRl := ([(1115, [1, 0, 0, 1], []), sp 0 [(0, 1)], (1112, [0, 3, 4], []), sp 0 [(4, 1)], sp (-2) [(2, 1), (0, (-1))], sp 2 [(2, (-1)), (0, 1)], (1, [0, 2, 3], []), sp (-3) [(5, 1), (0, (-1))], sp 3 [(5, (-1)), (0, 1)], (1, [0, 5, 6], []), (1113, [0, 6, 7], [])], [sp 0 [(7, 1), (1, (-1))]])
theorem q_rwI_ok : RlOk q_rwI := by
  intro fs zs h x hx
  obtain ⟨H0, h⟩ := snAll h
  replace H0 := s_rwn.mp H0
  obtain ⟨H1, h⟩ := snAll h
  replace H1 := sp_1.mp H1
  obtain ⟨H2, h⟩ := snAll h
  replace H2 := s_kna.mp H2
  obtain ⟨H3, h⟩ := snAll h
  replace H3 := sp_1.mp H3
  obtain ⟨H4, h⟩ := snAll h
  replace H4 := sp_2.mp H4
  obtain ⟨H5, h⟩ := snAll h
  replace H5 := sp_2.mp H5
  obtain ⟨H6, h⟩ := snAll h
  replace H6 := s_rd.mp H6
  obtain ⟨H7, h⟩ := snAll h
  replace H7 := sp_2.mp H7
  obtain ⟨H8, h⟩ := snAll h
  replace H8 := sp_2.mp H8
  obtain ⟨H9, h⟩ := snAll h
  replace H9 := s_rd.mp H9
  obtain ⟨H10, h⟩ := snAll h
  replace H10 := s_kwi.mp H10
  have L := L_rwI (F0 := nthF fs 0) (N0 := nthZ zs 0) (N1 := nthZ zs 1) (N2 := nthZ zs 2) (N3 := nthZ zs 3) (N4 := nthZ zs 4) (N5 := nthZ zs 5) (N6 := nthZ zs 6) (N7 := nthZ zs 7) H0 (by omega) H2 (by omega) (by omega) H6 (by omega) H9 H10
  rcases List.mem_cons.mp hx with hx | hx
  · rw [hx]; refine sp_2.mpr ?_; omega
  · cases hx
def q_wpA : qRl := ([sp (-4) [(1, 1), (0, (-6))], sp 4 [(1, (-1)), (0, 6)], (1, [0, 1, 2], []), sp (-2) [(2, (-1))]], [(1116, [1, 0, 0], [])])
theorem q_wpA_ok : RlOk q_wpA := by
  intro fs zs h x hx
  obtain ⟨H0, h⟩ := snAll h
  replace H0 := sp_2.mp H0
  obtain ⟨H1, h⟩ := snAll h
  replace H1 := sp_2.mp H1
  obtain ⟨H2, h⟩ := snAll h
  replace H2 := s_rd.mp H2
  obtain ⟨H3, h⟩ := snAll h
  replace H3 := sp_1.mp H3
  have L := L_wpA (F0 := nthF fs 0) (N0 := nthZ zs 0) (N1 := nthZ zs 1) (N2 := nthZ zs 2) (by omega) H2 (by omega)
  rcases List.mem_cons.mp hx with hx | hx
  · rw [hx]; refine s_wpl.mpr ?_; exact L
  · cases hx
def q_wpB : qRl := ([sp (-4) [(1, 1), (0, (-6))], sp 4 [(1, (-1)), (0, 6)], (1, [0, 1, 2], []), sp 0 [(2, 1)]], [(1116, [1, 0, 0], [])])
theorem q_wpB_ok : RlOk q_wpB := by
  intro fs zs h x hx
  obtain ⟨H0, h⟩ := snAll h
  replace H0 := sp_2.mp H0
  obtain ⟨H1, h⟩ := snAll h
  replace H1 := sp_2.mp H1
  obtain ⟨H2, h⟩ := snAll h
  replace H2 := s_rd.mp H2
  obtain ⟨H3, h⟩ := snAll h
  replace H3 := sp_1.mp H3
  have L := L_wpB (F0 := nthF fs 0) (N0 := nthZ zs 0) (N1 := nthZ zs 1) (N2 := nthZ zs 2) (by omega) H2 (by omega)
  rcases List.mem_cons.mp hx with hx | hx
  · rw [hx]; refine s_wpl.mpr ?_; exact L
  · cases hx
def q_sqSw : qRl := ([(2, [2, 0, 4, 5], []), (1091, [0, 10, 11], []), (1108, [2, 0, 1, 0, 1], []), sp 0 [(4, 1), (10, (-7))], sp 0 [(10, 7), (4, (-1))], sp (-6) [(12, 1), (10, (-7))], sp 6 [(12, (-1)), (10, 7)], (1, [0, 12, 6], []), sp 0 [(6, 1)], sp 0 [(7, 1), (6, (-6))], sp 0 [(7, (-1)), (6, 6)], (1, [1, 7, 8], []), sp 0 [(8, 1), (10, (-1))], sp 0 [(10, 1), (8, (-1))], (1116, [1, 1, 6], [])], [(1108, [2, 2, 1, 0, 1], [])])
theorem q_sqSw_ok : RlOk q_sqSw := by
  intro fs zs h x hx
  obtain ⟨H0, h⟩ := snAll h
  replace H0 := s_wr.mp H0
  obtain ⟨H1, h⟩ := snAll h
  replace H1 := s_us.mp H1
  obtain ⟨H2, h⟩ := snAll h
  replace H2 := s_shq.mp H2
  obtain ⟨H3, h⟩ := snAll h
  replace H3 := sp_2.mp H3
  obtain ⟨H4, h⟩ := snAll h
  replace H4 := sp_2.mp H4
  obtain ⟨H5, h⟩ := snAll h
  replace H5 := sp_2.mp H5
  obtain ⟨H6, h⟩ := snAll h
  replace H6 := sp_2.mp H6
  obtain ⟨H7, h⟩ := snAll h
  replace H7 := s_rd.mp H7
  obtain ⟨H8, h⟩ := snAll h
  replace H8 := sp_1.mp H8
  obtain ⟨H9, h⟩ := snAll h
  replace H9 := sp_2.mp H9
  obtain ⟨H10, h⟩ := snAll h
  replace H10 := sp_2.mp H10
  obtain ⟨H11, h⟩ := snAll h
  replace H11 := s_rd.mp H11
  obtain ⟨H12, h⟩ := snAll h
  replace H12 := sp_2.mp H12
  obtain ⟨H13, h⟩ := snAll h
  replace H13 := sp_2.mp H13
  obtain ⟨H14, h⟩ := snAll h
  replace H14 := s_wpl.mp H14
  have L := L_sqSw (F0 := nthF fs 0) (F1 := nthF fs 1) (F2 := nthF fs 2) (N0 := nthZ zs 0) (N1 := nthZ zs 1) (N2 := nthZ zs 2) (N3 := nthZ zs 3) (N4 := nthZ zs 4) (N5 := nthZ zs 5) (N6 := nthZ zs 6) (N7 := nthZ zs 7) (N8 := nthZ zs 8) (N9 := nthZ zs 9) (N10 := nthZ zs 10) (N11 := nthZ zs 11) (N12 := nthZ zs 12) H0 H1 H2 (by omega) (by omega) (by omega) H7 (by omega) (by omega) H11 (by omega) (by omega) H14
  rcases List.mem_cons.mp hx with hx | hx
  · rw [hx]; refine s_shq.mpr ?_; exact L
  · cases hx
def q_sqS0 : qRl := ([(2, [2, 0, 4, 5], []), (1091, [0, 10, 11], []), (1108, [2, 0, 1, 0, 1], []), sp 0 [(4, 1), (10, (-7))], sp 0 [(10, 7), (4, (-1))], sp (-6) [(12, 1), (10, (-7))], sp 6 [(12, (-1)), (10, 7)], (1, [0, 12, 6], []), sp 0 [(6, 1)], sp 0 [(7, 1), (6, (-6))], sp 0 [(7, (-1)), (6, 6)], (1, [1, 7, 8], []), sp 0 [(8, 1), (10, (-1))], sp 0 [(10, 1), (8, (-1))], sp (-4) [(13, 1), (6, (-6))], sp 4 [(13, (-1)), (6, 6)], (1, [1, 13, 9], []), sp (-2) [(9, (-1))]], [(1108, [2, 2, 1, 0, 1], [])])
theorem q_sqS0_ok : RlOk q_sqS0 := by
  intro fs zs h x hx
  obtain ⟨H0, h⟩ := snAll h
  replace H0 := s_wr.mp H0
  obtain ⟨H1, h⟩ := snAll h
  replace H1 := s_us.mp H1
  obtain ⟨H2, h⟩ := snAll h
  replace H2 := s_shq.mp H2
  obtain ⟨H3, h⟩ := snAll h
  replace H3 := sp_2.mp H3
  obtain ⟨H4, h⟩ := snAll h
  replace H4 := sp_2.mp H4
  obtain ⟨H5, h⟩ := snAll h
  replace H5 := sp_2.mp H5
  obtain ⟨H6, h⟩ := snAll h
  replace H6 := sp_2.mp H6
  obtain ⟨H7, h⟩ := snAll h
  replace H7 := s_rd.mp H7
  obtain ⟨H8, h⟩ := snAll h
  replace H8 := sp_1.mp H8
  obtain ⟨H9, h⟩ := snAll h
  replace H9 := sp_2.mp H9
  obtain ⟨H10, h⟩ := snAll h
  replace H10 := sp_2.mp H10
  obtain ⟨H11, h⟩ := snAll h
  replace H11 := s_rd.mp H11
  obtain ⟨H12, h⟩ := snAll h
  replace H12 := sp_2.mp H12
  obtain ⟨H13, h⟩ := snAll h
  replace H13 := sp_2.mp H13
  obtain ⟨H14, h⟩ := snAll h
  replace H14 := sp_2.mp H14
  obtain ⟨H15, h⟩ := snAll h
  replace H15 := sp_2.mp H15
  obtain ⟨H16, h⟩ := snAll h
  replace H16 := s_rd.mp H16
  obtain ⟨H17, h⟩ := snAll h
  replace H17 := sp_1.mp H17
  have L := L_sqS0 (F0 := nthF fs 0) (F1 := nthF fs 1) (F2 := nthF fs 2) (N0 := nthZ zs 0) (N1 := nthZ zs 1) (N2 := nthZ zs 2) (N3 := nthZ zs 3) (N4 := nthZ zs 4) (N5 := nthZ zs 5) (N6 := nthZ zs 6) (N7 := nthZ zs 7) (N8 := nthZ zs 8) (N9 := nthZ zs 9) (N10 := nthZ zs 10) (N11 := nthZ zs 11) (N12 := nthZ zs 12) (N13 := nthZ zs 13) H0 H1 H2 (by omega) (by omega) (by omega) H7 (by omega) (by omega) H11 (by omega) (by omega) (by omega) H16 (by omega)
  rcases List.mem_cons.mp hx with hx | hx
  · rw [hx]; refine s_shq.mpr ?_; exact L
  · cases hx
def q_sqS1 : qRl := ([(2, [2, 0, 4, 5], []), (1091, [0, 10, 11], []), (1108, [2, 0, 1, 0, 1], []), sp 0 [(4, 1), (10, (-7))], sp 0 [(10, 7), (4, (-1))], sp (-6) [(12, 1), (10, (-7))], sp 6 [(12, (-1)), (10, 7)], (1, [0, 12, 6], []), sp 0 [(6, 1)], sp 0 [(7, 1), (6, (-6))], sp 0 [(7, (-1)), (6, 6)], (1, [1, 7, 8], []), sp 0 [(8, 1), (10, (-1))], sp 0 [(10, 1), (8, (-1))], sp (-4) [(13, 1), (6, (-6))], sp 4 [(13, (-1)), (6, 6)], (1, [1, 13, 9], []), sp 0 [(9, 1)]], [(1108, [2, 2, 1, 0, 1], [])])
theorem q_sqS1_ok : RlOk q_sqS1 := by
  intro fs zs h x hx
  obtain ⟨H0, h⟩ := snAll h
  replace H0 := s_wr.mp H0
  obtain ⟨H1, h⟩ := snAll h
  replace H1 := s_us.mp H1
  obtain ⟨H2, h⟩ := snAll h
  replace H2 := s_shq.mp H2
  obtain ⟨H3, h⟩ := snAll h
  replace H3 := sp_2.mp H3
  obtain ⟨H4, h⟩ := snAll h
  replace H4 := sp_2.mp H4
  obtain ⟨H5, h⟩ := snAll h
  replace H5 := sp_2.mp H5
  obtain ⟨H6, h⟩ := snAll h
  replace H6 := sp_2.mp H6
  obtain ⟨H7, h⟩ := snAll h
  replace H7 := s_rd.mp H7
  obtain ⟨H8, h⟩ := snAll h
  replace H8 := sp_1.mp H8
  obtain ⟨H9, h⟩ := snAll h
  replace H9 := sp_2.mp H9
  obtain ⟨H10, h⟩ := snAll h
  replace H10 := sp_2.mp H10
  obtain ⟨H11, h⟩ := snAll h
  replace H11 := s_rd.mp H11
  obtain ⟨H12, h⟩ := snAll h
  replace H12 := sp_2.mp H12
  obtain ⟨H13, h⟩ := snAll h
  replace H13 := sp_2.mp H13
  obtain ⟨H14, h⟩ := snAll h
  replace H14 := sp_2.mp H14
  obtain ⟨H15, h⟩ := snAll h
  replace H15 := sp_2.mp H15
  obtain ⟨H16, h⟩ := snAll h
  replace H16 := s_rd.mp H16
  obtain ⟨H17, h⟩ := snAll h
  replace H17 := sp_1.mp H17
  have L := L_sqS1 (F0 := nthF fs 0) (F1 := nthF fs 1) (F2 := nthF fs 2) (N0 := nthZ zs 0) (N1 := nthZ zs 1) (N2 := nthZ zs 2) (N3 := nthZ zs 3) (N4 := nthZ zs 4) (N5 := nthZ zs 5) (N6 := nthZ zs 6) (N7 := nthZ zs 7) (N8 := nthZ zs 8) (N9 := nthZ zs 9) (N10 := nthZ zs 10) (N11 := nthZ zs 11) (N12 := nthZ zs 12) (N13 := nthZ zs 13) H0 H1 H2 (by omega) (by omega) (by omega) H7 (by omega) (by omega) H11 (by omega) (by omega) (by omega) H16 (by omega)
  rcases List.mem_cons.mp hx with hx | hx
  · rw [hx]; refine s_shq.mpr ?_; exact L
  · cases hx
def q_jwI : qRl := ([(1091, [0, 10, 11], []), (1106, [2, 0, 1, 0, 1, 2, 3], []), sp (-1) [(3, (-1))], sp 0 [(10, 1), (0, (-1))], sp (-1) [(1, 1), (10, (-1))], sp 0 [(4, 1), (10, (-7))], sp 0 [(4, (-1)), (10, 7)], (1, [0, 4, 5], []), sp (-4) [(5, 1)], sp (-6) [(6, 1), (10, (-7))], sp 6 [(6, (-1)), (10, 7)], (1, [0, 6, 7], [])], [sp 0 [(7, 1)], sp (-1) [(2, 1), (7, (-1))]])
theorem q_jwI_ok : RlOk q_jwI := by
  intro fs zs h x hx
  obtain ⟨H0, h⟩ := snAll h
  replace H0 := s_us.mp H0
  obtain ⟨H1, h⟩ := snAll h
  replace H1 := s_jwo.mp H1
  obtain ⟨H2, h⟩ := snAll h
  replace H2 := sp_1.mp H2
  obtain ⟨H3, h⟩ := snAll h
  replace H3 := sp_2.mp H3
  obtain ⟨H4, h⟩ := snAll h
  replace H4 := sp_2.mp H4
  obtain ⟨H5, h⟩ := snAll h
  replace H5 := sp_2.mp H5
  obtain ⟨H6, h⟩ := snAll h
  replace H6 := sp_2.mp H6
  obtain ⟨H7, h⟩ := snAll h
  replace H7 := s_rd.mp H7
  obtain ⟨H8, h⟩ := snAll h
  replace H8 := sp_1.mp H8
  obtain ⟨H9, h⟩ := snAll h
  replace H9 := sp_2.mp H9
  obtain ⟨H10, h⟩ := snAll h
  replace H10 := sp_2.mp H10
  obtain ⟨H11, h⟩ := snAll h
  replace H11 := s_rd.mp H11
  have L := L_jwI (F0 := nthF fs 0) (F1 := nthF fs 1) (N0 := nthZ zs 0) (N1 := nthZ zs 1) (N2 := nthZ zs 2) (N3 := nthZ zs 3) (N4 := nthZ zs 4) (N5 := nthZ zs 5) (N6 := nthZ zs 6) (N7 := nthZ zs 7) (N8 := nthZ zs 8) (N9 := nthZ zs 9) (N10 := nthZ zs 10) (N11 := nthZ zs 11) H0 H1 (by omega) (by omega) (by omega) (by omega) H7 (by omega) (by omega) H11
  rcases List.mem_cons.mp hx with hx | hx
  · rw [hx]; refine sp_1.mpr ?_; omega
  rcases List.mem_cons.mp hx with hx | hx
  · rw [hx]; refine sp_2.mpr ?_; omega
  · cases hx
def q_jwJ : qRl := ([(1091, [0, 10, 11], []), (1106, [2, 0, 1, 0, 1, 2, 3], []), sp (-1) [(3, (-1))], sp 0 [(10, 1), (0, (-1))], sp (-1) [(1, 1), (10, (-1))], sp 0 [(4, 1), (10, (-7))], sp 0 [(4, (-1)), (10, 7)], (1, [0, 4, 5], []), sp (-4) [(5, 1)], sp (-6) [(6, 1), (10, (-7))], sp 6 [(6, (-1)), (10, 7)], (1, [0, 6, 7], []), sp 0 [(8, 1), (7, (-6))], sp 0 [(8, (-1)), (7, 6)], (1, [1, 8, 9], [])], [sp 0 [(9, 1), (10, (-1))], sp 0 [(10, 1), (9, (-1))]])
theorem q_jwJ_ok : RlOk q_jwJ := by
  intro fs zs h x hx
  obtain ⟨H0, h⟩ := snAll h
  replace H0 := s_us.mp H0
  obtain ⟨H1, h⟩ := snAll h
  replace H1 := s_jwo.mp H1
  obtain ⟨H2, h⟩ := snAll h
  replace H2 := sp_1.mp H2
  obtain ⟨H3, h⟩ := snAll h
  replace H3 := sp_2.mp H3
  obtain ⟨H4, h⟩ := snAll h
  replace H4 := sp_2.mp H4
  obtain ⟨H5, h⟩ := snAll h
  replace H5 := sp_2.mp H5
  obtain ⟨H6, h⟩ := snAll h
  replace H6 := sp_2.mp H6
  obtain ⟨H7, h⟩ := snAll h
  replace H7 := s_rd.mp H7
  obtain ⟨H8, h⟩ := snAll h
  replace H8 := sp_1.mp H8
  obtain ⟨H9, h⟩ := snAll h
  replace H9 := sp_2.mp H9
  obtain ⟨H10, h⟩ := snAll h
  replace H10 := sp_2.mp H10
  obtain ⟨H11, h⟩ := snAll h
  replace H11 := s_rd.mp H11
  obtain ⟨H12, h⟩ := snAll h
  replace H12 := sp_2.mp H12
  obtain ⟨H13, h⟩ := snAll h
  replace H13 := sp_2.mp H13
  obtain ⟨H14, h⟩ := snAll h
  replace H14 := s_rd.mp H14
  have L := L_jwJ (F0 := nthF fs 0) (F1 := nthF fs 1) (N0 := nthZ zs 0) (N1 := nthZ zs 1) (N2 := nthZ zs 2) (N3 := nthZ zs 3) (N4 := nthZ zs 4) (N5 := nthZ zs 5) (N6 := nthZ zs 6) (N7 := nthZ zs 7) (N8 := nthZ zs 8) (N9 := nthZ zs 9) (N10 := nthZ zs 10) (N11 := nthZ zs 11) H0 H1 (by omega) (by omega) (by omega) (by omega) H7 (by omega) (by omega) H11 (by omega) H14
  rcases List.mem_cons.mp hx with hx | hx
  · rw [hx]; refine sp_2.mpr ?_; omega
  rcases List.mem_cons.mp hx with hx | hx
  · rw [hx]; refine sp_2.mpr ?_; omega
  · cases hx
def q_sqSj : qRl := ([(2, [2, 0, 4, 5], []), (1091, [0, 10, 11], []), (1108, [2, 0, 1, 0, 1], []), sp 0 [(4, 1), (10, (-7))], sp 0 [(10, 7), (4, (-1))], (1106, [2, 0, 1, 20, 21, 22, 23], []), sp (-1) [(23, (-1))], sp 0 [(10, 1), (20, (-1))], sp (-1) [(21, 1), (10, (-1))], sp 0 [(13, 1), (10, (-7))], sp 0 [(13, (-1)), (10, 7)], (1, [0, 13, 14], []), sp (-4) [(14, 1)], sp (-6) [(12, 1), (10, (-7))], sp 6 [(12, (-1)), (10, 7)], (1, [0, 12, 6], []), (1116, [1, 1, 6], [])], [(1108, [2, 2, 1, 0, 1], [])])
theorem q_sqSj_ok : RlOk q_sqSj := by
  intro fs zs h x hx
  obtain ⟨H0, h⟩ := snAll h
  replace H0 := s_wr.mp H0
  obtain ⟨H1, h⟩ := snAll h
  replace H1 := s_us.mp H1
  obtain ⟨H2, h⟩ := snAll h
  replace H2 := s_shq.mp H2
  obtain ⟨H3, h⟩ := snAll h
  replace H3 := sp_2.mp H3
  obtain ⟨H4, h⟩ := snAll h
  replace H4 := sp_2.mp H4
  obtain ⟨H5, h⟩ := snAll h
  replace H5 := s_jwo.mp H5
  obtain ⟨H6, h⟩ := snAll h
  replace H6 := sp_1.mp H6
  obtain ⟨H7, h⟩ := snAll h
  replace H7 := sp_2.mp H7
  obtain ⟨H8, h⟩ := snAll h
  replace H8 := sp_2.mp H8
  obtain ⟨H9, h⟩ := snAll h
  replace H9 := sp_2.mp H9
  obtain ⟨H10, h⟩ := snAll h
  replace H10 := sp_2.mp H10
  obtain ⟨H11, h⟩ := snAll h
  replace H11 := s_rd.mp H11
  obtain ⟨H12, h⟩ := snAll h
  replace H12 := sp_1.mp H12
  obtain ⟨H13, h⟩ := snAll h
  replace H13 := sp_2.mp H13
  obtain ⟨H14, h⟩ := snAll h
  replace H14 := sp_2.mp H14
  obtain ⟨H15, h⟩ := snAll h
  replace H15 := s_rd.mp H15
  obtain ⟨H16, h⟩ := snAll h
  replace H16 := s_wpl.mp H16
  have L := L_sqSj (F0 := nthF fs 0) (F1 := nthF fs 1) (F2 := nthF fs 2) (N0 := nthZ zs 0) (N1 := nthZ zs 1) (N2 := nthZ zs 2) (N3 := nthZ zs 3) (N4 := nthZ zs 4) (N5 := nthZ zs 5) (N6 := nthZ zs 6) (N7 := nthZ zs 7) (N8 := nthZ zs 8) (N9 := nthZ zs 9) (N10 := nthZ zs 10) (N11 := nthZ zs 11) (N12 := nthZ zs 12) (N13 := nthZ zs 13) (N14 := nthZ zs 14) (N15 := nthZ zs 15) (N16 := nthZ zs 16) (N17 := nthZ zs 17) (N18 := nthZ zs 18) (N19 := nthZ zs 19) (N20 := nthZ zs 20) (N21 := nthZ zs 21) (N22 := nthZ zs 22) (N23 := nthZ zs 23) H0 H1 H2 (by omega) (by omega) H5 (by omega) (by omega) (by omega) (by omega) H11 (by omega) (by omega) H15 H16
  rcases List.mem_cons.mp hx with hx | hx
  · rw [hx]; refine s_shq.mpr ?_; exact L
  · cases hx
def q_cLP : qRl := ([(2, [2, 0, 5, 6], []), (1091, [0, 10, 11], []), (1099, [2, 0, 1, 0, 1, 2, 3, 4], []), sp (-3) [(5, 1), (10, (-6))], sp 5 [(10, 6), (5, (-1))]], [(1099, [2, 2, 1, 0, 1, 2, 3, 4], [])])
theorem q_cLP_ok : RlOk q_cLP := by
  intro fs zs h x hx
  obtain ⟨H0, h⟩ := snAll h
  replace H0 := s_wr.mp H0
  obtain ⟨H1, h⟩ := snAll h
  replace H1 := s_us.mp H1
  obtain ⟨H2, h⟩ := snAll h
  replace H2 := s_curL.mp H2
  obtain ⟨H3, h⟩ := snAll h
  replace H3 := sp_2.mp H3
  obtain ⟨H4, h⟩ := snAll h
  replace H4 := sp_2.mp H4
  have L := L_cLP (F0 := nthF fs 0) (F1 := nthF fs 1) (F2 := nthF fs 2) (N0 := nthZ zs 0) (N1 := nthZ zs 1) (N2 := nthZ zs 2) (N3 := nthZ zs 3) (N4 := nthZ zs 4) (N5 := nthZ zs 5) (N6 := nthZ zs 6) (N7 := nthZ zs 7) (N8 := nthZ zs 8) (N9 := nthZ zs 9) (N10 := nthZ zs 10) (N11 := nthZ zs 11) H0 H1 H2 (by omega) (by omega)
  rcases List.mem_cons.mp hx with hx | hx
  · rw [hx]; refine s_curL.mpr ?_; exact L
  · cases hx
def q_cLw : qRl := ([(2, [2, 0, 5, 6], []), (1091, [0, 10, 11], []), (1099, [2, 0, 1, 0, 1, 2, 3, 4], []), sp (-2) [(5, 1), (10, (-6))], sp 2 [(10, 6), (5, (-1))], sp 0 [(6, (-1))], sp 0 [(6, 1)]], [(1099, [2, 2, 1, 0, 1, 2, 3, 4], [])])
theorem q_cLw_ok : RlOk q_cLw := by
  intro fs zs h x hx
  obtain ⟨H0, h⟩ := snAll h
  replace H0 := s_wr.mp H0
  obtain ⟨H1, h⟩ := snAll h
  replace H1 := s_us.mp H1
  obtain ⟨H2, h⟩ := snAll h
  replace H2 := s_curL.mp H2
  obtain ⟨H3, h⟩ := snAll h
  replace H3 := sp_2.mp H3
  obtain ⟨H4, h⟩ := snAll h
  replace H4 := sp_2.mp H4
  obtain ⟨H5, h⟩ := snAll h
  replace H5 := sp_1.mp H5
  obtain ⟨H6, h⟩ := snAll h
  replace H6 := sp_1.mp H6
  have L := L_cLw (F0 := nthF fs 0) (F1 := nthF fs 1) (F2 := nthF fs 2) (N0 := nthZ zs 0) (N1 := nthZ zs 1) (N2 := nthZ zs 2) (N3 := nthZ zs 3) (N4 := nthZ zs 4) (N5 := nthZ zs 5) (N6 := nthZ zs 6) (N7 := nthZ zs 7) (N8 := nthZ zs 8) (N9 := nthZ zs 9) (N10 := nthZ zs 10) (N11 := nthZ zs 11) H0 H1 H2 (by omega) (by omega) (by omega) (by omega)
  rcases List.mem_cons.mp hx with hx | hx
  · rw [hx]; refine s_curL.mpr ?_; exact L
  · cases hx
def q_wcH : qRl := ([(1100, [2, 0, 1, 0, 2], []), sp 0 [(2, 1), (1, (-1))]], [(1100, [2, 0, 1, 0, 1], [])])
theorem q_wcH_ok : RlOk q_wcH := by
  intro fs zs h x hx
  obtain ⟨H0, h⟩ := snAll h
  replace H0 := s_wlc.mp H0
  obtain ⟨H1, h⟩ := snAll h
  replace H1 := sp_2.mp H1
  have L := L_wcH (F0 := nthF fs 0) (F1 := nthF fs 1) (N0 := nthZ zs 0) (N1 := nthZ zs 1) (N2 := nthZ zs 2) H0 (by omega)
  rcases List.mem_cons.mp hx with hx | hx
  · rw [hx]; refine s_wlc.mpr ?_; exact L
  · cases hx
def q_sqWb : qRl := ([(1091, [0, 10, 11], []), (1108, [2, 0, 1, 12, 13], []), sp 0 [(10, 1), (12, (-1))], sp (-1) [(13, 1), (10, (-1))], sp 0 [(14, 1), (10, (-7))], sp 0 [(14, (-1)), (10, 7)], (1, [0, 14, 15], []), sp (-5) [(15, 1)], sp (-6) [(16, 1), (10, (-7))], sp 6 [(16, (-1)), (10, 7)], (1, [0, 16, 17], [])], [sp 0 [(17, 1)]])
theorem q_sqWb_ok : RlOk q_sqWb := by
  intro fs zs h x hx
  obtain ⟨H0, h⟩ := snAll h
  replace H0 := s_us.mp H0
  obtain ⟨H1, h⟩ := snAll h
  replace H1 := s_shq.mp H1
  obtain ⟨H2, h⟩ := snAll h
  replace H2 := sp_2.mp H2
  obtain ⟨H3, h⟩ := snAll h
  replace H3 := sp_2.mp H3
  obtain ⟨H4, h⟩ := snAll h
  replace H4 := sp_2.mp H4
  obtain ⟨H5, h⟩ := snAll h
  replace H5 := sp_2.mp H5
  obtain ⟨H6, h⟩ := snAll h
  replace H6 := s_rd.mp H6
  obtain ⟨H7, h⟩ := snAll h
  replace H7 := sp_1.mp H7
  obtain ⟨H8, h⟩ := snAll h
  replace H8 := sp_2.mp H8
  obtain ⟨H9, h⟩ := snAll h
  replace H9 := sp_2.mp H9
  obtain ⟨H10, h⟩ := snAll h
  replace H10 := s_rd.mp H10
  have L := L_sqWb (F0 := nthF fs 0) (F1 := nthF fs 1) (N0 := nthZ zs 0) (N1 := nthZ zs 1) (N2 := nthZ zs 2) (N3 := nthZ zs 3) (N4 := nthZ zs 4) (N5 := nthZ zs 5) (N6 := nthZ zs 6) (N7 := nthZ zs 7) (N8 := nthZ zs 8) (N9 := nthZ zs 9) (N10 := nthZ zs 10) (N11 := nthZ zs 11) (N12 := nthZ zs 12) (N13 := nthZ zs 13) (N14 := nthZ zs 14) (N15 := nthZ zs 15) (N16 := nthZ zs 16) (N17 := nthZ zs 17) H0 H1 (by omega) (by omega) (by omega) H6 (by omega) (by omega) H10
  rcases List.mem_cons.mp hx with hx | hx
  · rw [hx]; refine sp_1.mpr ?_; omega
  · cases hx
def q_fpS : qRl := ([(1091, [0, 4, 11], []), (1109, [3, 0, 1, 2, 0, 1, 2, 3], []), sp (-4) [(1, 1)], sp 0 [(4, 1)], sp (-1) [(0, 1), (4, (-1))], (1, [1, 6, 7], []), sp (-1) [(7, 1)], sp 0 [(5, 1), (6, (-1)), (4, 4)], sp 0 [(5, (-1)), (6, 1), (4, (-4))], sp 0 [(5, 1)], sp 3 [(5, (-1))], (1, [0, 6, 8], []), sp (-9) [(10, 1), (4, (-17)), (5, (-1))], sp 9 [(10, (-1)), (4, 17), (5, 1)], (1, [2, 10, 9], [])], [sp (-4194304) [(8, 1)], sp 0 [(3, 1), (8, (-1)), (9, (-1))]])
theorem q_fpS_ok : RlOk q_fpS := by
  intro fs zs h x hx
  obtain ⟨H0, h⟩ := snAll h
  replace H0 := s_us.mp H0
  obtain ⟨H1, h⟩ := snAll h
  replace H1 := s_plc.mp H1
  obtain ⟨H2, h⟩ := snAll h
  replace H2 := sp_1.mp H2
  obtain ⟨H3, h⟩ := snAll h
  replace H3 := sp_1.mp H3
  obtain ⟨H4, h⟩ := snAll h
  replace H4 := sp_2.mp H4
  obtain ⟨H5, h⟩ := snAll h
  replace H5 := s_rd.mp H5
  obtain ⟨H6, h⟩ := snAll h
  replace H6 := sp_1.mp H6
  obtain ⟨H7, h⟩ := snAll h
  replace H7 := sp_3.mp H7
  obtain ⟨H8, h⟩ := snAll h
  replace H8 := sp_3.mp H8
  obtain ⟨H9, h⟩ := snAll h
  replace H9 := sp_1.mp H9
  obtain ⟨H10, h⟩ := snAll h
  replace H10 := sp_1.mp H10
  obtain ⟨H11, h⟩ := snAll h
  replace H11 := s_rd.mp H11
  obtain ⟨H12, h⟩ := snAll h
  replace H12 := sp_3.mp H12
  obtain ⟨H13, h⟩ := snAll h
  replace H13 := sp_3.mp H13
  obtain ⟨H14, h⟩ := snAll h
  replace H14 := s_rd.mp H14
  have L := L_fpS (F0 := nthF fs 0) (F1 := nthF fs 1) (F2 := nthF fs 2) (N0 := nthZ zs 0) (N1 := nthZ zs 1) (N2 := nthZ zs 2) (N3 := nthZ zs 3) (N4 := nthZ zs 4) (N5 := nthZ zs 5) (N6 := nthZ zs 6) (N7 := nthZ zs 7) (N8 := nthZ zs 8) (N9 := nthZ zs 9) (N10 := nthZ zs 10) (N11 := nthZ zs 11) H0 H1 (by omega) (by omega) (by omega) H5 (by omega) (by omega) (by omega) (by omega) H11 (by omega) H14
  rcases List.mem_cons.mp hx with hx | hx
  · rw [hx]; refine sp_1.mpr ?_; omega
  rcases List.mem_cons.mp hx with hx | hx
  · rw [hx]; refine sp_3.mpr ?_; omega
  · cases hx
def q_fwK : qRl := ([(1091, [0, 2, 9], []), (1097, [2, 0, 1, 0, 1], []), sp 0 [(2, 1)], sp (-1) [(0, 1), (2, (-1))], sp 0 [(3, 1), (2, (-6))], sp 0 [(3, (-1)), (2, 6)], (1, [0, 3, 4], [])], [sp 0 [(4, 1)], sp (-1) [(1, 1), (4, (-1))]])
theorem q_fwK_ok : RlOk q_fwK := by
  intro fs zs h x hx
  obtain ⟨H0, h⟩ := snAll h
  replace H0 := s_us.mp H0
  obtain ⟨H1, h⟩ := snAll h
  replace H1 := s_wlk.mp H1
  obtain ⟨H2, h⟩ := snAll h
  replace H2 := sp_1.mp H2
  obtain ⟨H3, h⟩ := snAll h
  replace H3 := sp_2.mp H3
  obtain ⟨H4, h⟩ := snAll h
  replace H4 := sp_2.mp H4
  obtain ⟨H5, h⟩ := snAll h
  replace H5 := sp_2.mp H5
  obtain ⟨H6, h⟩ := snAll h
  replace H6 := s_rd.mp H6
  have L := L_fwK (F0 := nthF fs 0) (F1 := nthF fs 1) (N0 := nthZ zs 0) (N1 := nthZ zs 1) (N2 := nthZ zs 2) (N3 := nthZ zs 3) (N4 := nthZ zs 4) (N5 := nthZ zs 5) (N6 := nthZ zs 6) (N7 := nthZ zs 7) (N8 := nthZ zs 8) (N9 := nthZ zs 9) H0 H1 (by omega) (by omega) (by omega) H6
  rcases List.mem_cons.mp hx with hx | hx
  · rw [hx]; refine sp_1.mpr ?_; omega
  rcases List.mem_cons.mp hx with hx | hx
  · rw [hx]; refine sp_2.mpr ?_; omega
  · cases hx
def q_stE : qRl := ([sp 0 [(0, (-1))], sp 0 []], [(1095, [2, 0, 1, 0, 1], [])])
theorem q_stE_ok : RlOk q_stE := by
  intro fs zs h x hx
  obtain ⟨H0, h⟩ := snAll h
  replace H0 := sp_1.mp H0
  obtain ⟨H1, h⟩ := snAll h
  replace H1 := sp_0.mp H1
  rcases List.mem_cons.mp hx with hx | hx
  · rw [hx]; refine s_stu.mpr ?_; apply L_stE (F0 := nthF fs 0) (F1 := nthF fs 1) (N0 := nthZ zs 0) (N1 := nthZ zs 1) <;> first | assumption | omega
  · cases hx
def q_stW : qRl := ([(2, [2, 0, 2, 3], []), (1095, [2, 0, 1, 0, 1], []), sp 0 [(2, 1), (1, (-7))]], [(1095, [2, 2, 1, 0, 1], [])])
theorem q_stW_ok : RlOk q_stW := by
  intro fs zs h x hx
  obtain ⟨H0, h⟩ := snAll h
  replace H0 := s_wr.mp H0
  obtain ⟨H1, h⟩ := snAll h
  replace H1 := s_stu.mp H1
  obtain ⟨H2, h⟩ := snAll h
  replace H2 := sp_2.mp H2
  rcases List.mem_cons.mp hx with hx | hx
  · rw [hx]; refine s_stu.mpr ?_; apply L_stW (F0 := nthF fs 0) (F1 := nthF fs 1) (F2 := nthF fs 2) (N0 := nthZ zs 0) (N1 := nthZ zs 1) (N2 := nthZ zs 2) (N3 := nthZ zs 3) <;> first | assumption | omega
  · cases hx
def q_stR : qRl := ([(2, [2, 1, 2, 3], []), (1095, [2, 0, 1, 0, 1], []), sp 0 [(2, 1), (0, (-17))]], [(1095, [2, 0, 2, 0, 1], [])])
theorem q_stR_ok : RlOk q_stR := by
  intro fs zs h x hx
  obtain ⟨H0, h⟩ := snAll h
  replace H0 := s_wr.mp H0
  obtain ⟨H1, h⟩ := snAll h
  replace H1 := s_stu.mp H1
  obtain ⟨H2, h⟩ := snAll h
  replace H2 := sp_2.mp H2
  rcases List.mem_cons.mp hx with hx | hx
  · rw [hx]; refine s_stu.mpr ?_; apply L_stR (F0 := nthF fs 0) (F1 := nthF fs 1) (F2 := nthF fs 2) (N0 := nthZ zs 0) (N1 := nthZ zs 1) (N2 := nthZ zs 2) (N3 := nthZ zs 3) <;> first | assumption | omega
  · cases hx
def q_stX : qRl := ([sp 1 [(2, 1), (0, (-1))], sp (-1) [(2, (-1)), (0, 1)], (1096, [2, 0, 1, 2, 3, 1], []), (1095, [2, 0, 1, 2, 3], []), sp 0 [(1, 1), (3, (-1))], sp 16 [(4, 1), (0, (-17))], sp (-16) [(4, (-1)), (0, 17)], (1, [1, 4, 5], []), sp 0 [(5, 1), (3, (-1))], sp 0 [(3, 1), (5, (-1))]], [(1095, [2, 0, 1, 0, 1], [])])
theorem q_stX_ok : RlOk q_stX := by
  intro fs zs h x hx
  obtain ⟨H0, h⟩ := snAll h
  replace H0 := sp_2.mp H0
  obtain ⟨H1, h⟩ := snAll h
  replace H1 := sp_2.mp H1
  obtain ⟨H2, h⟩ := snAll h
  replace H2 := s_curS.mp H2
  obtain ⟨H3, h⟩ := snAll h
  replace H3 := s_stu.mp H3
  obtain ⟨H4, h⟩ := snAll h
  replace H4 := sp_2.mp H4
  obtain ⟨H5, h⟩ := snAll h
  replace H5 := sp_2.mp H5
  obtain ⟨H6, h⟩ := snAll h
  replace H6 := sp_2.mp H6
  obtain ⟨H7, h⟩ := snAll h
  replace H7 := s_rd.mp H7
  obtain ⟨H8, h⟩ := snAll h
  replace H8 := sp_2.mp H8
  obtain ⟨H9, h⟩ := snAll h
  replace H9 := sp_2.mp H9
  rcases List.mem_cons.mp hx with hx | hx
  · rw [hx]; refine s_stu.mpr ?_; apply L_stX (F0 := nthF fs 0) (F1 := nthF fs 1) (N0 := nthZ zs 0) (N1 := nthZ zs 1) (N2 := nthZ zs 2) (N3 := nthZ zs 3) (N4 := nthZ zs 4) (N5 := nthZ zs 5) <;> first | assumption | omega
  · cases hx
def q_stI : qRl := ([(1091, [0, 2, 10], []), (1091, [0, 3, 11], []), (1095, [2, 0, 1, 0, 1], []), sp 0 [(2, 1)], sp (-1) [(0, 1), (2, (-1))], sp (-1) [(4, 1), (2, (-17))], sp 1 [(4, (-1)), (2, 17)], (1, [1, 4, 5], []), sp (-18) [(6, 1), (2, (-17))], sp 18 [(6, (-1)), (2, 17)], (1, [1, 6, 7], []), sp 0 [(3, 1), (5, (-1))], sp (-1) [(7, 1), (3, (-1))], sp 0 [(1, 1), (7, (-1))], sp (-3) [(8, 1), (3, (-7))], sp 3 [(8, (-1)), (3, 7)], (1, [0, 8, 9], []), sp (-4) [(12, 1), (3, (-7))], sp 4 [(12, (-1)), (3, 7)], (1, [0, 12, 13], []), sp (-1) [(14, 1), (3, (-7))], sp 1 [(14, (-1)), (3, 7)], (1, [0, 14, 15], []), sp 0 [(15, 1)], sp 3 [(15, (-1))], sp (-9) [(16, 1), (2, (-17)), (15, (-1))], sp 9 [(16, (-1)), (2, 17), (15, 1)], (1, [1, 16, 17], [])], [sp 0 [(17, 1), (9, (-1)), (13, (-1))]])
theorem q_stI_ok : RlOk q_stI := by
  intro fs zs h x hx
  obtain ⟨H0, h⟩ := snAll h
  replace H0 := s_us.mp H0
  obtain ⟨H1, h⟩ := snAll h
  replace H1 := s_us.mp H1
  obtain ⟨H2, h⟩ := snAll h
  replace H2 := s_stu.mp H2
  obtain ⟨H3, h⟩ := snAll h
  replace H3 := sp_1.mp H3
  obtain ⟨H4, h⟩ := snAll h
  replace H4 := sp_2.mp H4
  obtain ⟨H5, h⟩ := snAll h
  replace H5 := sp_2.mp H5
  obtain ⟨H6, h⟩ := snAll h
  replace H6 := sp_2.mp H6
  obtain ⟨H7, h⟩ := snAll h
  replace H7 := s_rd.mp H7
  obtain ⟨H8, h⟩ := snAll h
  replace H8 := sp_2.mp H8
  obtain ⟨H9, h⟩ := snAll h
  replace H9 := sp_2.mp H9
  obtain ⟨H10, h⟩ := snAll h
  replace H10 := s_rd.mp H10
  obtain ⟨H11, h⟩ := snAll h
  replace H11 := sp_2.mp H11
  obtain ⟨H12, h⟩ := snAll h
  replace H12 := sp_2.mp H12
  obtain ⟨H13, h⟩ := snAll h
  replace H13 := sp_2.mp H13
  obtain ⟨H14, h⟩ := snAll h
  replace H14 := sp_2.mp H14
  obtain ⟨H15, h⟩ := snAll h
  replace H15 := sp_2.mp H15
  obtain ⟨H16, h⟩ := snAll h
  replace H16 := s_rd.mp H16
  obtain ⟨H17, h⟩ := snAll h
  replace H17 := sp_2.mp H17
  obtain ⟨H18, h⟩ := snAll h
  replace H18 := sp_2.mp H18
  obtain ⟨H19, h⟩ := snAll h
  replace H19 := s_rd.mp H19
  obtain ⟨H20, h⟩ := snAll h
  replace H20 := sp_2.mp H20
  obtain ⟨H21, h⟩ := snAll h
  replace H21 := sp_2.mp H21
  obtain ⟨H22, h⟩ := snAll h
  replace H22 := s_rd.mp H22
  obtain ⟨H23, h⟩ := snAll h
  replace H23 := sp_1.mp H23
  obtain ⟨H24, h⟩ := snAll h
  replace H24 := sp_1.mp H24
  obtain ⟨H25, h⟩ := snAll h
  replace H25 := sp_3.mp H25
  obtain ⟨H26, h⟩ := snAll h
  replace H26 := sp_3.mp H26
  obtain ⟨H27, h⟩ := snAll h
  replace H27 := s_rd.mp H27
  have L : 0 ≤ nthZ zs 17 - nthZ zs 9 - nthZ zs 13 := by
    apply L_stI (F0 := nthF fs 0) (F1 := nthF fs 1) (N0 := nthZ zs 0) (N1 := nthZ zs 1) (N2 := nthZ zs 2) (N3 := nthZ zs 3) (N4 := nthZ zs 4) (N5 := nthZ zs 5) (N6 := nthZ zs 6) (N7 := nthZ zs 7) (N8 := nthZ zs 8) (N9 := nthZ zs 9) (N12 := nthZ zs 12) (N13 := nthZ zs 13) (N14 := nthZ zs 14) (N15 := nthZ zs 15) (N16 := nthZ zs 16) (N17 := nthZ zs 17) <;> first | assumption | omega
  rcases List.mem_cons.mp hx with hx | hx
  · rw [hx]; refine sp_3.mpr ?_; omega
  · cases hx
def q_waE : qRl := ([sp 0 [(0, (-1))], sp 0 [], sp 0 []], [(1098, [2, 0, 1, 0, 1, 2], [])])
theorem q_waE_ok : RlOk q_waE := by
  intro fs zs h x hx
  obtain ⟨H0, h⟩ := snAll h
  replace H0 := sp_1.mp H0
  obtain ⟨H1, h⟩ := snAll h
  replace H1 := sp_0.mp H1
  obtain ⟨H2, h⟩ := snAll h
  replace H2 := sp_0.mp H2
  rcases List.mem_cons.mp hx with hx | hx
  · rw [hx]; refine s_wau.mpr ?_; apply L_waE (F0 := nthF fs 0) (F1 := nthF fs 1) (N0 := nthZ zs 0) (N1 := nthZ zs 1) (N2 := nthZ zs 2) <;> first | assumption | omega
  · cases hx
def q_waW : qRl := ([(2, [2, 0, 3, 4], []), (1098, [2, 0, 1, 0, 1, 2], []), sp 0 [(3, 1), (1, (-6))]], [(1098, [2, 2, 1, 0, 1, 2], [])])
theorem q_waW_ok : RlOk q_waW := by
  intro fs zs h x hx
  obtain ⟨H0, h⟩ := snAll h
  replace H0 := s_wr.mp H0
  obtain ⟨H1, h⟩ := snAll h
  replace H1 := s_wau.mp H1
  obtain ⟨H2, h⟩ := snAll h
  replace H2 := sp_2.mp H2
  rcases List.mem_cons.mp hx with hx | hx
  · rw [hx]; refine s_wau.mpr ?_; apply L_waW (F0 := nthF fs 0) (F1 := nthF fs 1) (F2 := nthF fs 2) (N0 := nthZ zs 0) (N1 := nthZ zs 1) (N2 := nthZ zs 2) (N3 := nthZ zs 3) (N4 := nthZ zs 4) <;> first | assumption | omega
  · cases hx
def q_waR : qRl := ([(2, [2, 1, 3, 4], []), (1098, [2, 0, 1, 0, 1, 2], []), sp 0 [(3, 1), (0, (-17))]], [(1098, [2, 0, 2, 0, 1, 2], [])])
theorem q_waR_ok : RlOk q_waR := by
  intro fs zs h x hx
  obtain ⟨H0, h⟩ := snAll h
  replace H0 := s_wr.mp H0
  obtain ⟨H1, h⟩ := snAll h
  replace H1 := s_wau.mp H1
  obtain ⟨H2, h⟩ := snAll h
  replace H2 := sp_2.mp H2
  rcases List.mem_cons.mp hx with hx | hx
  · rw [hx]; refine s_wau.mpr ?_; apply L_waR (F0 := nthF fs 0) (F1 := nthF fs 1) (F2 := nthF fs 2) (N0 := nthZ zs 0) (N1 := nthZ zs 1) (N2 := nthZ zs 2) (N3 := nthZ zs 3) (N4 := nthZ zs 4) <;> first | assumption | omega
  · cases hx
def q_wsI : qRl := ([(1091, [0, 2, 20], []), (1091, [0, 3, 21], []), (1098, [2, 0, 1, 0, 1, 4], []), (1095, [2, 2, 1, 0, 4], []), sp 0 [(2, 1)], sp (-1) [(0, 1), (2, (-1))], sp (-2) [(5, 1), (2, (-17))], sp 2 [(5, (-1)), (2, 17)], (1, [1, 5, 6], []), sp (-19) [(7, 1), (2, (-17))], sp 19 [(7, (-1)), (2, 17)], (1, [1, 7, 8], []), sp 0 [(3, 1), (6, (-1))], sp (-1) [(8, 1), (3, (-1))], sp 0 [(1, 1), (8, (-1))], sp 0 [(9, 1), (3, (-6))], sp 0 [(9, (-1)), (3, 6)], (1, [0, 9, 10], []), sp (-3) [(11, 1), (10, (-7))], sp 3 [(11, (-1)), (10, 7)], (1, [2, 11, 12], []), sp (-4) [(13, 1), (10, (-7))], sp 4 [(13, (-1)), (10, 7)], (1, [2, 13, 14], []), sp (-1) [(15, 1), (10, (-7))], sp 1 [(15, (-1)), (10, 7)], (1, [2, 15, 16], []), sp 0 [(16, 1)], sp 3 [(16, (-1))], sp (-9) [(17, 1), (2, (-17)), (16, (-1))], sp 9 [(17, (-1)), (2, 17), (16, 1)], (1, [1, 17, 18], [])], [sp 0 [(18, 1), (12, (-1)), (14, (-1))]])
theorem q_wsI_ok : RlOk q_wsI := by
  intro fs zs h x hx
  obtain ⟨H0, h⟩ := snAll h
  replace H0 := s_us.mp H0
  obtain ⟨H1, h⟩ := snAll h
  replace H1 := s_us.mp H1
  obtain ⟨H2, h⟩ := snAll h
  replace H2 := s_wau.mp H2
  obtain ⟨H3, h⟩ := snAll h
  replace H3 := s_stu.mp H3
  obtain ⟨H4, h⟩ := snAll h
  replace H4 := sp_1.mp H4
  obtain ⟨H5, h⟩ := snAll h
  replace H5 := sp_2.mp H5
  obtain ⟨H6, h⟩ := snAll h
  replace H6 := sp_2.mp H6
  obtain ⟨H7, h⟩ := snAll h
  replace H7 := sp_2.mp H7
  obtain ⟨H8, h⟩ := snAll h
  replace H8 := s_rd.mp H8
  obtain ⟨H9, h⟩ := snAll h
  replace H9 := sp_2.mp H9
  obtain ⟨H10, h⟩ := snAll h
  replace H10 := sp_2.mp H10
  obtain ⟨H11, h⟩ := snAll h
  replace H11 := s_rd.mp H11
  obtain ⟨H12, h⟩ := snAll h
  replace H12 := sp_2.mp H12
  obtain ⟨H13, h⟩ := snAll h
  replace H13 := sp_2.mp H13
  obtain ⟨H14, h⟩ := snAll h
  replace H14 := sp_2.mp H14
  obtain ⟨H15, h⟩ := snAll h
  replace H15 := sp_2.mp H15
  obtain ⟨H16, h⟩ := snAll h
  replace H16 := sp_2.mp H16
  obtain ⟨H17, h⟩ := snAll h
  replace H17 := s_rd.mp H17
  obtain ⟨H18, h⟩ := snAll h
  replace H18 := sp_2.mp H18
  obtain ⟨H19, h⟩ := snAll h
  replace H19 := sp_2.mp H19
  obtain ⟨H20, h⟩ := snAll h
  replace H20 := s_rd.mp H20
  obtain ⟨H21, h⟩ := snAll h
  replace H21 := sp_2.mp H21
  obtain ⟨H22, h⟩ := snAll h
  replace H22 := sp_2.mp H22
  obtain ⟨H23, h⟩ := snAll h
  replace H23 := s_rd.mp H23
  obtain ⟨H24, h⟩ := snAll h
  replace H24 := sp_2.mp H24
  obtain ⟨H25, h⟩ := snAll h
  replace H25 := sp_2.mp H25
  obtain ⟨H26, h⟩ := snAll h
  replace H26 := s_rd.mp H26
  obtain ⟨H27, h⟩ := snAll h
  replace H27 := sp_1.mp H27
  obtain ⟨H28, h⟩ := snAll h
  replace H28 := sp_1.mp H28
  obtain ⟨H29, h⟩ := snAll h
  replace H29 := sp_3.mp H29
  obtain ⟨H30, h⟩ := snAll h
  replace H30 := sp_3.mp H30
  obtain ⟨H31, h⟩ := snAll h
  replace H31 := s_rd.mp H31
  have L : 0 ≤ nthZ zs 18 - nthZ zs 12 - nthZ zs 14 := by
    apply L_wsI (F0 := nthF fs 0) (F1 := nthF fs 1) (F2 := nthF fs 2) (N0 := nthZ zs 0) (N1 := nthZ zs 1) (N2 := nthZ zs 2) (N3 := nthZ zs 3) (N4 := nthZ zs 4) (N5 := nthZ zs 5) (N6 := nthZ zs 6) (N7 := nthZ zs 7) (N8 := nthZ zs 8) (N9 := nthZ zs 9) (N10 := nthZ zs 10) (N11 := nthZ zs 11) (N12 := nthZ zs 12) (N13 := nthZ zs 13) (N14 := nthZ zs 14) (N15 := nthZ zs 15) (N16 := nthZ zs 16) (N17 := nthZ zs 17) (N18 := nthZ zs 18) <;> first | assumption | omega
  rcases List.mem_cons.mp hx with hx | hx
  · rw [hx]; refine sp_3.mpr ?_; omega
  · cases hx
def q_jcE : qRl := ([sp 0 [(0, 1), (1, (-1))], sp 0 [(2, 1)], sp 0 []], [(1101, [1, 0, 0, 1, 2, 3], [])])
theorem q_jcE_ok : RlOk q_jcE := by
  intro fs zs h x hx
  obtain ⟨H0, h⟩ := snAll h
  replace H0 := sp_2.mp H0
  obtain ⟨H1, h⟩ := snAll h
  replace H1 := sp_1.mp H1
  obtain ⟨H2, h⟩ := snAll h
  replace H2 := sp_0.mp H2
  rcases List.mem_cons.mp hx with hx | hx
  · rw [hx]; refine s_jcn.mpr ?_; apply L_jcE (F0 := nthF fs 0) (N0 := nthZ zs 0) (N1 := nthZ zs 1) (N2 := nthZ zs 2) (N3 := nthZ zs 3) <;> first | assumption | omega
  · cases hx
def q_jcs : qRl := ([sp 0 [(3, 1)], sp 0 [], sp 0 [], sp 0 []], [(1101, [1, 0, 0, 1, 2, 3], [])])
theorem q_jcs_ok : RlOk q_jcs := by
  intro fs zs h x hx
  obtain ⟨H0, h⟩ := snAll h
  replace H0 := sp_1.mp H0
  obtain ⟨H1, h⟩ := snAll h
  replace H1 := sp_0.mp H1
  obtain ⟨H2, h⟩ := snAll h
  replace H2 := sp_0.mp H2
  obtain ⟨H3, h⟩ := snAll h
  replace H3 := sp_0.mp H3
  rcases List.mem_cons.mp hx with hx | hx
  · rw [hx]; refine s_jcn.mpr ?_; apply L_jcs (F0 := nthF fs 0) (N0 := nthZ zs 0) (N1 := nthZ zs 1) (N2 := nthZ zs 2) (N3 := nthZ zs 3) <;> first | assumption | omega
  · cases hx
def q_jcZ : qRl := ([(1101, [1, 0, 0, 1, 4, 5], []), sp 0 [(2, 1), (4, (-1))], sp 0 [(3, 1), (5, (-1))]], [(1101, [1, 0, 0, 1, 2, 3], [])])
theorem q_jcZ_ok : RlOk q_jcZ := by
  intro fs zs h x hx
  obtain ⟨H0, h⟩ := snAll h
  replace H0 := s_jcn.mp H0
  obtain ⟨H1, h⟩ := snAll h
  replace H1 := sp_2.mp H1
  obtain ⟨H2, h⟩ := snAll h
  replace H2 := sp_2.mp H2
  rcases List.mem_cons.mp hx with hx | hx
  · rw [hx]; refine s_jcn.mpr ?_; apply L_jcZ (F0 := nthF fs 0) (N0 := nthZ zs 0) (N1 := nthZ zs 1) (N2 := nthZ zs 2) (N3 := nthZ zs 3) (N4 := nthZ zs 4) (N5 := nthZ zs 5) <;> first | assumption | omega
  · cases hx
def q_jcO : qRl := ([(1101, [1, 0, 0, 1, 4, 5], []), sp 0 [(2, 1), (4, (-1))], sp (-1) [(5, (-1))], sp 0 []], [(1101, [1, 0, 0, 1, 2, 3], [])])
theorem q_jcO_ok : RlOk q_jcO := by
  intro fs zs h x hx
  obtain ⟨H0, h⟩ := snAll h
  replace H0 := s_jcn.mp H0
  obtain ⟨H1, h⟩ := snAll h
  replace H1 := sp_2.mp H1
  obtain ⟨H2, h⟩ := snAll h
  replace H2 := sp_1.mp H2
  obtain ⟨H3, h⟩ := snAll h
  replace H3 := sp_0.mp H3
  rcases List.mem_cons.mp hx with hx | hx
  · rw [hx]; refine s_jcn.mpr ?_; apply L_jcO (F0 := nthF fs 0) (N0 := nthZ zs 0) (N1 := nthZ zs 1) (N2 := nthZ zs 2) (N3 := nthZ zs 3) (N4 := nthZ zs 4) (N5 := nthZ zs 5) <;> first | assumption | omega
  · cases hx
def q_jcX1 : qRl := ([sp 1 [(4, 1), (1, (-1))], sp (-1) [(4, (-1)), (1, 1)], (1101, [1, 0, 0, 4, 2, 3], []), sp 7 [(5, 1), (1, (-7))], sp (-7) [(5, (-1)), (1, 7)], (1, [0, 5, 6], []), sp 3 [(6, (-1))]], [(1101, [1, 0, 0, 1, 2, 3], [])])
theorem q_jcX1_ok : RlOk q_jcX1 := by
  intro fs zs h x hx
  obtain ⟨H0, h⟩ := snAll h
  replace H0 := sp_2.mp H0
  obtain ⟨H1, h⟩ := snAll h
  replace H1 := sp_2.mp H1
  obtain ⟨H2, h⟩ := snAll h
  replace H2 := s_jcn.mp H2
  obtain ⟨H3, h⟩ := snAll h
  replace H3 := sp_2.mp H3
  obtain ⟨H4, h⟩ := snAll h
  replace H4 := sp_2.mp H4
  obtain ⟨H5, h⟩ := snAll h
  replace H5 := s_rd.mp H5
  obtain ⟨H6, h⟩ := snAll h
  replace H6 := sp_1.mp H6
  rcases List.mem_cons.mp hx with hx | hx
  · rw [hx]; refine s_jcn.mpr ?_; apply L_jcX1 (F0 := nthF fs 0) (N0 := nthZ zs 0) (N1 := nthZ zs 1) (N2 := nthZ zs 2) (N3 := nthZ zs 3) (N4 := nthZ zs 4) (N5 := nthZ zs 5) (N6 := nthZ zs 6) <;> first | assumption | omega
  · cases hx
def q_jcX2 : qRl := ([sp 1 [(4, 1), (1, (-1))], sp (-1) [(4, (-1)), (1, 1)], (1101, [1, 0, 0, 4, 5, 6], []), sp 0 [(3, 1), (6, (-1))], sp (-1) [(2, 1), (5, (-1))]], [(1101, [1, 0, 0, 1, 2, 3], [])])
theorem q_jcX2_ok : RlOk q_jcX2 := by
  intro fs zs h x hx
  obtain ⟨H0, h⟩ := snAll h
  replace H0 := sp_2.mp H0
  obtain ⟨H1, h⟩ := snAll h
  replace H1 := sp_2.mp H1
  obtain ⟨H2, h⟩ := snAll h
  replace H2 := s_jcn.mp H2
  obtain ⟨H3, h⟩ := snAll h
  replace H3 := sp_2.mp H3
  obtain ⟨H4, h⟩ := snAll h
  replace H4 := sp_2.mp H4
  rcases List.mem_cons.mp hx with hx | hx
  · rw [hx]; refine s_jcn.mpr ?_; apply L_jcX2 (F0 := nthF fs 0) (N0 := nthZ zs 0) (N1 := nthZ zs 1) (N2 := nthZ zs 2) (N3 := nthZ zs 3) (N4 := nthZ zs 4) (N5 := nthZ zs 5) (N6 := nthZ zs 6) <;> first | assumption | omega
  · cases hx
def q_jcW : qRl := ([(2, [1, 0, 5, 6], []), (1101, [1, 0, 0, 1, 2, 3], []), sp 0 [(5, 1), (1, (-7))]], [(1101, [1, 1, 0, 1, 2, 3], [])])
theorem q_jcW_ok : RlOk q_jcW := by
  intro fs zs h x hx
  obtain ⟨H0, h⟩ := snAll h
  replace H0 := s_wr.mp H0
  obtain ⟨H1, h⟩ := snAll h
  replace H1 := s_jcn.mp H1
  obtain ⟨H2, h⟩ := snAll h
  replace H2 := sp_2.mp H2
  rcases List.mem_cons.mp hx with hx | hx
  · rw [hx]; refine s_jcn.mpr ?_; apply L_jcW (F0 := nthF fs 0) (F1 := nthF fs 1) (N0 := nthZ zs 0) (N1 := nthZ zs 1) (N2 := nthZ zs 2) (N3 := nthZ zs 3) (N5 := nthZ zs 5) (N6 := nthZ zs 6) <;> first | assumption | omega
  · cases hx
def q_jcV : qRl := ([(2, [1, 0, 5, 6], []), (1091, [0, 10, 11], []), (1101, [1, 0, 0, 1, 2, 3], []), sp (-1) [(5, 1), (10, (-7))], sp 6 [(10, 7), (5, (-1))]], [(1101, [1, 1, 0, 1, 2, 3], [])])
theorem q_jcV_ok : RlOk q_jcV := by
  intro fs zs h x hx
  obtain ⟨H0, h⟩ := snAll h
  replace H0 := s_wr.mp H0
  obtain ⟨H1, h⟩ := snAll h
  replace H1 := s_us.mp H1
  obtain ⟨H2, h⟩ := snAll h
  replace H2 := s_jcn.mp H2
  obtain ⟨H3, h⟩ := snAll h
  replace H3 := sp_2.mp H3
  obtain ⟨H4, h⟩ := snAll h
  replace H4 := sp_2.mp H4
  rcases List.mem_cons.mp hx with hx | hx
  · rw [hx]; refine s_jcn.mpr ?_; apply L_jcV (F0 := nthF fs 0) (F1 := nthF fs 1) (N0 := nthZ zs 0) (N1 := nthZ zs 1) (N2 := nthZ zs 2) (N3 := nthZ zs 3) (N5 := nthZ zs 5) (N6 := nthZ zs 6) (N10 := nthZ zs 10) <;> first | assumption | omega
  · cases hx
def q_jcK : qRl := ([(2, [1, 0, 5, 6], []), (1091, [0, 10, 11], []), (1101, [1, 0, 0, 1, 2, 3], []), sp 0 [(5, 1), (10, (-7))], sp 0 [(10, 7), (5, (-1))], (1, [0, 5, 7], []), sp (-4) [(7, 1)]], [(1101, [1, 1, 0, 1, 2, 3], [])])
theorem q_jcK_ok : RlOk q_jcK := by
  intro fs zs h x hx
  obtain ⟨H0, h⟩ := snAll h
  replace H0 := s_wr.mp H0
  obtain ⟨H1, h⟩ := snAll h
  replace H1 := s_us.mp H1
  obtain ⟨H2, h⟩ := snAll h
  replace H2 := s_jcn.mp H2
  obtain ⟨H3, h⟩ := snAll h
  replace H3 := sp_2.mp H3
  obtain ⟨H4, h⟩ := snAll h
  replace H4 := sp_2.mp H4
  obtain ⟨H5, h⟩ := snAll h
  replace H5 := s_rd.mp H5
  obtain ⟨H6, h⟩ := snAll h
  replace H6 := sp_1.mp H6
  rcases List.mem_cons.mp hx with hx | hx
  · rw [hx]; refine s_jcn.mpr ?_; apply L_jcK (F0 := nthF fs 0) (F1 := nthF fs 1) (N0 := nthZ zs 0) (N1 := nthZ zs 1) (N2 := nthZ zs 2) (N3 := nthZ zs 3) (N5 := nthZ zs 5) (N6 := nthZ zs 6) (N7 := nthZ zs 7) (N10 := nthZ zs 10) <;> first | assumption | omega
  · cases hx
def q_nsJ : qRl := ([(1101, [1, 0, 0, 1, 3, 4], []), sp (-1) [(4, (-1))], sp 0 [(2, 1), (3, (-1))]], [(1102, [1, 0, 0, 1, 2], [])])
theorem q_nsJ_ok : RlOk q_nsJ := by
  intro fs zs h x hx
  obtain ⟨H0, h⟩ := snAll h
  replace H0 := s_jcn.mp H0
  obtain ⟨H1, h⟩ := snAll h
  replace H1 := sp_1.mp H1
  obtain ⟨H2, h⟩ := snAll h
  replace H2 := sp_2.mp H2
  rcases List.mem_cons.mp hx with hx | hx
  · rw [hx]; refine s_nsh.mpr ?_; apply L_nsJ (F0 := nthF fs 0) (N0 := nthZ zs 0) (N1 := nthZ zs 1) (N2 := nthZ zs 2) (N3 := nthZ zs 3) (N4 := nthZ zs 4) <;> first | assumption | omega
  · cases hx
def q_nsZ : qRl := ([(1102, [1, 0, 0, 1, 3], []), sp 0 [(2, 1), (3, (-1))]], [(1102, [1, 0, 0, 1, 2], [])])
theorem q_nsZ_ok : RlOk q_nsZ := by
  intro fs zs h x hx
  obtain ⟨H0, h⟩ := snAll h
  replace H0 := s_nsh.mp H0
  obtain ⟨H1, h⟩ := snAll h
  replace H1 := sp_2.mp H1
  rcases List.mem_cons.mp hx with hx | hx
  · rw [hx]; refine s_nsh.mpr ?_; apply L_nsZ (F0 := nthF fs 0) (N0 := nthZ zs 0) (N1 := nthZ zs 1) (N2 := nthZ zs 2) (N3 := nthZ zs 3) <;> first | assumption | omega
  · cases hx
def q_nsV : qRl := ([(2, [1, 0, 5, 6], []), (1091, [0, 10, 11], []), (1102, [1, 0, 0, 1, 2], []), sp (-1) [(5, 1), (10, (-7))], sp 6 [(10, 7), (5, (-1))]], [(1102, [1, 1, 0, 1, 2], [])])
theorem q_nsV_ok : RlOk q_nsV := by
  intro fs zs h x hx
  obtain ⟨H0, h⟩ := snAll h
  replace H0 := s_wr.mp H0
  obtain ⟨H1, h⟩ := snAll h
  replace H1 := s_us.mp H1
  obtain ⟨H2, h⟩ := snAll h
  replace H2 := s_nsh.mp H2
  obtain ⟨H3, h⟩ := snAll h
  replace H3 := sp_2.mp H3
  obtain ⟨H4, h⟩ := snAll h
  replace H4 := sp_2.mp H4
  rcases List.mem_cons.mp hx with hx | hx
  · rw [hx]; refine s_nsh.mpr ?_; apply L_nsV (F0 := nthF fs 0) (F1 := nthF fs 1) (N0 := nthZ zs 0) (N1 := nthZ zs 1) (N2 := nthZ zs 2) (N5 := nthZ zs 5) (N6 := nthZ zs 6) (N10 := nthZ zs 10) <;> first | assumption | omega
  · cases hx
def q_nsD : qRl := ([(2, [1, 0, 5, 6], []), (1091, [0, 10, 11], []), (1102, [1, 0, 0, 1, 3], []), sp 1 [(2, 1), (3, (-1))], sp 0 [(5, 1), (10, (-7))], sp 0 [(10, 7), (5, (-1))], sp 0 [(10, 1), (0, (-1))], sp (-1) [(1, 1), (10, (-1))], (1, [0, 5, 7], []), sp (-5) [(7, 1)], sp 5 [(7, (-1))], sp (-4) [(6, 1)], sp 4 [(6, (-1))]], [(1102, [1, 1, 0, 1, 2], [])])
theorem q_nsD_ok : RlOk q_nsD := by
  intro fs zs h x hx
  obtain ⟨H0, h⟩ := snAll h
  replace H0 := s_wr.mp H0
  obtain ⟨H1, h⟩ := snAll h
  replace H1 := s_us.mp H1
  obtain ⟨H2, h⟩ := snAll h
  replace H2 := s_nsh.mp H2
  obtain ⟨H3, h⟩ := snAll h
  replace H3 := sp_2.mp H3
  obtain ⟨H4, h⟩ := snAll h
  replace H4 := sp_2.mp H4
  obtain ⟨H5, h⟩ := snAll h
  replace H5 := sp_2.mp H5
  obtain ⟨H6, h⟩ := snAll h
  replace H6 := sp_2.mp H6
  obtain ⟨H7, h⟩ := snAll h
  replace H7 := sp_2.mp H7
  obtain ⟨H8, h⟩ := snAll h
  replace H8 := s_rd.mp H8
  obtain ⟨H9, h⟩ := snAll h
  replace H9 := sp_1.mp H9
  obtain ⟨H10, h⟩ := snAll h
  replace H10 := sp_1.mp H10
  obtain ⟨H11, h⟩ := snAll h
  replace H11 := sp_1.mp H11
  obtain ⟨H12, h⟩ := snAll h
  replace H12 := sp_1.mp H12
  rcases List.mem_cons.mp hx with hx | hx
  · rw [hx]; refine s_nsh.mpr ?_; apply L_nsD (F0 := nthF fs 0) (F1 := nthF fs 1) (N0 := nthZ zs 0) (N1 := nthZ zs 1) (N2 := nthZ zs 2) (N3 := nthZ zs 3) (N5 := nthZ zs 5) (N6 := nthZ zs 6) (N7 := nthZ zs 7) (N10 := nthZ zs 10) <;> first | assumption | omega
  · cases hx
def q_ja0 : qRl := ([sp 3 [(4, (-1))], (1101, [1, 0, 0, 1, 2, 3], [])], [(1105, [1, 0, 0, 1, 2, 3, 4], [])])
theorem q_ja0_ok : RlOk q_ja0 := by
  intro fs zs h x hx
  obtain ⟨H0, h⟩ := snAll h
  replace H0 := sp_1.mp H0
  obtain ⟨H1, h⟩ := snAll h
  replace H1 := s_jcn.mp H1
  rcases List.mem_cons.mp hx with hx | hx
  · rw [hx]; refine s_jca.mpr ?_; apply L_ja0 (F0 := nthF fs 0) (N0 := nthZ zs 0) (N1 := nthZ zs 1) (N2 := nthZ zs 2) (N3 := nthZ zs 3) (N4 := nthZ zs 4) <;> first | assumption | omega
  · cases hx
def q_jas : qRl := ([sp 0 [(3, 1)], sp 0 [], sp 0 [], sp 0 [], sp 0 []], [(1105, [1, 0, 0, 1, 2, 3, 4], [])])
theorem q_jas_ok : RlOk q_jas := by
  intro fs zs h x hx
  obtain ⟨H0, h⟩ := snAll h
  replace H0 := sp_1.mp H0
  obtain ⟨H1, h⟩ := snAll h
  replace H1 := sp_0.mp H1
  obtain ⟨H2, h⟩ := snAll h
  replace H2 := sp_0.mp H2
  obtain ⟨H3, h⟩ := snAll h
  replace H3 := sp_0.mp H3
  obtain ⟨H4, h⟩ := snAll h
  replace H4 := sp_0.mp H4
  rcases List.mem_cons.mp hx with hx | hx
  · rw [hx]; refine s_jca.mpr ?_; apply L_jas (F0 := nthF fs 0) (N0 := nthZ zs 0) (N1 := nthZ zs 1) (N2 := nthZ zs 2) (N3 := nthZ zs 3) (N4 := nthZ zs 4) <;> first | assumption | omega
  · cases hx
def q_jaX : qRl := ([sp 1 [(4, 1), (1, (-1))], sp (-1) [(4, (-1)), (1, 1)], (1105, [1, 0, 0, 4, 2, 3, 5], []), sp 7 [(6, 1), (1, (-7))], sp (-7) [(6, (-1)), (1, 7)], (1, [0, 6, 7], []), sp 0 [(7, 1), (5, (-1))], sp 0 [(5, 1), (7, (-1))]], [(1101, [1, 0, 0, 1, 2, 3], [])])
theorem q_jaX_ok : RlOk q_jaX := by
  intro fs zs h x hx
  obtain ⟨H0, h⟩ := snAll h
  replace H0 := sp_2.mp H0
  obtain ⟨H1, h⟩ := snAll h
  replace H1 := sp_2.mp H1
  obtain ⟨H2, h⟩ := snAll h
  replace H2 := s_jca.mp H2
  obtain ⟨H3, h⟩ := snAll h
  replace H3 := sp_2.mp H3
  obtain ⟨H4, h⟩ := snAll h
  replace H4 := sp_2.mp H4
  obtain ⟨H5, h⟩ := snAll h
  replace H5 := s_rd.mp H5
  obtain ⟨H6, h⟩ := snAll h
  replace H6 := sp_2.mp H6
  obtain ⟨H7, h⟩ := snAll h
  replace H7 := sp_2.mp H7
  rcases List.mem_cons.mp hx with hx | hx
  · rw [hx]; refine s_jcn.mpr ?_; apply L_jaX (F0 := nthF fs 0) (N0 := nthZ zs 0) (N1 := nthZ zs 1) (N2 := nthZ zs 2) (N3 := nthZ zs 3) (N4 := nthZ zs 4) (N5 := nthZ zs 5) (N6 := nthZ zs 6) (N7 := nthZ zs 7) <;> first | assumption | omega
  · cases hx
def q_nsI : qRl := ([(1091, [0, 10, 11], []), (1102, [1, 0, 0, 1, 2], []), sp 0 [(10, 1), (0, (-1))], sp (-1) [(1, 1), (10, (-1))], sp 0 [(5, 1), (10, (-7))], sp 0 [(5, (-1)), (10, 7)], (1, [0, 5, 6], []), sp (-5) [(6, 1)], sp 5 [(6, (-1))]], [sp (-1) [(2, 1)]])
theorem q_nsI_ok : RlOk q_nsI := by
  intro fs zs h x hx
  obtain ⟨H0, h⟩ := snAll h
  replace H0 := s_us.mp H0
  obtain ⟨H1, h⟩ := snAll h
  replace H1 := s_nsh.mp H1
  obtain ⟨H2, h⟩ := snAll h
  replace H2 := sp_2.mp H2
  obtain ⟨H3, h⟩ := snAll h
  replace H3 := sp_2.mp H3
  obtain ⟨H4, h⟩ := snAll h
  replace H4 := sp_2.mp H4
  obtain ⟨H5, h⟩ := snAll h
  replace H5 := sp_2.mp H5
  obtain ⟨H6, h⟩ := snAll h
  replace H6 := s_rd.mp H6
  obtain ⟨H7, h⟩ := snAll h
  replace H7 := sp_1.mp H7
  obtain ⟨H8, h⟩ := snAll h
  replace H8 := sp_1.mp H8
  have L : 0 ≤ nthZ zs 2 - 1 := by
    apply L_nsI (F0 := nthF fs 0) (N0 := nthZ zs 0) (N1 := nthZ zs 1) (N2 := nthZ zs 2) (N5 := nthZ zs 5) (N6 := nthZ zs 6) (N10 := nthZ zs 10) <;> first | assumption | omega
  rcases List.mem_cons.mp hx with hx | hx
  · rw [hx]; refine sp_1.mpr ?_; omega
  · cases hx
def q_nsW : qRl := ([(2, [1, 0, 5, 6], []), (1102, [1, 0, 0, 1, 2], []), sp 0 [(5, 1), (1, (-7))]], [(1102, [1, 1, 0, 1, 2], [])])
theorem q_nsW_ok : RlOk q_nsW := by
  intro fs zs h x hx
  obtain ⟨H0, h⟩ := snAll h
  replace H0 := s_wr.mp H0
  obtain ⟨H1, h⟩ := snAll h
  replace H1 := s_nsh.mp H1
  obtain ⟨H2, h⟩ := snAll h
  replace H2 := sp_2.mp H2
  rcases List.mem_cons.mp hx with hx | hx
  · rw [hx]; refine s_nsh.mpr ?_; apply L_nsW (F0 := nthF fs 0) (F1 := nthF fs 1) (N0 := nthZ zs 0) (N1 := nthZ zs 1) (N2 := nthZ zs 2) (N5 := nthZ zs 5) (N6 := nthZ zs 6) <;> first | assumption | omega
  · cases hx
def q_eoS : qRl := ([(2, [2, 0, 2, 3], []), (1117, [2, 0, 1, 0, 1], []), sp 0 [(2, 1), (1, (-7))]], [(1117, [2, 2, 1, 0, 1], [])])
theorem q_eoS_ok : RlOk q_eoS := by
  intro fs zs h x hx
  obtain ⟨H0, h⟩ := snAll h
  replace H0 := s_wr.mp H0
  obtain ⟨H1, h⟩ := snAll h
  replace H1 := s_eo.mp H1
  obtain ⟨H2, h⟩ := snAll h
  replace H2 := sp_2.mp H2
  rcases List.mem_cons.mp hx with hx | hx
  · rw [hx]; refine s_eo.mpr ?_; apply L_eoS (F0 := nthF fs 0) (F1 := nthF fs 1) (F2 := nthF fs 2) (N0 := nthZ zs 0) (N1 := nthZ zs 1) (N2 := nthZ zs 2) (N3 := nthZ zs 3) <;> first | assumption | omega
  · cases hx
def q_eoX : qRl := ([(2, [2, 1, 2, 3], []), sp 1 [(4, 1), (1, (-1))], sp (-1) [(4, (-1)), (1, 1)], (1117, [2, 0, 1, 0, 4], []), sp 0 [(4, 1), (0, (-1))], sp 4 [(5, 1), (1, (-7))], sp (-4) [(5, (-1)), (1, 7)], (1, [0, 5, 6], []), sp 3 [(7, 1), (1, (-7))], sp (-3) [(7, (-1)), (1, 7)], (1, [0, 7, 8], []), sp 0 [(6, 1), (8, 1), (3, (-1))]], [(1117, [2, 0, 2, 0, 1], [])])
theorem q_eoX_ok : RlOk q_eoX := by
  intro fs zs h x hx
  obtain ⟨H0, h⟩ := snAll h
  replace H0 := s_wr.mp H0
  obtain ⟨H1, h⟩ := snAll h
  replace H1 := sp_2.mp H1
  obtain ⟨H2, h⟩ := snAll h
  replace H2 := sp_2.mp H2
  obtain ⟨H3, h⟩ := snAll h
  replace H3 := s_eo.mp H3
  obtain ⟨H4, h⟩ := snAll h
  replace H4 := sp_2.mp H4
  obtain ⟨H5, h⟩ := snAll h
  replace H5 := sp_2.mp H5
  obtain ⟨H6, h⟩ := snAll h
  replace H6 := sp_2.mp H6
  obtain ⟨H7, h⟩ := snAll h
  replace H7 := s_rd.mp H7
  obtain ⟨H8, h⟩ := snAll h
  replace H8 := sp_2.mp H8
  obtain ⟨H9, h⟩ := snAll h
  replace H9 := sp_2.mp H9
  obtain ⟨H10, h⟩ := snAll h
  replace H10 := s_rd.mp H10
  obtain ⟨H11, h⟩ := snAll h
  replace H11 := sp_3.mp H11
  rcases List.mem_cons.mp hx with hx | hx
  · rw [hx]; refine s_eo.mpr ?_; apply L_eoX (F0 := nthF fs 0) (F1 := nthF fs 1) (F2 := nthF fs 2) (N0 := nthZ zs 0) (N1 := nthZ zs 1) (N2 := nthZ zs 2) (N3 := nthZ zs 3) (N4 := nthZ zs 4) (N5 := nthZ zs 5) (N6 := nthZ zs 6) (N7 := nthZ zs 7) (N8 := nthZ zs 8) <;> first | assumption | omega
  · cases hx
def q_eoK : qRl := ([(2, [2, 0, 2, 3], []), (1091, [0, 10, 11], []), (1117, [2, 0, 1, 0, 1], []), sp 0 [(2, 1), (10, (-7))], sp 0 [(10, 7), (2, (-1))]], [(1117, [2, 2, 1, 0, 1], [])])
theorem q_eoK_ok : RlOk q_eoK := by
  intro fs zs h x hx
  obtain ⟨H0, h⟩ := snAll h
  replace H0 := s_wr.mp H0
  obtain ⟨H1, h⟩ := snAll h
  replace H1 := s_us.mp H1
  obtain ⟨H2, h⟩ := snAll h
  replace H2 := s_eo.mp H2
  obtain ⟨H3, h⟩ := snAll h
  replace H3 := sp_2.mp H3
  obtain ⟨H4, h⟩ := snAll h
  replace H4 := sp_2.mp H4
  rcases List.mem_cons.mp hx with hx | hx
  · rw [hx]; refine s_eo.mpr ?_; apply L_eoK (F0 := nthF fs 0) (F1 := nthF fs 1) (F2 := nthF fs 2) (N0 := nthZ zs 0) (N1 := nthZ zs 1) (N2 := nthZ zs 2) (N3 := nthZ zs 3) (N10 := nthZ zs 10) <;> first | assumption | omega
  · cases hx
def q_ns0b : qRl := ([(1102, [1, 0, 0, 1, 2], [])], [sp 0 [(2, 1)]])
theorem q_ns0b_ok : RlOk q_ns0b := by
  intro fs zs h x hx
  obtain ⟨H0, h⟩ := snAll h
  replace H0 := s_nsh.mp H0
  have L : 0 ≤ nthZ zs 2 := by
    apply L_ns0 (F0 := nthF fs 0) (N0 := nthZ zs 0) (N1 := nthZ zs 1) (N2 := nthZ zs 2) <;> first | assumption | omega
  rcases List.mem_cons.mp hx with hx | hx
  · rw [hx]; refine sp_1.mpr ?_; omega
  · cases hx
def q_fwS : qRl := ([(1091, [0, 2, 20], []), (1091, [0, 3, 21], []), (1098, [2, 0, 1, 0, 1, 4], []), (1095, [2, 2, 1, 0, 4], []), sp 0 [(2, 1)], sp (-1) [(0, 1), (2, (-1))], sp (-2) [(5, 1), (2, (-17))], sp 2 [(5, (-1)), (2, 17)], (1, [1, 5, 6], []), sp (-19) [(7, 1), (2, (-17))], sp 19 [(7, (-1)), (2, 17)], (1, [1, 7, 8], []), sp 0 [(3, 1), (6, (-1))], sp (-1) [(8, 1), (3, (-1))], sp 0 [(1, 1), (8, (-1))], sp 0 [(9, 1), (3, (-6))], sp 0 [(9, (-1)), (3, 6)], (1, [0, 9, 10], []), sp (-3) [(11, 1), (10, (-7))], sp 3 [(11, (-1)), (10, 7)], (1, [2, 11, 12], []), sp (-4) [(13, 1), (10, (-7))], sp 4 [(13, (-1)), (10, 7)], (1, [2, 13, 14], []), sp (-1) [(15, 1), (10, (-7))], sp 1 [(15, (-1)), (10, 7)], (1, [2, 15, 16], []), sp 0 [(16, 1)], sp 3 [(16, (-1))], sp (-9) [(17, 1), (2, (-17)), (16, (-1))], sp 9 [(17, (-1)), (2, 17), (16, 1)], (1, [1, 17, 18], [])], [sp 0 [(18, 1), (12, (-1)), (14, (-1))]])
theorem q_fwS_ok : RlOk q_fwS := by
  intro fs zs h x hx
  obtain ⟨H0, h⟩ := snAll h
  replace H0 := s_us.mp H0
  obtain ⟨H1, h⟩ := snAll h
  replace H1 := s_us.mp H1
  obtain ⟨H2, h⟩ := snAll h
  replace H2 := s_wau.mp H2
  obtain ⟨H3, h⟩ := snAll h
  replace H3 := s_stu.mp H3
  obtain ⟨H4, h⟩ := snAll h
  replace H4 := sp_1.mp H4
  obtain ⟨H5, h⟩ := snAll h
  replace H5 := sp_2.mp H5
  obtain ⟨H6, h⟩ := snAll h
  replace H6 := sp_2.mp H6
  obtain ⟨H7, h⟩ := snAll h
  replace H7 := sp_2.mp H7
  obtain ⟨H8, h⟩ := snAll h
  replace H8 := s_rd.mp H8
  obtain ⟨H9, h⟩ := snAll h
  replace H9 := sp_2.mp H9
  obtain ⟨H10, h⟩ := snAll h
  replace H10 := sp_2.mp H10
  obtain ⟨H11, h⟩ := snAll h
  replace H11 := s_rd.mp H11
  obtain ⟨H12, h⟩ := snAll h
  replace H12 := sp_2.mp H12
  obtain ⟨H13, h⟩ := snAll h
  replace H13 := sp_2.mp H13
  obtain ⟨H14, h⟩ := snAll h
  replace H14 := sp_2.mp H14
  obtain ⟨H15, h⟩ := snAll h
  replace H15 := sp_2.mp H15
  obtain ⟨H16, h⟩ := snAll h
  replace H16 := sp_2.mp H16
  obtain ⟨H17, h⟩ := snAll h
  replace H17 := s_rd.mp H17
  obtain ⟨H18, h⟩ := snAll h
  replace H18 := sp_2.mp H18
  obtain ⟨H19, h⟩ := snAll h
  replace H19 := sp_2.mp H19
  obtain ⟨H20, h⟩ := snAll h
  replace H20 := s_rd.mp H20
  obtain ⟨H21, h⟩ := snAll h
  replace H21 := sp_2.mp H21
  obtain ⟨H22, h⟩ := snAll h
  replace H22 := sp_2.mp H22
  obtain ⟨H23, h⟩ := snAll h
  replace H23 := s_rd.mp H23
  obtain ⟨H24, h⟩ := snAll h
  replace H24 := sp_2.mp H24
  obtain ⟨H25, h⟩ := snAll h
  replace H25 := sp_2.mp H25
  obtain ⟨H26, h⟩ := snAll h
  replace H26 := s_rd.mp H26
  obtain ⟨H27, h⟩ := snAll h
  replace H27 := sp_1.mp H27
  obtain ⟨H28, h⟩ := snAll h
  replace H28 := sp_1.mp H28
  obtain ⟨H29, h⟩ := snAll h
  replace H29 := sp_3.mp H29
  obtain ⟨H30, h⟩ := snAll h
  replace H30 := sp_3.mp H30
  obtain ⟨H31, h⟩ := snAll h
  replace H31 := s_rd.mp H31
  have L : 0 ≤ nthZ zs 18 - nthZ zs 12 - nthZ zs 14 := by
    apply L_wsI (F0 := nthF fs 0) (F1 := nthF fs 1) (F2 := nthF fs 2) (N0 := nthZ zs 0) (N1 := nthZ zs 1) (N2 := nthZ zs 2) (N3 := nthZ zs 3) (N4 := nthZ zs 4) (N5 := nthZ zs 5) (N6 := nthZ zs 6) (N7 := nthZ zs 7) (N8 := nthZ zs 8) (N9 := nthZ zs 9) (N10 := nthZ zs 10) (N11 := nthZ zs 11) (N12 := nthZ zs 12) (N13 := nthZ zs 13) (N14 := nthZ zs 14) (N15 := nthZ zs 15) (N16 := nthZ zs 16) (N17 := nthZ zs 17) (N18 := nthZ zs 18) <;> first | assumption | omega
  rcases List.mem_cons.mp hx with hx | hx
  · rw [hx]; refine sp_3.mpr ?_; omega
  · cases hx
def q_ftI : qRl := ([(1091, [0, 2, 10], []), (1091, [0, 3, 11], []), (1095, [2, 0, 1, 0, 1], []), sp 0 [(2, 1)], sp (-1) [(0, 1), (2, (-1))], sp (-1) [(4, 1), (2, (-17))], sp 1 [(4, (-1)), (2, 17)], (1, [1, 4, 5], []), sp (-18) [(6, 1), (2, (-17))], sp 18 [(6, (-1)), (2, 17)], (1, [1, 6, 7], []), sp 0 [(3, 1), (5, (-1))], sp (-1) [(7, 1), (3, (-1))], sp 0 [(1, 1), (7, (-1))], sp (-3) [(8, 1), (3, (-7))], sp 3 [(8, (-1)), (3, 7)], (1, [0, 8, 9], []), sp (-4) [(12, 1), (3, (-7))], sp 4 [(12, (-1)), (3, 7)], (1, [0, 12, 13], []), sp (-1) [(14, 1), (3, (-7))], sp 1 [(14, (-1)), (3, 7)], (1, [0, 14, 15], []), sp 0 [(15, 1)], sp 3 [(15, (-1))], sp (-9) [(16, 1), (2, (-17)), (15, (-1))], sp 9 [(16, (-1)), (2, 17), (15, 1)], (1, [1, 16, 17], [])], [sp 0 [(17, 1), (9, (-1)), (13, (-1))]])
theorem q_ftI_ok : RlOk q_ftI := by
  intro fs zs h x hx
  obtain ⟨H0, h⟩ := snAll h
  replace H0 := s_us.mp H0
  obtain ⟨H1, h⟩ := snAll h
  replace H1 := s_us.mp H1
  obtain ⟨H2, h⟩ := snAll h
  replace H2 := s_stu.mp H2
  obtain ⟨H3, h⟩ := snAll h
  replace H3 := sp_1.mp H3
  obtain ⟨H4, h⟩ := snAll h
  replace H4 := sp_2.mp H4
  obtain ⟨H5, h⟩ := snAll h
  replace H5 := sp_2.mp H5
  obtain ⟨H6, h⟩ := snAll h
  replace H6 := sp_2.mp H6
  obtain ⟨H7, h⟩ := snAll h
  replace H7 := s_rd.mp H7
  obtain ⟨H8, h⟩ := snAll h
  replace H8 := sp_2.mp H8
  obtain ⟨H9, h⟩ := snAll h
  replace H9 := sp_2.mp H9
  obtain ⟨H10, h⟩ := snAll h
  replace H10 := s_rd.mp H10
  obtain ⟨H11, h⟩ := snAll h
  replace H11 := sp_2.mp H11
  obtain ⟨H12, h⟩ := snAll h
  replace H12 := sp_2.mp H12
  obtain ⟨H13, h⟩ := snAll h
  replace H13 := sp_2.mp H13
  obtain ⟨H14, h⟩ := snAll h
  replace H14 := sp_2.mp H14
  obtain ⟨H15, h⟩ := snAll h
  replace H15 := sp_2.mp H15
  obtain ⟨H16, h⟩ := snAll h
  replace H16 := s_rd.mp H16
  obtain ⟨H17, h⟩ := snAll h
  replace H17 := sp_2.mp H17
  obtain ⟨H18, h⟩ := snAll h
  replace H18 := sp_2.mp H18
  obtain ⟨H19, h⟩ := snAll h
  replace H19 := s_rd.mp H19
  obtain ⟨H20, h⟩ := snAll h
  replace H20 := sp_2.mp H20
  obtain ⟨H21, h⟩ := snAll h
  replace H21 := sp_2.mp H21
  obtain ⟨H22, h⟩ := snAll h
  replace H22 := s_rd.mp H22
  obtain ⟨H23, h⟩ := snAll h
  replace H23 := sp_1.mp H23
  obtain ⟨H24, h⟩ := snAll h
  replace H24 := sp_1.mp H24
  obtain ⟨H25, h⟩ := snAll h
  replace H25 := sp_3.mp H25
  obtain ⟨H26, h⟩ := snAll h
  replace H26 := sp_3.mp H26
  obtain ⟨H27, h⟩ := snAll h
  replace H27 := s_rd.mp H27
  have L : 0 ≤ nthZ zs 17 - nthZ zs 9 - nthZ zs 13 := by
    apply L_stI (F0 := nthF fs 0) (F1 := nthF fs 1) (N0 := nthZ zs 0) (N1 := nthZ zs 1) (N2 := nthZ zs 2) (N3 := nthZ zs 3) (N4 := nthZ zs 4) (N5 := nthZ zs 5) (N6 := nthZ zs 6) (N7 := nthZ zs 7) (N8 := nthZ zs 8) (N9 := nthZ zs 9) (N12 := nthZ zs 12) (N13 := nthZ zs 13) (N14 := nthZ zs 14) (N15 := nthZ zs 15) (N16 := nthZ zs 16) (N17 := nthZ zs 17) <;> first | assumption | omega
  rcases List.mem_cons.mp hx with hx | hx
  · rw [hx]; refine sp_3.mpr ?_; omega
  · cases hx
