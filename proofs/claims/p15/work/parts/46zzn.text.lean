
theorem M_detE_isName {F0 : Int → Int} {N0 N1 N2 N3 N4 N5 : Int} (H0 : dEv 1031 [(F0)] [(N0), (N1)] = some (N2)) (H1 : dEv 1031 [(F0)] [(N3), (N4)] = some (N5)) (H2 : N3 = N0) (H3 : N4 = N1) : (N5 ≤ N2) ∧ (N2 ≤ N5) := by
  subst_vars
  rw [H0] at H1
  cases H1; omega
theorem M_detE_isSign {F0 F1 : Int → Int} {N0 N1 N2 N3 N4 N5 N6 N7 : Int} (H0 : dEv 1032 [(F0), (F1)] [(N0), (N1), (N2)] = some (N3)) (H1 : dEv 1032 [(F0), (F1)] [(N4), (N5), (N6)] = some (N7)) (H2 : N4 = N0) (H3 : N5 = N1) (H4 : N6 = N2) : (N7 ≤ N3) ∧ (N3 ≤ N7) := by
  subst_vars
  rw [H0] at H1
  cases H1; omega
/-! STEPS, ANSWERS: the rules (written by wip/p2/grp.py) -/
section
variable {fs : List (Int → Int)} {zs : List Int}
theorem s_det_pass {a0 a1 i0 i1 i2 i3 : Nat} : SnOk fs zs (1026, [2, a0, a1, i0, i1, i2, i3], []) ↔ dEv 1023 [(nthF fs a0), (nthF fs a1)] [(nthZ zs i0), (nthZ zs i1), (nthZ zs i2)] = some (nthZ zs i3) := Iff.rfl
theorem s_det_partEnd {a0 a1 i0 i1 i2 i3 : Nat} : SnOk fs zs (1027, [2, a0, a1, i0, i1, i2, i3], []) ↔ dEv 1024 [(nthF fs a0), (nthF fs a1)] [(nthZ zs i0), (nthZ zs i1), (nthZ zs i2)] = some (nthZ zs i3) := Iff.rfl
theorem s_det_passAddress {a0 a1 i0 i1 i2 : Nat} : SnOk fs zs (1028, [2, a0, a1, i0, i1, i2], []) ↔ dEv 1025 [(nthF fs a0), (nthF fs a1)] [(nthZ zs i0), (nthZ zs i1)] = some (nthZ zs i2) := Iff.rfl
theorem s_det_isValue {a0 a1 i0 i1 i2 : Nat} : SnOk fs zs (1031, [2, a0, a1, i0, i1, i2], []) ↔ dEv 1028 [(nthF fs a0), (nthF fs a1)] [(nthZ zs i0), (nthZ zs i1)] = some (nthZ zs i2) := Iff.rfl
theorem s_det_isName {a0 i0 i1 i2 : Nat} : SnOk fs zs (1034, [1, a0, i0, i1, i2], []) ↔ dEv 1031 [(nthF fs a0)] [(nthZ zs i0), (nthZ zs i1)] = some (nthZ zs i2) := Iff.rfl
theorem s_det_isSign {a0 a1 i0 i1 i2 i3 : Nat} : SnOk fs zs (1035, [2, a0, a1, i0, i1, i2, i3], []) ↔ dEv 1032 [(nthF fs a0), (nthF fs a1)] [(nthZ zs i0), (nthZ zs i1), (nthZ zs i2)] = some (nthZ zs i3) := Iff.rfl
theorem s_det_isNamedAs {a0 a1 i0 i1 i2 i3 : Nat} : SnOk fs zs (1036, [2, a0, a1, i0, i1, i2, i3], []) ↔ dEv 1033 [(nthF fs a0), (nthF fs a1)] [(nthZ zs i0), (nthZ zs i1), (nthZ zs i2)] = some (nthZ zs i3) := Iff.rfl
theorem s_det_wordOf {i0 i1 : Nat} : SnOk fs zs (1029, [0, i0, i1], []) ↔ dEv 1026 [] [(nthZ zs i0)] = some (nthZ zs i1) := Iff.rfl
theorem s_det_registerOf {i0 i1 : Nat} : SnOk fs zs (1030, [0, i0, i1], []) ↔ dEv 1027 [] [(nthZ zs i0)] = some (nthZ zs i1) := Iff.rfl
theorem s_det_sizeWord {i0 i1 i2 i3 i4 : Nat} : SnOk fs zs (1032, [0, i0, i1, i2, i3, i4], []) ↔ dEv 1029 [] [(nthZ zs i0), (nthZ zs i1), (nthZ zs i2), (nthZ zs i3)] = some (nthZ zs i4) := Iff.rfl
theorem s_det_find {i0 i1 i2 i3 i4 i5 i6 i7 i8 i9 i10 : Nat} : SnOk fs zs (1033, [0, i0, i1, i2, i3, i4, i5, i6, i7, i8, i9, i10], []) ↔ dEv 1030 [] [(nthZ zs i0), (nthZ zs i1), (nthZ zs i2), (nthZ zs i3), (nthZ zs i4), (nthZ zs i5), (nthZ zs i6), (nthZ zs i7), (nthZ zs i8), (nthZ zs i9)] = some (nthZ zs i10) := Iff.rfl
theorem s_det_inName {i0 i1 : Nat} : SnOk fs zs (1085, [0, i0, i1], []) ↔ dEv 1082 [] [(nthZ zs i0)] = some (nthZ zs i1) := Iff.rfl
theorem s_det_isFront {a0 a1 i0 i1 i2 : Nat} : SnOk fs zs (1171, [2, a0, a1, i0, i1, i2], []) ↔ dEv 1168 [(nthF fs a0), (nthF fs a1)] [(nthZ zs i0), (nthZ zs i1)] = some (nthZ zs i2) := Iff.rfl
theorem s_det_strength {i0 i1 : Nat} : SnOk fs zs (1172, [0, i0, i1], []) ↔ dEv 1169 [] [(nthZ zs i0)] = some (nthZ zs i1) := Iff.rfl
theorem s_det_heapBegin {i0 i1 : Nat} : SnOk fs zs (1173, [0, i0, i1], []) ↔ dEv 1170 [] [(nthZ zs i0)] = some (nthZ zs i1) := Iff.rfl
theorem s_det_isDigit {i0 i1 : Nat} : SnOk fs zs (1174, [0, i0, i1], []) ↔ dEv 1171 [] [(nthZ zs i0)] = some (nthZ zs i1) := Iff.rfl
end
def q_detE_isName : qRl := ([(1034, [1, 0, 0, 1, 2], []), (1034, [1, 0, 3, 4, 5], []), sp 0 [(0, 1), (3, (-1))], sp 0 [(3, 1), (0, (-1))], sp 0 [(1, 1), (4, (-1))], sp 0 [(4, 1), (1, (-1))]], [sp 0 [(2, 1), (5, (-1))], sp 0 [(5, 1), (2, (-1))]])
theorem q_detE_isName_ok : RlOk q_detE_isName := by
  intro fs zs h x hx
  obtain ⟨P0, h⟩ := snAll h
  replace P0 := s_det_isName.mp P0
  obtain ⟨P1, h⟩ := snAll h
  replace P1 := s_det_isName.mp P1
  obtain ⟨P2, h⟩ := snAll h
  replace P2 := sp_2.mp P2
  obtain ⟨P3, h⟩ := snAll h
  replace P3 := sp_2.mp P3
  obtain ⟨P4, h⟩ := snAll h
  replace P4 := sp_2.mp P4
  obtain ⟨P5, h⟩ := snAll h
  replace P5 := sp_2.mp P5
  have L : ((nthZ zs 5) ≤ (nthZ zs 2)) ∧ ((nthZ zs 2) ≤ (nthZ zs 5)) := by
    apply M_detE_isName (F0 := nthF fs 0) (N0 := nthZ zs 0) (N1 := nthZ zs 1) (N2 := nthZ zs 2) (N3 := nthZ zs 3) (N4 := nthZ zs 4) (N5 := nthZ zs 5) <;> first | assumption | omega
  obtain ⟨L0, L1⟩ := L
  rcases List.mem_cons.mp hx with hx | hx
  · rw [hx]; refine sp_2.mpr ?_; omega
  rcases List.mem_cons.mp hx with hx | hx
  · rw [hx]; refine sp_2.mpr ?_; omega
  · cases hx
def q_detE_isSign : qRl := ([(1035, [2, 0, 1, 0, 1, 2, 3], []), (1035, [2, 0, 1, 4, 5, 6, 7], []), sp 0 [(0, 1), (4, (-1))], sp 0 [(4, 1), (0, (-1))], sp 0 [(1, 1), (5, (-1))], sp 0 [(5, 1), (1, (-1))], sp 0 [(2, 1), (6, (-1))], sp 0 [(6, 1), (2, (-1))]], [sp 0 [(3, 1), (7, (-1))], sp 0 [(7, 1), (3, (-1))]])
theorem q_detE_isSign_ok : RlOk q_detE_isSign := by
  intro fs zs h x hx
  obtain ⟨P0, h⟩ := snAll h
  replace P0 := s_det_isSign.mp P0
  obtain ⟨P1, h⟩ := snAll h
  replace P1 := s_det_isSign.mp P1
  obtain ⟨P2, h⟩ := snAll h
  replace P2 := sp_2.mp P2
  obtain ⟨P3, h⟩ := snAll h
  replace P3 := sp_2.mp P3
  obtain ⟨P4, h⟩ := snAll h
  replace P4 := sp_2.mp P4
  obtain ⟨P5, h⟩ := snAll h
  replace P5 := sp_2.mp P5
  obtain ⟨P6, h⟩ := snAll h
  replace P6 := sp_2.mp P6
  obtain ⟨P7, h⟩ := snAll h
  replace P7 := sp_2.mp P7
  have L : ((nthZ zs 7) ≤ (nthZ zs 3)) ∧ ((nthZ zs 3) ≤ (nthZ zs 7)) := by
    apply M_detE_isSign (F0 := nthF fs 0) (F1 := nthF fs 1) (N0 := nthZ zs 0) (N1 := nthZ zs 1) (N2 := nthZ zs 2) (N3 := nthZ zs 3) (N4 := nthZ zs 4) (N5 := nthZ zs 5) (N6 := nthZ zs 6) (N7 := nthZ zs 7) <;> first | assumption | omega
  obtain ⟨L0, L1⟩ := L
  rcases List.mem_cons.mp hx with hx | hx
  · rw [hx]; refine sp_2.mpr ?_; omega
  rcases List.mem_cons.mp hx with hx | hx
  · rw [hx]; refine sp_2.mpr ?_; omega
  · cases hx

theorem M_exI {F0 : Int → Int} {N0 N1 N2 N3 N4 : Int} (H0 : F0 N3 = N4) (H1 : N0 ≤ N3) (H2 : N3 + 1 ≤ N1) (H3 : N4 = N2) : eEx (F0) (N0) (N1) (N2) := by
  exact ⟨N3, H1, by omega, by omega⟩
theorem M_exN8 {F0 : Int → Int} {N0 N1 N2 N3 N4 N5 : Int} (H0 : eEx (F0) (N0) (N1) (N2)) (H1 : ∀ x : Int, N3 ≤ x → x < N4 → ((0 ≤ -1+(-1)*N5+(1)*F0 (x)) ∨ (0 ≤ -1+(1)*N5+(-1)*F0 (x)))) (H2 : N3 ≤ N0) (H3 : N5 = N2) : N4 + 1 ≤ N1 := by
  obtain ⟨x, a, b, c⟩ := H0
  apply Classical.byContradiction
  intro d
  have := H1 x (by omega) (by omega)
  omega
theorem M_cs0 {F0 : Int → Int} {N0 N1 N2 N3 N4 : Int} (H0 : F0 N0 = N4) (H1 : 32 ≤ N4) (H2 : N4 ≤ 126) (H3 : N4 + 1 ≤ N2) (H4 : N4 ≤ 91) (H5 : N0 + 1 ≤ N3) (H6 : N1 = N0 + 1) : eCst (F0) (N0) (N1) (N2) (N3) := by
  subst_vars
  unfold eCst at *
  omega
theorem M_cs2 {F0 : Int → Int} {N0 N1 N2 N3 N4 : Int} (H0 : F0 N0 = N4) (H1 : 32 ≤ N4) (H2 : N4 ≤ 126) (H3 : N2 + 1 ≤ N4) (H4 : N4 ≤ 91) (H5 : N0 + 1 ≤ N3) (H6 : N1 = N0 + 1) : eCst (F0) (N0) (N1) (N2) (N3) := by
  subst_vars
  unfold eCst at *
  omega
theorem M_cs3 {F0 : Int → Int} {N0 N1 N2 N3 N4 : Int} (H0 : F0 N0 = N4) (H1 : 32 ≤ N4) (H2 : N4 ≤ 126) (H3 : N2 + 1 ≤ N4) (H4 : 93 ≤ N4) (H5 : N0 + 1 ≤ N3) (H6 : N1 = N0 + 1) : eCst (F0) (N0) (N1) (N2) (N3) := by
  subst_vars
  unfold eCst at *
  omega
theorem M_cs4 {F0 : Int → Int} {N0 N1 N2 N3 N4 N5 N6 : Int} (H0 : F0 N0 = N4) (H1 : N4 = 92) (H2 : N2 ≤ 91) (H3 : N0 + 2 ≤ N3) (H4 : N5 = N0 + 1) (H5 : F0 N5 = N6) (H6 : 32 ≤ N6) (H7 : N6 ≤ 126) (H8 : N1 = N0 + 2) : eCst (F0) (N0) (N1) (N2) (N3) := by
  subst_vars
  unfold eCst at *
  omega
theorem M_ns0 {F0 : Int → Int} {N0 N1 N2 : Int} (H0 : N2 ≤ N0) : eNst (F0) (N0) (N1) (N2) := by
  subst_vars
  unfold eNst at *
  omega
theorem M_ns1 {F0 : Int → Int} {N0 N1 N2 N3 N4 : Int} (H0 : F0 N0 = N4) (H1 : N4 = N1) : eNst (F0) (N0) (N1) (N2) := by
  subst_vars
  unfold eNst at *
  omega
theorem M_ns2 {F0 : Int → Int} {N0 N1 N2 N3 N4 : Int} (H0 : F0 N0 = N4) (H1 : N4 ≤ 31) : eNst (F0) (N0) (N1) (N2) := by
  subst_vars
  unfold eNst at *
  omega
theorem M_ns3 {F0 : Int → Int} {N0 N1 N2 N3 N4 : Int} (H0 : F0 N0 = N4) (H1 : 127 ≤ N4) : eNst (F0) (N0) (N1) (N2) := by
  subst_vars
  unfold eNst at *
  omega
theorem M_ns4 {F0 : Int → Int} {N0 N1 N2 N3 N4 : Int} (H0 : F0 N0 = N4) (H1 : N4 = 92) (H2 : N2 ≤ N0 + 1) : eNst (F0) (N0) (N1) (N2) := by
  subst_vars
  unfold eNst at *
  omega
theorem M_ns5 {F0 : Int → Int} {N0 N1 N2 N3 N4 N5 N6 : Int} (H0 : F0 N0 = N4) (H1 : N4 = 92) (H2 : N5 = N0 + 1) (H3 : F0 N5 = N6) (H4 : N6 ≤ 31) : eNst (F0) (N0) (N1) (N2) := by
  subst_vars
  unfold eNst at *
  omega
theorem M_ns6 {F0 : Int → Int} {N0 N1 N2 N3 N4 N5 N6 : Int} (H0 : F0 N0 = N4) (H1 : N4 = 92) (H2 : N5 = N0 + 1) (H3 : F0 N5 = N6) (H4 : 127 ≤ N6) : eNst (F0) (N0) (N1) (N2) := by
  subst_vars
  unfold eNst at *
  omega
theorem M_wk0 {F0 : Int → Int} {N0 N1 N2 N3 : Int} (H0 : N1 = N0) : eWk (F0) (N0) (N1) (N2) (N3) := by
  exact Or.inr ⟨0, H0.symm⟩
theorem M_wkG {F0 : Int → Int} {N0 N1 N2 N3 : Int} (H0 : 1 ≤ N3) : eWk (F0) (N0) (N1) (N2) (N3) := by
  exact Or.inl H0
theorem M_wkS {F0 : Int → Int} {N0 N1 N2 N3 N4 N5 N6 : Int} (H0 : eWk (F0) (N0) (N4) (N2) (N5)) (H1 : N5 ≤ 0) (H2 : eCst (F0) (N4) (N1) (N6) (N2)) (H3 : N6 = 34) : eWk (F0) (N0) (N1) (N2) (N3) := by
  rcases H0 with h | ⟨k, h⟩
  · omega
  · subst H3; exact Or.inr ⟨k + 1, N4, h, H2⟩
theorem M_tk0 {F0 : Int → Int} {N0 N1 N2 N3 : Int} (H0 : N0 ≤ 2) : eTk3 (F0) (N0) (N1) (N2) (N3) := by
  exact Or.inl (by omega)
theorem M_tk1 {F0 : Int → Int} {N0 N1 N2 N3 : Int} (H0 : 4 ≤ N0) : eTk3 (F0) (N0) (N1) (N2) (N3) := by
  exact Or.inl (by omega)
theorem M_tk2 {F0 : Int → Int} {N0 N1 N2 N3 N4 N5 N6 N7 : Int} (H0 : N4 = N1 + 1) (H1 : eWk (F0) (N4) (N5) (N3) (N6)) (H2 : N6 ≤ 0) (H3 : N5 = N2 + -1) (H4 : F0 N5 = N7) (H5 : N7 = 34) (H6 : N2 ≤ N3) : eTk3 (F0) (N0) (N1) (N2) (N3) := by
  rcases H1 with h | ⟨k, h⟩
  · omega
  · subst H0; exact Or.inr ⟨k, N5, h, by omega, by omega, H6⟩
theorem M_tx0 {F0 F1 F2 F3 : Int → Int} {N0 N1 : Int} (H0 : N0 ≤ 0) : eTxt (F0) (F1) (F2) (F3) (N0) (N1) := by
  intro j a b; omega
theorem M_txA {F0 F1 F2 F3 F4 : Int → Int} {N0 N1 N2 N3 : Int} (H0 : ∀ x : Int, F4 x = if x = N2 then N3 else F0 x) (H1 : eTxt (F0) (F1) (F2) (F3) (N0) (N1)) (H2 : N0 ≤ N2) : eTxt (F4) (F1) (F2) (F3) (N0) (N1) := by
  intro j a b
  rw [H0 j, if_neg (by omega)]; exact H1 j a b
theorem M_txB {F0 F1 F2 F3 F4 : Int → Int} {N0 N1 N2 N3 : Int} (H0 : ∀ x : Int, F4 x = if x = N2 then N3 else F1 x) (H1 : eTxt (F0) (F1) (F2) (F3) (N0) (N1)) (H2 : N0 ≤ N2) : eTxt (F0) (F4) (F2) (F3) (N0) (N1) := by
  intro j a b
  rw [H0 j, if_neg (by omega)]; exact H1 j a b
theorem M_txC {F0 F1 F2 F3 F4 : Int → Int} {N0 N1 N2 N3 : Int} (H0 : ∀ x : Int, F4 x = if x = N2 then N3 else F2 x) (H1 : eTxt (F0) (F1) (F2) (F3) (N0) (N1)) (H2 : N0 ≤ N2) : eTxt (F0) (F1) (F4) (F3) (N0) (N1) := by
  intro j a b
  rw [H0 j, if_neg (by omega)]; exact H1 j a b
theorem M_txE {F0 F1 F2 F3 : Int → Int} {N0 N1 N2 N3 N4 N5 N6 N7 N8 : Int} (H0 : eTxt (F0) (F1) (F2) (F3) (N4) (N1)) (H1 : N4 = N0 + -1) (H2 : F0 N4 = N5) (H3 : F1 N4 = N6) (H4 : 0 ≤ N6) (H5 : F2 N4 = N7) (H6 : N8 = N6 + N7) (H7 : eTk3 (F3) (N5) (N6) (N8) (N1)) : eTxt (F0) (F1) (F2) (F3) (N0) (N1) := by
  intro j a b
  by_cases c : j = N4
  · subst c; rw [H2, H3, H5, ← H6]; exact ⟨H4, H7⟩
  · exact H0 j a (by omega)
theorem M_tl0 {F0 F1 : Int → Int} {N0 N1 N2 N3 N4 : Int} (H0 : F0 N0 = N4) (H1 : N4 = N1 + -1) (H2 : N2 = 0) : eTls (F0) (F1) (N0) (N1) (N2) (N3) := by
  exact ⟨0, by omega, show F0 N0 + 1 = N1 by omega⟩
theorem M_tlS {F0 F1 : Int → Int} {N0 N1 N2 N3 N4 N5 N6 : Int} (H0 : eTls (F0) (F1) (N0) (N4) (N5) (N3)) (H1 : eCst (F1) (N4) (N1) (N6) (N3)) (H2 : N6 = 34) (H3 : N5 = N2 + -1) : eTls (F0) (F1) (N0) (N1) (N2) (N3) := by
  obtain ⟨k, h1, h2⟩ := H0
  subst H2; exact ⟨k + 1, by omega, N4, h2, H1⟩
theorem M_tB {F0 F1 F2 F3 : Int → Int} {N0 N1 N2 N3 N4 N5 N6 N7 N8 N9 N10 : Int} (H0 : eTxt (F0) (F1) (F2) (F3) (N0) (N1)) (H1 : eTls (F1) (F3) (N2) (N3) (N4) (N1)) (H2 : ∀ x : Int, N5 ≤ x → x < N6 → ((0 ≤ 0+(-1)*N7+(1)*F0 (x)))) (H3 : N5 = N2) (H4 : N2 + 1 ≤ N6) (H5 : 3 ≤ N7) (H6 : ∀ x, N8 ≤ x → x < N9 → (F0 x ≤ N10)) (H7 : N8 = N2) (H8 : N2 + 1 ≤ N9) (H9 : N10 ≤ 3) (H10 : 0 ≤ N2) (H11 : N2 + 1 ≤ N0) : (N3 + 1 ≤ N1) ∧ (N4 + 1 ≤ N3) ∧ (0 ≤ N4) := by
  have e : F0 N2 = 3 := by have := H2 N2 (by omega) (by omega); have := H6 N2 (by omega) (by omega); omega
  obtain ⟨s0, tk⟩ := H0 N2 H10 (by omega)
  rw [e] at tk
  obtain ⟨k, h1, h2⟩ := H1
  have w := eTk_go tk h2
  have l := eIt_le eSt_i h2
  omega
theorem M_tN0 {F0 F1 F2 F3 : Int → Int} {N0 N1 N2 N3 N4 N5 N6 N7 N8 N9 N10 N11 N12 : Int} (H0 : eTxt (F0) (F1) (F2) (F3) (N0) (N1)) (H1 : eTls (F1) (F3) (N2) (N3) (N4) (N1)) (H2 : ∀ x : Int, N5 ≤ x → x < N6 → ((0 ≤ 0+(-1)*N7+(1)*F0 (x)))) (H3 : N5 = N2) (H4 : N2 + 1 ≤ N6) (H5 : 3 ≤ N7) (H6 : ∀ x, N8 ≤ x → x < N9 → (F0 x ≤ N10)) (H7 : N8 = N2) (H8 : N2 + 1 ≤ N9) (H9 : N10 ≤ 3) (H10 : 0 ≤ N2) (H11 : N2 + 1 ≤ N0) (H12 : F3 N3 = N11) (H13 : N11 ≤ 33) (H14 : eNst (F3) (N3) (N12) (N1)) (H15 : N12 = 34) : 1 ≤ 0 := by
  exfalso
  have e : F0 N2 = 3 := by have := H2 N2 (by omega) (by omega); have := H6 N2 (by omega) (by omega); omega
  obtain ⟨s0, tk⟩ := H0 N2 H10 (by omega)
  rw [e] at tk
  obtain ⟨k, h1, h2⟩ := H1
  have w := eTk_go tk h2
  have l := eIt_le eSt_i h2
  subst H15
  by_cases c : N3 + 1 = F1 N2 + F2 N2
  · have := w.2.2.2 c; omega
  · obtain ⟨m, q⟩ := w.2.2.1 (by omega); exact (eSt_q q).2 H14
theorem M_tN1 {F0 F1 F2 F3 : Int → Int} {N0 N1 N2 N3 N4 N5 N6 N7 N8 N9 N10 N11 N12 : Int} (H0 : eTxt (F0) (F1) (F2) (F3) (N0) (N1)) (H1 : eTls (F1) (F3) (N2) (N3) (N4) (N1)) (H2 : ∀ x : Int, N5 ≤ x → x < N6 → ((0 ≤ 0+(-1)*N7+(1)*F0 (x)))) (H3 : N5 = N2) (H4 : N2 + 1 ≤ N6) (H5 : 3 ≤ N7) (H6 : ∀ x, N8 ≤ x → x < N9 → (F0 x ≤ N10)) (H7 : N8 = N2) (H8 : N2 + 1 ≤ N9) (H9 : N10 ≤ 3) (H10 : 0 ≤ N2) (H11 : N2 + 1 ≤ N0) (H12 : F3 N3 = N11) (H13 : 35 ≤ N11) (H14 : eNst (F3) (N3) (N12) (N1)) (H15 : N12 = 34) : 1 ≤ 0 := by
  exfalso
  have e : F0 N2 = 3 := by have := H2 N2 (by omega) (by omega); have := H6 N2 (by omega) (by omega); omega
  obtain ⟨s0, tk⟩ := H0 N2 H10 (by omega)
  rw [e] at tk
  obtain ⟨k, h1, h2⟩ := H1
  have w := eTk_go tk h2
  have l := eIt_le eSt_i h2
  subst H15
  by_cases c : N3 + 1 = F1 N2 + F2 N2
  · have := w.2.2.2 c; omega
  · obtain ⟨m, q⟩ := w.2.2.1 (by omega); exact (eSt_q q).2 H14
theorem M_tE {F0 F1 F2 F3 : Int → Int} {N0 N1 N2 N3 N4 N5 N6 N7 N8 N9 N10 N11 N12 : Int} (H0 : eTxt (F0) (F1) (F2) (F3) (N0) (N1)) (H1 : eTls (F1) (F3) (N2) (N3) (N4) (N1)) (H2 : ∀ x : Int, N5 ≤ x → x < N6 → ((0 ≤ 0+(-1)*N7+(1)*F0 (x)))) (H3 : N5 = N2) (H4 : N2 + 1 ≤ N6) (H5 : 3 ≤ N7) (H6 : ∀ x, N8 ≤ x → x < N9 → (F0 x ≤ N10)) (H7 : N8 = N2) (H8 : N2 + 1 ≤ N9) (H9 : N10 ≤ 3) (H10 : 0 ≤ N2) (H11 : N2 + 1 ≤ N0) (H12 : F3 N3 = N11) (H13 : N11 = 34) (H14 : N12 = N4) : eTle (F1) (F2) (F3) (N2) (N12) (N1) := by
  have e : F0 N2 = 3 := by have := H2 N2 (by omega) (by omega); have := H6 N2 (by omega) (by omega); omega
  obtain ⟨s0, tk⟩ := H0 N2 H10 (by omega)
  rw [e] at tk
  obtain ⟨k, h1, h2⟩ := H1
  have w := eTk_go tk h2
  have l := eIt_le eSt_i h2
  refine ⟨k, N3, by omega, h2, by omega, ?_⟩
  by_cases c : N3 + 1 = F1 N2 + F2 N2
  · omega
  · obtain ⟨m, q⟩ := w.2.2.1 (by omega); exact absurd (by omega) (eSt_q q).1
theorem M_rsG {F0 F1 : Int → Int} {N0 N1 : Int} (H0 : 1 ≤ N1) : eRs (F0) (F1) (N0) (N1) := by
  exact Or.inl H0
theorem M_rsI {F0 F1 : Int → Int} {N0 N1 N2 N3 N4 N5 N6 : Int} (H0 : eRs (F0) (F1) (N0) (N6)) (H1 : N6 ≤ 0) (H2 : F0 N1 = N2) (H3 : F0 N3 = N4) (H4 : 0 ≤ N1) (H5 : N1 + 1 ≤ N3) (H6 : N3 ≤ N0) (H7 : F1 N1 = N5) : (N2 + N5 + N3 ≤ N4 + N1 + 1) ∧ (1 ≤ N5) := by
  rcases H0 with h | h
  · omega
  · have := eRs_to h H4 (show N1 < N3 by omega) H6; omega
theorem M_rl0 {F0 F1 : Int → Int} {N0 N1 N2 : Int} (H0 : N0 ≤ 0) : eRl (F0) (F1) (N0) (N1) (N2) := by
  exact Or.inr ⟨fun j a b => by omega, fun j a b => by omega⟩
theorem M_rlZ {F0 F1 : Int → Int} {N0 N1 N2 N3 N4 : Int} (H0 : eRl (F0) (F1) (N0) (N3) (N4)) (H1 : N4 ≤ 0) (H2 : N3 ≤ N1) : eRl (F0) (F1) (N0) (N1) (N2) := by
  rcases H0 with h | ⟨h, g⟩
  · omega
  · exact Or.inr ⟨fun j a b => by have := h j a b; omega, g⟩
theorem M_rlE {F0 F1 : Int → Int} {N0 N1 N2 N3 N4 N5 N6 N7 : Int} (H0 : eRl (F0) (F1) (N3) (N4) (N5)) (H1 : N3 = N0 + -1) (H2 : N5 ≤ 0) (H3 : F0 N3 = N6) (H4 : F1 N3 = N7) (H5 : N4 ≤ N6) (H6 : 1 ≤ N2 + N7) (H7 : N6 + N7 ≤ N1) : eRl (F0) (F1) (N0) (N1) (N2) := by
  by_cases s : 1 ≤ N2
  · exact Or.inl s
  rcases H0 with h | ⟨h, g⟩
  · omega
  refine Or.inr ⟨fun j a b => ?_, fun j a b => ?_⟩
  · by_cases c : j = N3
    · subst c; omega
    · have := h j a (by omega); omega
  · by_cases c : j + 1 = N3
    · rw [c]; have := h j a (by omega); omega
    · exact g j a (by omega)
theorem M_rlA {F0 F1 F2 : Int → Int} {N0 N1 N2 N3 N4 : Int} (H0 : ∀ x : Int, F2 x = if x = N3 then N4 else F0 x) (H1 : eRl (F0) (F1) (N0) (N1) (N2)) (H2 : N0 ≤ N3) : eRl (F2) (F1) (N0) (N1) (N2) := by
  rcases H1 with h | ⟨h, g⟩
  · exact Or.inl h
  refine Or.inr ⟨fun j a b => ?_, fun j a b => ?_⟩
  · rw [H0 j, if_neg (by omega)]; exact h j a b
  · rw [H0 j, H0 (j + 1), if_neg (by omega), if_neg (by omega)]; exact g j a b
theorem M_rlB {F0 F1 F2 : Int → Int} {N0 N1 N2 N3 N4 : Int} (H0 : ∀ x : Int, F2 x = if x = N3 then N4 else F1 x) (H1 : eRl (F0) (F1) (N0) (N1) (N2)) (H2 : N0 ≤ N3) : eRl (F0) (F2) (N0) (N1) (N2) := by
  rcases H1 with h | ⟨h, g⟩
  · exact Or.inl h
  refine Or.inr ⟨fun j a b => ?_, fun j a b => ?_⟩
  · rw [H0 j, if_neg (by omega)]; exact h j a b
  · rw [H0 j, if_neg (by omega)]; exact g j a b
theorem M_rlF {F0 F1 : Int → Int} {N0 N1 N2 N3 N4 : Int} (H0 : eRl (F0) (F1) (N0) (N2) (N3)) (H1 : N3 ≤ 0) (H2 : F0 N0 = N4) (H3 : N2 ≤ N4) : eRs (F0) (F1) (N0) (N1) := by
  rcases H0 with h | ⟨h, g⟩
  · omega
  refine Or.inr (fun j a b => ?_)
  have q := h j a b
  by_cases c : j + 1 = N0
  · rw [c]; omega
  · exact ⟨q.1, g j a (by omega)⟩
theorem M_rsG5 {F0 F1 : Int → Int} {N0 N1 N2 N3 N4 N5 N6 N7 : Int} (H0 : eRs (F0) (F1) (N4) (N5)) (H1 : N5 ≤ 0) (H2 : F0 N6 = N7) (H3 : 0 ≤ N6) (H4 : N6 + 1 ≤ N0) (H5 : N1 ≤ N0 + 1) (H6 : N0 ≤ N3 + N4 + 1) (H7 : N2 ≤ N7 + 1) : ∀ x, N0 ≤ x → x < N1 → (N2 ≤ F0 x ∨ 0 ≤ N3) := by
  intro x a b
  by_cases s : 0 ≤ N3
  · exact Or.inr s
  rcases H0 with h | h
  · omega
  have := eRs_to h H3 (show N6 < x by omega) (by omega)
  left; omega
theorem M_rsG6 {F0 F1 : Int → Int} {N0 N1 N2 N3 N4 N5 N6 N7 N8 : Int} (H0 : eRs (F0) (F1) (N4) (N5)) (H1 : N5 ≤ 0) (H2 : ∀ x : Int, N6 ≤ x → x < N7 → ((0 ≤ 0+(-1)*N8+(1)*F0 (x)))) (H3 : N6 + 1 ≤ N7) (H4 : 0 ≤ N6) (H5 : N6 + 1 ≤ N0) (H6 : N1 ≤ N0 + 1) (H7 : N0 ≤ N3 + N4 + 1) (H8 : N2 ≤ N8 + 1) : ∀ x, N0 ≤ x → x < N1 → (N2 ≤ F0 x ∨ 0 ≤ N3) := by
  intro x a b
  by_cases s : 0 ≤ N3
  · exact Or.inr s
  rcases H0 with h | h
  · omega
  have := eRs_to h H4 (show N6 < x by omega) (by omega)
  have := H2 N6 (by omega) (by omega)
  left; omega
/-! TEXTS, TOKENS THAT RISE: what is said and the rules, over plain functions (nothing of the kit in it): the rules (written by wip/p2/grp.py) -/
theorem s_nev {fs : List (Int → Int)} {zs : List Int} {a0 i0 i1 i2 : Nat} : SnOk fs zs (25, [1, a0, i0, i1, i2], []) ↔ ∀ x : Int, nthZ zs i0 ≤ x → x < nthZ zs i1 → ((0 ≤ -1+(-1)*nthZ zs i2+(1)*nthF fs a0 (x)) ∨ (0 ≤ -1+(1)*nthZ zs i2+(-1)*nthF fs a0 (x))) := by
  show fOk ((1, 3), ([(0, 1, 0, [], [])], [((-1), 0, [(2, (-1))], [(0, 1)]), ((-1), 0, [(2, 1)], [(0, (-1))])])) [nthF fs a0] [nthZ zs i0, nthZ zs i1, nthZ zs i2] ↔ _
  have e0 : ∀ x : Int, (0 : Int) + 1 * x + 0 + 0 = x := fun x => by omega
  constructor
  · intro h x h1 h2
    obtain ⟨l0, hl, q⟩ := h x h1 h2
    rcases List.mem_cons.mp hl with hl | hl
    · subst hl; replace q : 0 ≤ ((-1) : Int) + 0 * x + ((-1) * nthZ zs i2 + 0) + (1 * nthF fs a0 ((0 : Int) + 1 * x + 0 + 0) + 0) := q; try simp only [e0] at q
      left; omega
    · skip
      rcases List.mem_cons.mp hl with hl | hl
      · subst hl; replace q : 0 ≤ ((-1) : Int) + 0 * x + (1 * nthZ zs i2 + 0) + ((-1) * nthF fs a0 ((0 : Int) + 1 * x + 0 + 0) + 0) := q; try simp only [e0] at q
        right; omega
      · cases hl
  · intro h x h1 h2
    have q := h x h1 h2
    rcases q with q | q
    · refine ⟨_, (List.mem_cons_self), ?_⟩; show 0 ≤ ((-1) : Int) + 0 * x + ((-1) * nthZ zs i2 + 0) + (1 * nthF fs a0 ((0 : Int) + 1 * x + 0 + 0) + 0)
      try simp only [e0]
      omega
    · refine ⟨_, (List.mem_cons_of_mem _ (List.mem_cons_self)), ?_⟩; show 0 ≤ ((-1) : Int) + 0 * x + (1 * nthZ zs i2 + 0) + ((-1) * nthF fs a0 ((0 : Int) + 1 * x + 0 + 0) + 0)
      try simp only [e0]
      omega
section
variable {fs : List (Int → Int)} {zs : List Int}
theorem s_ex {a0 i0 i1 i2 : Nat} : SnOk fs zs (1019, [1, a0, i0, i1, i2], []) ↔ eEx (nthF fs a0) (nthZ zs i0) (nthZ zs i1) (nthZ zs i2) := Iff.rfl
theorem s_cst {a0 i0 i1 i2 i3 : Nat} : SnOk fs zs (1037, [1, a0, i0, i1, i2, i3], []) ↔ eCst (nthF fs a0) (nthZ zs i0) (nthZ zs i1) (nthZ zs i2) (nthZ zs i3) := Iff.rfl
theorem s_nst {a0 i0 i1 i2 : Nat} : SnOk fs zs (1038, [1, a0, i0, i1, i2], []) ↔ eNst (nthF fs a0) (nthZ zs i0) (nthZ zs i1) (nthZ zs i2) := Iff.rfl
theorem s_wk {a0 i0 i1 i2 i3 : Nat} : SnOk fs zs (1039, [1, a0, i0, i1, i2, i3], []) ↔ eWk (nthF fs a0) (nthZ zs i0) (nthZ zs i1) (nthZ zs i2) (nthZ zs i3) := Iff.rfl
theorem s_tk3 {a0 i0 i1 i2 i3 : Nat} : SnOk fs zs (1041, [1, a0, i0, i1, i2, i3], []) ↔ eTk3 (nthF fs a0) (nthZ zs i0) (nthZ zs i1) (nthZ zs i2) (nthZ zs i3) := Iff.rfl
theorem s_txt {a0 a1 a2 a3 i0 i1 : Nat} : SnOk fs zs (1042, [4, a0, a1, a2, a3, i0, i1], []) ↔ eTxt (nthF fs a0) (nthF fs a1) (nthF fs a2) (nthF fs a3) (nthZ zs i0) (nthZ zs i1) := Iff.rfl
theorem s_tls {a0 a1 i0 i1 i2 i3 : Nat} : SnOk fs zs (1040, [2, a0, a1, i0, i1, i2, i3], []) ↔ eTls (nthF fs a0) (nthF fs a1) (nthZ zs i0) (nthZ zs i1) (nthZ zs i2) (nthZ zs i3) := Iff.rfl
theorem s_tle {a0 a1 a2 i0 i1 i2 : Nat} : SnOk fs zs (1043, [3, a0, a1, a2, i0, i1, i2], []) ↔ eTle (nthF fs a0) (nthF fs a1) (nthF fs a2) (nthZ zs i0) (nthZ zs i1) (nthZ zs i2) := Iff.rfl
theorem s_rs {a0 a1 i0 i1 : Nat} : SnOk fs zs (1044, [2, a0, a1, i0, i1], []) ↔ eRs (nthF fs a0) (nthF fs a1) (nthZ zs i0) (nthZ zs i1) := Iff.rfl
theorem s_rl {a0 a1 i0 i1 i2 : Nat} : SnOk fs zs (1045, [2, a0, a1, i0, i1, i2], []) ↔ eRl (nthF fs a0) (nthF fs a1) (nthZ zs i0) (nthZ zs i1) (nthZ zs i2) := Iff.rfl
end
def q_exI : qRl := ([(1, [0, 3, 4], []), sp 0 [(3, 1), (0, (-1))], sp (-1) [(1, 1), (3, (-1))], sp 0 [(4, 1), (2, (-1))], sp 0 [(2, 1), (4, (-1))]], [(1019, [1, 0, 0, 1, 2], [])])
theorem q_exI_ok : RlOk q_exI := by
  intro fs zs h x hx
  obtain ⟨P0, h⟩ := snAll h
  replace P0 := s_rd.mp P0
  obtain ⟨P1, h⟩ := snAll h
  replace P1 := sp_2.mp P1
  obtain ⟨P2, h⟩ := snAll h
  replace P2 := sp_2.mp P2
  obtain ⟨P3, h⟩ := snAll h
  replace P3 := sp_2.mp P3
  obtain ⟨P4, h⟩ := snAll h
  replace P4 := sp_2.mp P4
  have L : eEx ((nthF fs 0)) ((nthZ zs 0)) ((nthZ zs 1)) ((nthZ zs 2)) := by
    apply M_exI (F0 := nthF fs 0) (N0 := nthZ zs 0) (N1 := nthZ zs 1) (N2 := nthZ zs 2) (N3 := nthZ zs 3) (N4 := nthZ zs 4) <;> first | assumption | omega
  rcases List.mem_cons.mp hx with hx | hx
  · rw [hx]; refine s_ex.mpr ?_; exact L
  · cases hx
def q_exN8 : qRl := ([(1019, [1, 0, 0, 1, 2], []), (25, [1, 0, 3, 4, 5], []), sp 0 [(0, 1), (3, (-1))], sp 0 [(2, 1), (5, (-1))], sp 0 [(5, 1), (2, (-1))]], [sp (-1) [(1, 1), (4, (-1))]])
theorem q_exN8_ok : RlOk q_exN8 := by
  intro fs zs h x hx
  obtain ⟨P0, h⟩ := snAll h
  replace P0 := s_ex.mp P0
  obtain ⟨P1, h⟩ := snAll h
  replace P1 := s_nev.mp P1
  obtain ⟨P2, h⟩ := snAll h
  replace P2 := sp_2.mp P2
  obtain ⟨P3, h⟩ := snAll h
  replace P3 := sp_2.mp P3
  obtain ⟨P4, h⟩ := snAll h
  replace P4 := sp_2.mp P4
  have L : (nthZ zs 4) + 1 ≤ (nthZ zs 1) := by
    apply M_exN8 (F0 := nthF fs 0) (N0 := nthZ zs 0) (N1 := nthZ zs 1) (N2 := nthZ zs 2) (N3 := nthZ zs 3) (N4 := nthZ zs 4) (N5 := nthZ zs 5) <;> first | assumption | omega
  rcases List.mem_cons.mp hx with hx | hx
  · rw [hx]; refine sp_2.mpr ?_; omega
  · cases hx
def q_cs0 : qRl := ([(1, [0, 0, 4], []), sp (-32) [(4, 1)], sp 126 [(4, (-1))], sp (-1) [(2, 1), (4, (-1))], sp 91 [(4, (-1))], sp (-1) [(3, 1), (0, (-1))], sp (-1) [(1, 1), (0, (-1))], sp 1 [(0, 1), (1, (-1))]], [(1037, [1, 0, 0, 1, 2, 3], [])])
theorem q_cs0_ok : RlOk q_cs0 := by
  intro fs zs h x hx
  obtain ⟨P0, h⟩ := snAll h
  replace P0 := s_rd.mp P0
  obtain ⟨P1, h⟩ := snAll h
  replace P1 := sp_1.mp P1
  obtain ⟨P2, h⟩ := snAll h
  replace P2 := sp_1.mp P2
  obtain ⟨P3, h⟩ := snAll h
  replace P3 := sp_2.mp P3
  obtain ⟨P4, h⟩ := snAll h
  replace P4 := sp_1.mp P4
  obtain ⟨P5, h⟩ := snAll h
  replace P5 := sp_2.mp P5
  obtain ⟨P6, h⟩ := snAll h
  replace P6 := sp_2.mp P6
  obtain ⟨P7, h⟩ := snAll h
  replace P7 := sp_2.mp P7
  have L : eCst ((nthF fs 0)) ((nthZ zs 0)) ((nthZ zs 1)) ((nthZ zs 2)) ((nthZ zs 3)) := by
    apply M_cs0 (F0 := nthF fs 0) (N0 := nthZ zs 0) (N1 := nthZ zs 1) (N2 := nthZ zs 2) (N3 := nthZ zs 3) (N4 := nthZ zs 4) <;> first | assumption | omega
  rcases List.mem_cons.mp hx with hx | hx
  · rw [hx]; refine s_cst.mpr ?_; exact L
  · cases hx
def q_cs2 : qRl := ([(1, [0, 0, 4], []), sp (-32) [(4, 1)], sp 126 [(4, (-1))], sp (-1) [(4, 1), (2, (-1))], sp 91 [(4, (-1))], sp (-1) [(3, 1), (0, (-1))], sp (-1) [(1, 1), (0, (-1))], sp 1 [(0, 1), (1, (-1))]], [(1037, [1, 0, 0, 1, 2, 3], [])])
theorem q_cs2_ok : RlOk q_cs2 := by
  intro fs zs h x hx
  obtain ⟨P0, h⟩ := snAll h
  replace P0 := s_rd.mp P0
  obtain ⟨P1, h⟩ := snAll h
  replace P1 := sp_1.mp P1
  obtain ⟨P2, h⟩ := snAll h
  replace P2 := sp_1.mp P2
  obtain ⟨P3, h⟩ := snAll h
  replace P3 := sp_2.mp P3
  obtain ⟨P4, h⟩ := snAll h
  replace P4 := sp_1.mp P4
  obtain ⟨P5, h⟩ := snAll h
  replace P5 := sp_2.mp P5
  obtain ⟨P6, h⟩ := snAll h
  replace P6 := sp_2.mp P6
  obtain ⟨P7, h⟩ := snAll h
  replace P7 := sp_2.mp P7
  have L : eCst ((nthF fs 0)) ((nthZ zs 0)) ((nthZ zs 1)) ((nthZ zs 2)) ((nthZ zs 3)) := by
    apply M_cs2 (F0 := nthF fs 0) (N0 := nthZ zs 0) (N1 := nthZ zs 1) (N2 := nthZ zs 2) (N3 := nthZ zs 3) (N4 := nthZ zs 4) <;> first | assumption | omega
  rcases List.mem_cons.mp hx with hx | hx
  · rw [hx]; refine s_cst.mpr ?_; exact L
  · cases hx
def q_cs3 : qRl := ([(1, [0, 0, 4], []), sp (-32) [(4, 1)], sp 126 [(4, (-1))], sp (-1) [(4, 1), (2, (-1))], sp (-93) [(4, 1)], sp (-1) [(3, 1), (0, (-1))], sp (-1) [(1, 1), (0, (-1))], sp 1 [(0, 1), (1, (-1))]], [(1037, [1, 0, 0, 1, 2, 3], [])])
theorem q_cs3_ok : RlOk q_cs3 := by
  intro fs zs h x hx
  obtain ⟨P0, h⟩ := snAll h
  replace P0 := s_rd.mp P0
  obtain ⟨P1, h⟩ := snAll h
  replace P1 := sp_1.mp P1
  obtain ⟨P2, h⟩ := snAll h
  replace P2 := sp_1.mp P2
  obtain ⟨P3, h⟩ := snAll h
  replace P3 := sp_2.mp P3
  obtain ⟨P4, h⟩ := snAll h
  replace P4 := sp_1.mp P4
  obtain ⟨P5, h⟩ := snAll h
  replace P5 := sp_2.mp P5
  obtain ⟨P6, h⟩ := snAll h
  replace P6 := sp_2.mp P6
  obtain ⟨P7, h⟩ := snAll h
  replace P7 := sp_2.mp P7
  have L : eCst ((nthF fs 0)) ((nthZ zs 0)) ((nthZ zs 1)) ((nthZ zs 2)) ((nthZ zs 3)) := by
    apply M_cs3 (F0 := nthF fs 0) (N0 := nthZ zs 0) (N1 := nthZ zs 1) (N2 := nthZ zs 2) (N3 := nthZ zs 3) (N4 := nthZ zs 4) <;> first | assumption | omega
  rcases List.mem_cons.mp hx with hx | hx
  · rw [hx]; refine s_cst.mpr ?_; exact L
  · cases hx
def q_cs4 : qRl := ([(1, [0, 0, 4], []), sp (-92) [(4, 1)], sp 92 [(4, (-1))], sp 91 [(2, (-1))], sp (-2) [(3, 1), (0, (-1))], sp (-1) [(5, 1), (0, (-1))], sp 1 [(5, (-1)), (0, 1)], (1, [0, 5, 6], []), sp (-32) [(6, 1)], sp 126 [(6, (-1))], sp (-2) [(1, 1), (0, (-1))], sp 2 [(0, 1), (1, (-1))]], [(1037, [1, 0, 0, 1, 2, 3], [])])
theorem q_cs4_ok : RlOk q_cs4 := by
  intro fs zs h x hx
  obtain ⟨P0, h⟩ := snAll h
  replace P0 := s_rd.mp P0
  obtain ⟨P1, h⟩ := snAll h
  replace P1 := sp_1.mp P1
  obtain ⟨P2, h⟩ := snAll h
  replace P2 := sp_1.mp P2
  obtain ⟨P3, h⟩ := snAll h
  replace P3 := sp_1.mp P3
  obtain ⟨P4, h⟩ := snAll h
  replace P4 := sp_2.mp P4
  obtain ⟨P5a, h⟩ := snAll h
  replace P5a := sp_2.mp P5a
  obtain ⟨P5b, h⟩ := snAll h
  replace P5b := sp_2.mp P5b
  obtain ⟨P6, h⟩ := snAll h
  replace P6 := s_rd.mp P6
  obtain ⟨P7, h⟩ := snAll h
  replace P7 := sp_1.mp P7
  obtain ⟨P8, h⟩ := snAll h
  replace P8 := sp_1.mp P8
  obtain ⟨P9, h⟩ := snAll h
  replace P9 := sp_2.mp P9
  obtain ⟨P10, h⟩ := snAll h
  replace P10 := sp_2.mp P10
  have L : eCst ((nthF fs 0)) ((nthZ zs 0)) ((nthZ zs 1)) ((nthZ zs 2)) ((nthZ zs 3)) := by
    apply M_cs4 (F0 := nthF fs 0) (N0 := nthZ zs 0) (N1 := nthZ zs 1) (N2 := nthZ zs 2) (N3 := nthZ zs 3) (N4 := nthZ zs 4) (N5 := nthZ zs 5) (N6 := nthZ zs 6) <;> first | assumption | omega
  rcases List.mem_cons.mp hx with hx | hx
  · rw [hx]; refine s_cst.mpr ?_; exact L
  · cases hx
def q_ns0 : qRl := ([sp 0 [(0, 1), (2, (-1))], sp 0 []], [(1038, [1, 0, 0, 1, 2], [])])
theorem q_ns0_ok : RlOk q_ns0 := by
  intro fs zs h x hx
  obtain ⟨P0, h⟩ := snAll h
  replace P0 := sp_2.mp P0
  obtain ⟨P1, h⟩ := snAll h
  replace P1 := sp_0.mp P1
  have L : eNst ((nthF fs 0)) ((nthZ zs 0)) ((nthZ zs 1)) ((nthZ zs 2)) := by
    apply M_ns0 (F0 := nthF fs 0) (N0 := nthZ zs 0) (N1 := nthZ zs 1) (N2 := nthZ zs 2) <;> first | assumption | omega
  rcases List.mem_cons.mp hx with hx | hx
  · rw [hx]; refine s_nst.mpr ?_; exact L
  · cases hx
def q_ns1 : qRl := ([(1, [0, 0, 4], []), sp 0 [(4, 1), (1, (-1))], sp 0 [(1, 1), (4, (-1))], sp 0 []], [(1038, [1, 0, 0, 1, 2], [])])
theorem q_ns1_ok : RlOk q_ns1 := by
  intro fs zs h x hx
  obtain ⟨P0, h⟩ := snAll h
  replace P0 := s_rd.mp P0
  obtain ⟨P1, h⟩ := snAll h
  replace P1 := sp_2.mp P1
  obtain ⟨P2, h⟩ := snAll h
  replace P2 := sp_2.mp P2
  obtain ⟨P3, h⟩ := snAll h
  replace P3 := sp_0.mp P3
  have L : eNst ((nthF fs 0)) ((nthZ zs 0)) ((nthZ zs 1)) ((nthZ zs 2)) := by
    apply M_ns1 (F0 := nthF fs 0) (N0 := nthZ zs 0) (N1 := nthZ zs 1) (N2 := nthZ zs 2) (N3 := nthZ zs 3) (N4 := nthZ zs 4) <;> first | assumption | omega
  rcases List.mem_cons.mp hx with hx | hx
  · rw [hx]; refine s_nst.mpr ?_; exact L
  · cases hx
def q_ns2 : qRl := ([(1, [0, 0, 4], []), sp 31 [(4, (-1))], sp 0 [], sp 0 []], [(1038, [1, 0, 0, 1, 2], [])])
theorem q_ns2_ok : RlOk q_ns2 := by
  intro fs zs h x hx
  obtain ⟨P0, h⟩ := snAll h
  replace P0 := s_rd.mp P0
  obtain ⟨P1, h⟩ := snAll h
  replace P1 := sp_1.mp P1
  obtain ⟨P2, h⟩ := snAll h
  replace P2 := sp_0.mp P2
  obtain ⟨P3, h⟩ := snAll h
  replace P3 := sp_0.mp P3
  have L : eNst ((nthF fs 0)) ((nthZ zs 0)) ((nthZ zs 1)) ((nthZ zs 2)) := by
    apply M_ns2 (F0 := nthF fs 0) (N0 := nthZ zs 0) (N1 := nthZ zs 1) (N2 := nthZ zs 2) (N3 := nthZ zs 3) (N4 := nthZ zs 4) <;> first | assumption | omega
  rcases List.mem_cons.mp hx with hx | hx
  · rw [hx]; refine s_nst.mpr ?_; exact L
  · cases hx
def q_ns3 : qRl := ([(1, [0, 0, 4], []), sp (-127) [(4, 1)], sp 0 [], sp 0 []], [(1038, [1, 0, 0, 1, 2], [])])
theorem q_ns3_ok : RlOk q_ns3 := by
  intro fs zs h x hx
  obtain ⟨P0, h⟩ := snAll h
  replace P0 := s_rd.mp P0
  obtain ⟨P1, h⟩ := snAll h
  replace P1 := sp_1.mp P1
  obtain ⟨P2, h⟩ := snAll h
  replace P2 := sp_0.mp P2
  obtain ⟨P3, h⟩ := snAll h
  replace P3 := sp_0.mp P3
  have L : eNst ((nthF fs 0)) ((nthZ zs 0)) ((nthZ zs 1)) ((nthZ zs 2)) := by
    apply M_ns3 (F0 := nthF fs 0) (N0 := nthZ zs 0) (N1 := nthZ zs 1) (N2 := nthZ zs 2) (N3 := nthZ zs 3) (N4 := nthZ zs 4) <;> first | assumption | omega
  rcases List.mem_cons.mp hx with hx | hx
  · rw [hx]; refine s_nst.mpr ?_; exact L
  · cases hx
def q_ns4 : qRl := ([(1, [0, 0, 4], []), sp (-92) [(4, 1)], sp 92 [(4, (-1))], sp 1 [(0, 1), (2, (-1))], sp 0 []], [(1038, [1, 0, 0, 1, 2], [])])
theorem q_ns4_ok : RlOk q_ns4 := by
  intro fs zs h x hx
  obtain ⟨P0, h⟩ := snAll h
  replace P0 := s_rd.mp P0
  obtain ⟨P1, h⟩ := snAll h
  replace P1 := sp_1.mp P1
  obtain ⟨P2, h⟩ := snAll h
  replace P2 := sp_1.mp P2
  obtain ⟨P3, h⟩ := snAll h
  replace P3 := sp_2.mp P3
  obtain ⟨P4, h⟩ := snAll h
  replace P4 := sp_0.mp P4
  have L : eNst ((nthF fs 0)) ((nthZ zs 0)) ((nthZ zs 1)) ((nthZ zs 2)) := by
    apply M_ns4 (F0 := nthF fs 0) (N0 := nthZ zs 0) (N1 := nthZ zs 1) (N2 := nthZ zs 2) (N3 := nthZ zs 3) (N4 := nthZ zs 4) <;> first | assumption | omega
  rcases List.mem_cons.mp hx with hx | hx
  · rw [hx]; refine s_nst.mpr ?_; exact L
  · cases hx
def q_ns5 : qRl := ([(1, [0, 0, 4], []), sp (-92) [(4, 1)], sp 92 [(4, (-1))], sp (-1) [(5, 1), (0, (-1))], sp 1 [(5, (-1)), (0, 1)], (1, [0, 5, 6], []), sp 31 [(6, (-1))], sp 0 [], sp 0 []], [(1038, [1, 0, 0, 1, 2], [])])
theorem q_ns5_ok : RlOk q_ns5 := by
  intro fs zs h x hx
  obtain ⟨P0, h⟩ := snAll h
  replace P0 := s_rd.mp P0
  obtain ⟨P1, h⟩ := snAll h
  replace P1 := sp_1.mp P1
  obtain ⟨P2, h⟩ := snAll h
  replace P2 := sp_1.mp P2
  obtain ⟨P3a, h⟩ := snAll h
  replace P3a := sp_2.mp P3a
  obtain ⟨P3b, h⟩ := snAll h
  replace P3b := sp_2.mp P3b
  obtain ⟨P4, h⟩ := snAll h
  replace P4 := s_rd.mp P4
  obtain ⟨P5, h⟩ := snAll h
  replace P5 := sp_1.mp P5
  obtain ⟨P6, h⟩ := snAll h
  replace P6 := sp_0.mp P6
  obtain ⟨P7, h⟩ := snAll h
  replace P7 := sp_0.mp P7
  have L : eNst ((nthF fs 0)) ((nthZ zs 0)) ((nthZ zs 1)) ((nthZ zs 2)) := by
    apply M_ns5 (F0 := nthF fs 0) (N0 := nthZ zs 0) (N1 := nthZ zs 1) (N2 := nthZ zs 2) (N3 := nthZ zs 3) (N4 := nthZ zs 4) (N5 := nthZ zs 5) (N6 := nthZ zs 6) <;> first | assumption | omega
  rcases List.mem_cons.mp hx with hx | hx
  · rw [hx]; refine s_nst.mpr ?_; exact L
  · cases hx
def q_ns6 : qRl := ([(1, [0, 0, 4], []), sp (-92) [(4, 1)], sp 92 [(4, (-1))], sp (-1) [(5, 1), (0, (-1))], sp 1 [(5, (-1)), (0, 1)], (1, [0, 5, 6], []), sp (-127) [(6, 1)], sp 0 [], sp 0 []], [(1038, [1, 0, 0, 1, 2], [])])
theorem q_ns6_ok : RlOk q_ns6 := by
  intro fs zs h x hx
  obtain ⟨P0, h⟩ := snAll h
  replace P0 := s_rd.mp P0
  obtain ⟨P1, h⟩ := snAll h
  replace P1 := sp_1.mp P1
  obtain ⟨P2, h⟩ := snAll h
  replace P2 := sp_1.mp P2
  obtain ⟨P3a, h⟩ := snAll h
  replace P3a := sp_2.mp P3a
  obtain ⟨P3b, h⟩ := snAll h
  replace P3b := sp_2.mp P3b
  obtain ⟨P4, h⟩ := snAll h
  replace P4 := s_rd.mp P4
  obtain ⟨P5, h⟩ := snAll h
  replace P5 := sp_1.mp P5
  obtain ⟨P6, h⟩ := snAll h
  replace P6 := sp_0.mp P6
  obtain ⟨P7, h⟩ := snAll h
  replace P7 := sp_0.mp P7
  have L : eNst ((nthF fs 0)) ((nthZ zs 0)) ((nthZ zs 1)) ((nthZ zs 2)) := by
    apply M_ns6 (F0 := nthF fs 0) (N0 := nthZ zs 0) (N1 := nthZ zs 1) (N2 := nthZ zs 2) (N3 := nthZ zs 3) (N4 := nthZ zs 4) (N5 := nthZ zs 5) (N6 := nthZ zs 6) <;> first | assumption | omega
  rcases List.mem_cons.mp hx with hx | hx
  · rw [hx]; refine s_nst.mpr ?_; exact L
  · cases hx
def q_wk0 : qRl := ([sp 0 [(1, 1), (0, (-1))], sp 0 [(0, 1), (1, (-1))], sp 0 [], sp 0 []], [(1039, [1, 0, 0, 1, 2, 3], [])])
theorem q_wk0_ok : RlOk q_wk0 := by
  intro fs zs h x hx
  obtain ⟨P0, h⟩ := snAll h
  replace P0 := sp_2.mp P0
  obtain ⟨P1, h⟩ := snAll h
  replace P1 := sp_2.mp P1
  obtain ⟨P2, h⟩ := snAll h
  replace P2 := sp_0.mp P2
  obtain ⟨P3, h⟩ := snAll h
  replace P3 := sp_0.mp P3
  have L : eWk ((nthF fs 0)) ((nthZ zs 0)) ((nthZ zs 1)) ((nthZ zs 2)) ((nthZ zs 3)) := by
    apply M_wk0 (F0 := nthF fs 0) (N0 := nthZ zs 0) (N1 := nthZ zs 1) (N2 := nthZ zs 2) (N3 := nthZ zs 3) <;> first | assumption | omega
  rcases List.mem_cons.mp hx with hx | hx
  · rw [hx]; refine s_wk.mpr ?_; exact L
  · cases hx
def q_wkG : qRl := ([sp (-1) [(3, 1)], sp 0 [], sp 0 [], sp 0 []], [(1039, [1, 0, 0, 1, 2, 3], [])])
theorem q_wkG_ok : RlOk q_wkG := by
  intro fs zs h x hx
  obtain ⟨P0, h⟩ := snAll h
  replace P0 := sp_1.mp P0
  obtain ⟨P1, h⟩ := snAll h
  replace P1 := sp_0.mp P1
  obtain ⟨P2, h⟩ := snAll h
  replace P2 := sp_0.mp P2
  obtain ⟨P3, h⟩ := snAll h
  replace P3 := sp_0.mp P3
  have L : eWk ((nthF fs 0)) ((nthZ zs 0)) ((nthZ zs 1)) ((nthZ zs 2)) ((nthZ zs 3)) := by
    apply M_wkG (F0 := nthF fs 0) (N0 := nthZ zs 0) (N1 := nthZ zs 1) (N2 := nthZ zs 2) (N3 := nthZ zs 3) <;> first | assumption | omega
  rcases List.mem_cons.mp hx with hx | hx
  · rw [hx]; refine s_wk.mpr ?_; exact L
  · cases hx
def q_wkS : qRl := ([(1039, [1, 0, 0, 4, 2, 5], []), sp 0 [(5, (-1))], (1037, [1, 0, 4, 1, 6, 2], []), sp (-34) [(6, 1)], sp 34 [(6, (-1))], sp 0 []], [(1039, [1, 0, 0, 1, 2, 3], [])])
theorem q_wkS_ok : RlOk q_wkS := by
  intro fs zs h x hx
  obtain ⟨P0, h⟩ := snAll h
  replace P0 := s_wk.mp P0
  obtain ⟨P1, h⟩ := snAll h
  replace P1 := sp_1.mp P1
  obtain ⟨P2, h⟩ := snAll h
  replace P2 := s_cst.mp P2
  obtain ⟨P3, h⟩ := snAll h
  replace P3 := sp_1.mp P3
  obtain ⟨P4, h⟩ := snAll h
  replace P4 := sp_1.mp P4
  obtain ⟨P5, h⟩ := snAll h
  replace P5 := sp_0.mp P5
  have L : eWk ((nthF fs 0)) ((nthZ zs 0)) ((nthZ zs 1)) ((nthZ zs 2)) ((nthZ zs 3)) := by
    apply M_wkS (F0 := nthF fs 0) (N0 := nthZ zs 0) (N1 := nthZ zs 1) (N2 := nthZ zs 2) (N3 := nthZ zs 3) (N4 := nthZ zs 4) (N5 := nthZ zs 5) (N6 := nthZ zs 6) <;> first | assumption | omega
  rcases List.mem_cons.mp hx with hx | hx
  · rw [hx]; refine s_wk.mpr ?_; exact L
  · cases hx
def q_tk0 : qRl := ([sp 2 [(0, (-1))], sp 0 [], sp 0 [], sp 0 []], [(1041, [1, 0, 0, 1, 2, 3], [])])
theorem q_tk0_ok : RlOk q_tk0 := by
  intro fs zs h x hx
  obtain ⟨P0, h⟩ := snAll h
  replace P0 := sp_1.mp P0
  obtain ⟨P1, h⟩ := snAll h
  replace P1 := sp_0.mp P1
  obtain ⟨P2, h⟩ := snAll h
  replace P2 := sp_0.mp P2
  obtain ⟨P3, h⟩ := snAll h
  replace P3 := sp_0.mp P3
  have L : eTk3 ((nthF fs 0)) ((nthZ zs 0)) ((nthZ zs 1)) ((nthZ zs 2)) ((nthZ zs 3)) := by
    apply M_tk0 (F0 := nthF fs 0) (N0 := nthZ zs 0) (N1 := nthZ zs 1) (N2 := nthZ zs 2) (N3 := nthZ zs 3) <;> first | assumption | omega
  rcases List.mem_cons.mp hx with hx | hx
  · rw [hx]; refine s_tk3.mpr ?_; exact L
  · cases hx
def q_tk1 : qRl := ([sp (-4) [(0, 1)], sp 0 [], sp 0 [], sp 0 []], [(1041, [1, 0, 0, 1, 2, 3], [])])
theorem q_tk1_ok : RlOk q_tk1 := by
  intro fs zs h x hx
  obtain ⟨P0, h⟩ := snAll h
  replace P0 := sp_1.mp P0
  obtain ⟨P1, h⟩ := snAll h
  replace P1 := sp_0.mp P1
  obtain ⟨P2, h⟩ := snAll h
  replace P2 := sp_0.mp P2
  obtain ⟨P3, h⟩ := snAll h
  replace P3 := sp_0.mp P3
  have L : eTk3 ((nthF fs 0)) ((nthZ zs 0)) ((nthZ zs 1)) ((nthZ zs 2)) ((nthZ zs 3)) := by
    apply M_tk1 (F0 := nthF fs 0) (N0 := nthZ zs 0) (N1 := nthZ zs 1) (N2 := nthZ zs 2) (N3 := nthZ zs 3) <;> first | assumption | omega
  rcases List.mem_cons.mp hx with hx | hx
  · rw [hx]; refine s_tk3.mpr ?_; exact L
  · cases hx
def q_tk2 : qRl := ([sp (-1) [(4, 1), (1, (-1))], sp 1 [(4, (-1)), (1, 1)], (1039, [1, 0, 4, 5, 3, 6], []), sp 0 [(6, (-1))], sp (-1) [(2, 1), (5, (-1))], sp 1 [(5, 1), (2, (-1))], (1, [0, 5, 7], []), sp (-34) [(7, 1)], sp 34 [(7, (-1))], sp 0 [(3, 1), (2, (-1))], sp 0 []], [(1041, [1, 0, 0, 1, 2, 3], [])])
theorem q_tk2_ok : RlOk q_tk2 := by
  intro fs zs h x hx
  obtain ⟨P0a, h⟩ := snAll h
  replace P0a := sp_2.mp P0a
  obtain ⟨P0b, h⟩ := snAll h
  replace P0b := sp_2.mp P0b
  obtain ⟨P1, h⟩ := snAll h
  replace P1 := s_wk.mp P1
  obtain ⟨P2, h⟩ := snAll h
  replace P2 := sp_1.mp P2
  obtain ⟨P3, h⟩ := snAll h
  replace P3 := sp_2.mp P3
  obtain ⟨P4, h⟩ := snAll h
  replace P4 := sp_2.mp P4
  obtain ⟨P5, h⟩ := snAll h
  replace P5 := s_rd.mp P5
  obtain ⟨P6, h⟩ := snAll h
  replace P6 := sp_1.mp P6
  obtain ⟨P7, h⟩ := snAll h
  replace P7 := sp_1.mp P7
  obtain ⟨P8, h⟩ := snAll h
  replace P8 := sp_2.mp P8
  obtain ⟨P9, h⟩ := snAll h
  replace P9 := sp_0.mp P9
  have L : eTk3 ((nthF fs 0)) ((nthZ zs 0)) ((nthZ zs 1)) ((nthZ zs 2)) ((nthZ zs 3)) := by
    apply M_tk2 (F0 := nthF fs 0) (N0 := nthZ zs 0) (N1 := nthZ zs 1) (N2 := nthZ zs 2) (N3 := nthZ zs 3) (N4 := nthZ zs 4) (N5 := nthZ zs 5) (N6 := nthZ zs 6) (N7 := nthZ zs 7) <;> first | assumption | omega
  rcases List.mem_cons.mp hx with hx | hx
  · rw [hx]; refine s_tk3.mpr ?_; exact L
  · cases hx
def q_tx0 : qRl := ([sp 0 [(0, (-1))], sp 0 []], [(1042, [4, 0, 1, 2, 3, 0, 1], [])])
theorem q_tx0_ok : RlOk q_tx0 := by
  intro fs zs h x hx
  obtain ⟨P0, h⟩ := snAll h
  replace P0 := sp_1.mp P0
  obtain ⟨P1, h⟩ := snAll h
  replace P1 := sp_0.mp P1
  have L : eTxt ((nthF fs 0)) ((nthF fs 1)) ((nthF fs 2)) ((nthF fs 3)) ((nthZ zs 0)) ((nthZ zs 1)) := by
    apply M_tx0 (F0 := nthF fs 0) (F1 := nthF fs 1) (F2 := nthF fs 2) (F3 := nthF fs 3) (N0 := nthZ zs 0) (N1 := nthZ zs 1) <;> first | assumption | omega
  rcases List.mem_cons.mp hx with hx | hx
  · rw [hx]; refine s_txt.mpr ?_; exact L
  · cases hx
def q_txA : qRl := ([(2, [4, 0, 2, 3], []), (1042, [4, 0, 1, 2, 3, 0, 1], []), sp 0 [(2, 1), (0, (-1))]], [(1042, [4, 4, 1, 2, 3, 0, 1], [])])
theorem q_txA_ok : RlOk q_txA := by
  intro fs zs h x hx
  obtain ⟨P0, h⟩ := snAll h
  replace P0 := s_wr.mp P0
  obtain ⟨P1, h⟩ := snAll h
  replace P1 := s_txt.mp P1
  obtain ⟨P2, h⟩ := snAll h
  replace P2 := sp_2.mp P2
  have L : eTxt ((nthF fs 4)) ((nthF fs 1)) ((nthF fs 2)) ((nthF fs 3)) ((nthZ zs 0)) ((nthZ zs 1)) := by
    apply M_txA (F0 := nthF fs 0) (F1 := nthF fs 1) (F2 := nthF fs 2) (F3 := nthF fs 3) (F4 := nthF fs 4) (N0 := nthZ zs 0) (N1 := nthZ zs 1) (N2 := nthZ zs 2) (N3 := nthZ zs 3) <;> first | assumption | omega
  rcases List.mem_cons.mp hx with hx | hx
  · rw [hx]; refine s_txt.mpr ?_; exact L
  · cases hx
def q_txB : qRl := ([(2, [4, 1, 2, 3], []), (1042, [4, 0, 1, 2, 3, 0, 1], []), sp 0 [(2, 1), (0, (-1))]], [(1042, [4, 0, 4, 2, 3, 0, 1], [])])
theorem q_txB_ok : RlOk q_txB := by
  intro fs zs h x hx
  obtain ⟨P0, h⟩ := snAll h
  replace P0 := s_wr.mp P0
  obtain ⟨P1, h⟩ := snAll h
  replace P1 := s_txt.mp P1
  obtain ⟨P2, h⟩ := snAll h
  replace P2 := sp_2.mp P2
  have L : eTxt ((nthF fs 0)) ((nthF fs 4)) ((nthF fs 2)) ((nthF fs 3)) ((nthZ zs 0)) ((nthZ zs 1)) := by
    apply M_txB (F0 := nthF fs 0) (F1 := nthF fs 1) (F2 := nthF fs 2) (F3 := nthF fs 3) (F4 := nthF fs 4) (N0 := nthZ zs 0) (N1 := nthZ zs 1) (N2 := nthZ zs 2) (N3 := nthZ zs 3) <;> first | assumption | omega
  rcases List.mem_cons.mp hx with hx | hx
  · rw [hx]; refine s_txt.mpr ?_; exact L
  · cases hx
def q_txC : qRl := ([(2, [4, 2, 2, 3], []), (1042, [4, 0, 1, 2, 3, 0, 1], []), sp 0 [(2, 1), (0, (-1))]], [(1042, [4, 0, 1, 4, 3, 0, 1], [])])
theorem q_txC_ok : RlOk q_txC := by
  intro fs zs h x hx
  obtain ⟨P0, h⟩ := snAll h
  replace P0 := s_wr.mp P0
  obtain ⟨P1, h⟩ := snAll h
  replace P1 := s_txt.mp P1
  obtain ⟨P2, h⟩ := snAll h
  replace P2 := sp_2.mp P2
  have L : eTxt ((nthF fs 0)) ((nthF fs 1)) ((nthF fs 4)) ((nthF fs 3)) ((nthZ zs 0)) ((nthZ zs 1)) := by
    apply M_txC (F0 := nthF fs 0) (F1 := nthF fs 1) (F2 := nthF fs 2) (F3 := nthF fs 3) (F4 := nthF fs 4) (N0 := nthZ zs 0) (N1 := nthZ zs 1) (N2 := nthZ zs 2) (N3 := nthZ zs 3) <;> first | assumption | omega
  rcases List.mem_cons.mp hx with hx | hx
  · rw [hx]; refine s_txt.mpr ?_; exact L
  · cases hx
def q_txE : qRl := ([(1042, [4, 0, 1, 2, 3, 4, 1], []), sp (-1) [(0, 1), (4, (-1))], sp 1 [(4, 1), (0, (-1))], (1, [0, 4, 5], []), (1, [1, 4, 6], []), sp 0 [(6, 1)], (1, [2, 4, 7], []), sp 0 [(8, 1), (6, (-1)), (7, (-1))], sp 0 [(8, (-1)), (6, 1), (7, 1)], (1041, [1, 3, 5, 6, 8, 1], [])], [(1042, [4, 0, 1, 2, 3, 0, 1], [])])
theorem q_txE_ok : RlOk q_txE := by
  intro fs zs h x hx
  obtain ⟨P0, h⟩ := snAll h
  replace P0 := s_txt.mp P0
  obtain ⟨P1, h⟩ := snAll h
  replace P1 := sp_2.mp P1
  obtain ⟨P2, h⟩ := snAll h
  replace P2 := sp_2.mp P2
  obtain ⟨P3, h⟩ := snAll h
  replace P3 := s_rd.mp P3
  obtain ⟨P4, h⟩ := snAll h
  replace P4 := s_rd.mp P4
  obtain ⟨P5, h⟩ := snAll h
  replace P5 := sp_1.mp P5
  obtain ⟨P6, h⟩ := snAll h
  replace P6 := s_rd.mp P6
  obtain ⟨P7a, h⟩ := snAll h
  replace P7a := sp_3.mp P7a
  obtain ⟨P7b, h⟩ := snAll h
  replace P7b := sp_3.mp P7b
  obtain ⟨P8, h⟩ := snAll h
  replace P8 := s_tk3.mp P8
  have L : eTxt ((nthF fs 0)) ((nthF fs 1)) ((nthF fs 2)) ((nthF fs 3)) ((nthZ zs 0)) ((nthZ zs 1)) := by
    apply M_txE (F0 := nthF fs 0) (F1 := nthF fs 1) (F2 := nthF fs 2) (F3 := nthF fs 3) (N0 := nthZ zs 0) (N1 := nthZ zs 1) (N2 := nthZ zs 2) (N3 := nthZ zs 3) (N4 := nthZ zs 4) (N5 := nthZ zs 5) (N6 := nthZ zs 6) (N7 := nthZ zs 7) (N8 := nthZ zs 8) <;> first | assumption | omega
  rcases List.mem_cons.mp hx with hx | hx
  · rw [hx]; refine s_txt.mpr ?_; exact L
  · cases hx
def q_tl0 : qRl := ([(1, [0, 0, 4], []), sp (-1) [(1, 1), (4, (-1))], sp 1 [(4, 1), (1, (-1))], sp 0 [(2, 1)], sp 0 [(2, (-1))], sp 0 []], [(1040, [2, 0, 1, 0, 1, 2, 3], [])])
theorem q_tl0_ok : RlOk q_tl0 := by
  intro fs zs h x hx
  obtain ⟨P0, h⟩ := snAll h
  replace P0 := s_rd.mp P0
  obtain ⟨P1, h⟩ := snAll h
  replace P1 := sp_2.mp P1
  obtain ⟨P2, h⟩ := snAll h
  replace P2 := sp_2.mp P2
  obtain ⟨P3, h⟩ := snAll h
  replace P3 := sp_1.mp P3
  obtain ⟨P4, h⟩ := snAll h
  replace P4 := sp_1.mp P4
  obtain ⟨P5, h⟩ := snAll h
  replace P5 := sp_0.mp P5
  have L : eTls ((nthF fs 0)) ((nthF fs 1)) ((nthZ zs 0)) ((nthZ zs 1)) ((nthZ zs 2)) ((nthZ zs 3)) := by
    apply M_tl0 (F0 := nthF fs 0) (F1 := nthF fs 1) (N0 := nthZ zs 0) (N1 := nthZ zs 1) (N2 := nthZ zs 2) (N3 := nthZ zs 3) (N4 := nthZ zs 4) <;> first | assumption | omega
  rcases List.mem_cons.mp hx with hx | hx
  · rw [hx]; refine s_tls.mpr ?_; exact L
  · cases hx
def q_tlS : qRl := ([(1040, [2, 0, 1, 0, 4, 5, 3], []), (1037, [1, 1, 4, 1, 6, 3], []), sp (-34) [(6, 1)], sp 34 [(6, (-1))], sp (-1) [(2, 1), (5, (-1))], sp 1 [(5, 1), (2, (-1))]], [(1040, [2, 0, 1, 0, 1, 2, 3], [])])
theorem q_tlS_ok : RlOk q_tlS := by
  intro fs zs h x hx
  obtain ⟨P0, h⟩ := snAll h
  replace P0 := s_tls.mp P0
  obtain ⟨P1, h⟩ := snAll h
  replace P1 := s_cst.mp P1
  obtain ⟨P2, h⟩ := snAll h
  replace P2 := sp_1.mp P2
  obtain ⟨P3, h⟩ := snAll h
  replace P3 := sp_1.mp P3
  obtain ⟨P4, h⟩ := snAll h
  replace P4 := sp_2.mp P4
  obtain ⟨P5, h⟩ := snAll h
  replace P5 := sp_2.mp P5
  have L : eTls ((nthF fs 0)) ((nthF fs 1)) ((nthZ zs 0)) ((nthZ zs 1)) ((nthZ zs 2)) ((nthZ zs 3)) := by
    apply M_tlS (F0 := nthF fs 0) (F1 := nthF fs 1) (N0 := nthZ zs 0) (N1 := nthZ zs 1) (N2 := nthZ zs 2) (N3 := nthZ zs 3) (N4 := nthZ zs 4) (N5 := nthZ zs 5) (N6 := nthZ zs 6) <;> first | assumption | omega
  rcases List.mem_cons.mp hx with hx | hx
  · rw [hx]; refine s_tls.mpr ?_; exact L
  · cases hx
def q_tB : qRl := ([(1042, [4, 0, 1, 2, 3, 0, 1], []), (1040, [2, 1, 3, 2, 3, 4, 1], []), (5, [1, 0, 5, 6, 7], []), sp 0 [(5, 1), (2, (-1))], sp 0 [(2, 1), (5, (-1))], sp (-1) [(6, 1), (2, (-1))], sp (-3) [(7, 1)], (6, [1, 0, 8, 9, 10], []), sp 0 [(8, 1), (2, (-1))], sp 0 [(2, 1), (8, (-1))], sp (-1) [(9, 1), (2, (-1))], sp 3 [(10, (-1))], sp 0 [(2, 1)], sp (-1) [(0, 1), (2, (-1))]], [sp (-1) [(1, 1), (3, (-1))], sp (-1) [(3, 1), (4, (-1))], sp 0 [(4, 1)]])
theorem q_tB_ok : RlOk q_tB := by
  intro fs zs h x hx
  obtain ⟨P0, h⟩ := snAll h
  replace P0 := s_txt.mp P0
  obtain ⟨P1, h⟩ := snAll h
  replace P1 := s_tls.mp P1
  obtain ⟨P2, h⟩ := snAll h
  replace P2 := s_ge.mp P2
  obtain ⟨P3, h⟩ := snAll h
  replace P3 := sp_2.mp P3
  obtain ⟨P4, h⟩ := snAll h
  replace P4 := sp_2.mp P4
  obtain ⟨P5, h⟩ := snAll h
  replace P5 := sp_2.mp P5
  obtain ⟨P6, h⟩ := snAll h
  replace P6 := sp_1.mp P6
  obtain ⟨P7, h⟩ := snAll h
  replace P7 := s_le.mp P7
  obtain ⟨P8, h⟩ := snAll h
  replace P8 := sp_2.mp P8
  obtain ⟨P9, h⟩ := snAll h
  replace P9 := sp_2.mp P9
  obtain ⟨P10, h⟩ := snAll h
  replace P10 := sp_2.mp P10
  obtain ⟨P11, h⟩ := snAll h
  replace P11 := sp_1.mp P11
  obtain ⟨P12, h⟩ := snAll h
  replace P12 := sp_1.mp P12
  obtain ⟨P13, h⟩ := snAll h
  replace P13 := sp_2.mp P13
  have L : ((nthZ zs 3) + 1 ≤ (nthZ zs 1)) ∧ ((nthZ zs 4) + 1 ≤ (nthZ zs 3)) ∧ (0 ≤ (nthZ zs 4)) := by
    apply M_tB (F0 := nthF fs 0) (F1 := nthF fs 1) (F2 := nthF fs 2) (F3 := nthF fs 3) (N0 := nthZ zs 0) (N1 := nthZ zs 1) (N2 := nthZ zs 2) (N3 := nthZ zs 3) (N4 := nthZ zs 4) (N5 := nthZ zs 5) (N6 := nthZ zs 6) (N7 := nthZ zs 7) (N8 := nthZ zs 8) (N9 := nthZ zs 9) (N10 := nthZ zs 10) <;> first | assumption | omega
  obtain ⟨L0, L1, L2⟩ := L
  rcases List.mem_cons.mp hx with hx | hx
  · rw [hx]; refine sp_2.mpr ?_; omega
  rcases List.mem_cons.mp hx with hx | hx
  · rw [hx]; refine sp_2.mpr ?_; omega
  rcases List.mem_cons.mp hx with hx | hx
  · rw [hx]; refine sp_1.mpr ?_; omega
  · cases hx
def q_tN0 : qRl := ([(1042, [4, 0, 1, 2, 3, 0, 1], []), (1040, [2, 1, 3, 2, 3, 4, 1], []), (5, [1, 0, 5, 6, 7], []), sp 0 [(5, 1), (2, (-1))], sp 0 [(2, 1), (5, (-1))], sp (-1) [(6, 1), (2, (-1))], sp (-3) [(7, 1)], (6, [1, 0, 8, 9, 10], []), sp 0 [(8, 1), (2, (-1))], sp 0 [(2, 1), (8, (-1))], sp (-1) [(9, 1), (2, (-1))], sp 3 [(10, (-1))], sp 0 [(2, 1)], sp (-1) [(0, 1), (2, (-1))], (1, [3, 3, 11], []), sp 33 [(11, (-1))], (1038, [1, 3, 3, 12, 1], []), sp (-34) [(12, 1)], sp 34 [(12, (-1))]], [sp (-1) []])
theorem q_tN0_ok : RlOk q_tN0 := by
  intro fs zs h x hx
  obtain ⟨P0, h⟩ := snAll h
  replace P0 := s_txt.mp P0
  obtain ⟨P1, h⟩ := snAll h
  replace P1 := s_tls.mp P1
  obtain ⟨P2, h⟩ := snAll h
  replace P2 := s_ge.mp P2
  obtain ⟨P3, h⟩ := snAll h
  replace P3 := sp_2.mp P3
  obtain ⟨P4, h⟩ := snAll h
  replace P4 := sp_2.mp P4
  obtain ⟨P5, h⟩ := snAll h
  replace P5 := sp_2.mp P5
  obtain ⟨P6, h⟩ := snAll h
  replace P6 := sp_1.mp P6
  obtain ⟨P7, h⟩ := snAll h
  replace P7 := s_le.mp P7
  obtain ⟨P8, h⟩ := snAll h
  replace P8 := sp_2.mp P8
  obtain ⟨P9, h⟩ := snAll h
  replace P9 := sp_2.mp P9
  obtain ⟨P10, h⟩ := snAll h
  replace P10 := sp_2.mp P10
  obtain ⟨P11, h⟩ := snAll h
  replace P11 := sp_1.mp P11
  obtain ⟨P12, h⟩ := snAll h
  replace P12 := sp_1.mp P12
  obtain ⟨P13, h⟩ := snAll h
  replace P13 := sp_2.mp P13
  obtain ⟨P14, h⟩ := snAll h
  replace P14 := s_rd.mp P14
  obtain ⟨P15, h⟩ := snAll h
  replace P15 := sp_1.mp P15
  obtain ⟨P16, h⟩ := snAll h
  replace P16 := s_nst.mp P16
  obtain ⟨P17, h⟩ := snAll h
  replace P17 := sp_1.mp P17
  obtain ⟨P18, h⟩ := snAll h
  replace P18 := sp_1.mp P18
  have L : 1 ≤ 0 := by
    apply M_tN0 (F0 := nthF fs 0) (F1 := nthF fs 1) (F2 := nthF fs 2) (F3 := nthF fs 3) (N0 := nthZ zs 0) (N1 := nthZ zs 1) (N2 := nthZ zs 2) (N3 := nthZ zs 3) (N4 := nthZ zs 4) (N5 := nthZ zs 5) (N6 := nthZ zs 6) (N7 := nthZ zs 7) (N8 := nthZ zs 8) (N9 := nthZ zs 9) (N10 := nthZ zs 10) (N11 := nthZ zs 11) (N12 := nthZ zs 12) <;> first | assumption | omega
  rcases List.mem_cons.mp hx with hx | hx
  · rw [hx]; refine sp_0.mpr ?_; omega
  · cases hx
def q_tN1 : qRl := ([(1042, [4, 0, 1, 2, 3, 0, 1], []), (1040, [2, 1, 3, 2, 3, 4, 1], []), (5, [1, 0, 5, 6, 7], []), sp 0 [(5, 1), (2, (-1))], sp 0 [(2, 1), (5, (-1))], sp (-1) [(6, 1), (2, (-1))], sp (-3) [(7, 1)], (6, [1, 0, 8, 9, 10], []), sp 0 [(8, 1), (2, (-1))], sp 0 [(2, 1), (8, (-1))], sp (-1) [(9, 1), (2, (-1))], sp 3 [(10, (-1))], sp 0 [(2, 1)], sp (-1) [(0, 1), (2, (-1))], (1, [3, 3, 11], []), sp (-35) [(11, 1)], (1038, [1, 3, 3, 12, 1], []), sp (-34) [(12, 1)], sp 34 [(12, (-1))]], [sp (-1) []])
theorem q_tN1_ok : RlOk q_tN1 := by
  intro fs zs h x hx
  obtain ⟨P0, h⟩ := snAll h
  replace P0 := s_txt.mp P0
  obtain ⟨P1, h⟩ := snAll h
  replace P1 := s_tls.mp P1
  obtain ⟨P2, h⟩ := snAll h
  replace P2 := s_ge.mp P2
  obtain ⟨P3, h⟩ := snAll h
  replace P3 := sp_2.mp P3
  obtain ⟨P4, h⟩ := snAll h
  replace P4 := sp_2.mp P4
  obtain ⟨P5, h⟩ := snAll h
  replace P5 := sp_2.mp P5
  obtain ⟨P6, h⟩ := snAll h
  replace P6 := sp_1.mp P6
  obtain ⟨P7, h⟩ := snAll h
  replace P7 := s_le.mp P7
  obtain ⟨P8, h⟩ := snAll h
  replace P8 := sp_2.mp P8
  obtain ⟨P9, h⟩ := snAll h
  replace P9 := sp_2.mp P9
  obtain ⟨P10, h⟩ := snAll h
  replace P10 := sp_2.mp P10
  obtain ⟨P11, h⟩ := snAll h
  replace P11 := sp_1.mp P11
  obtain ⟨P12, h⟩ := snAll h
  replace P12 := sp_1.mp P12
  obtain ⟨P13, h⟩ := snAll h
  replace P13 := sp_2.mp P13
  obtain ⟨P14, h⟩ := snAll h
  replace P14 := s_rd.mp P14
  obtain ⟨P15, h⟩ := snAll h
  replace P15 := sp_1.mp P15
  obtain ⟨P16, h⟩ := snAll h
  replace P16 := s_nst.mp P16
  obtain ⟨P17, h⟩ := snAll h
  replace P17 := sp_1.mp P17
  obtain ⟨P18, h⟩ := snAll h
  replace P18 := sp_1.mp P18
  have L : 1 ≤ 0 := by
    apply M_tN1 (F0 := nthF fs 0) (F1 := nthF fs 1) (F2 := nthF fs 2) (F3 := nthF fs 3) (N0 := nthZ zs 0) (N1 := nthZ zs 1) (N2 := nthZ zs 2) (N3 := nthZ zs 3) (N4 := nthZ zs 4) (N5 := nthZ zs 5) (N6 := nthZ zs 6) (N7 := nthZ zs 7) (N8 := nthZ zs 8) (N9 := nthZ zs 9) (N10 := nthZ zs 10) (N11 := nthZ zs 11) (N12 := nthZ zs 12) <;> first | assumption | omega
  rcases List.mem_cons.mp hx with hx | hx
  · rw [hx]; refine sp_0.mpr ?_; omega
  · cases hx
def q_tE : qRl := ([(1042, [4, 0, 1, 2, 3, 0, 1], []), (1040, [2, 1, 3, 2, 3, 4, 1], []), (5, [1, 0, 5, 6, 7], []), sp 0 [(5, 1), (2, (-1))], sp 0 [(2, 1), (5, (-1))], sp (-1) [(6, 1), (2, (-1))], sp (-3) [(7, 1)], (6, [1, 0, 8, 9, 10], []), sp 0 [(8, 1), (2, (-1))], sp 0 [(2, 1), (8, (-1))], sp (-1) [(9, 1), (2, (-1))], sp 3 [(10, (-1))], sp 0 [(2, 1)], sp (-1) [(0, 1), (2, (-1))], (1, [3, 3, 11], []), sp (-34) [(11, 1)], sp 34 [(11, (-1))], sp 0 [(12, 1), (4, (-1))], sp 0 [(4, 1), (12, (-1))]], [(1043, [3, 1, 2, 3, 2, 12, 1], [])])
theorem q_tE_ok : RlOk q_tE := by
  intro fs zs h x hx
  obtain ⟨P0, h⟩ := snAll h
  replace P0 := s_txt.mp P0
  obtain ⟨P1, h⟩ := snAll h
  replace P1 := s_tls.mp P1
  obtain ⟨P2, h⟩ := snAll h
  replace P2 := s_ge.mp P2
  obtain ⟨P3, h⟩ := snAll h
  replace P3 := sp_2.mp P3
  obtain ⟨P4, h⟩ := snAll h
  replace P4 := sp_2.mp P4
  obtain ⟨P5, h⟩ := snAll h
  replace P5 := sp_2.mp P5
  obtain ⟨P6, h⟩ := snAll h
  replace P6 := sp_1.mp P6
  obtain ⟨P7, h⟩ := snAll h
  replace P7 := s_le.mp P7
  obtain ⟨P8, h⟩ := snAll h
  replace P8 := sp_2.mp P8
  obtain ⟨P9, h⟩ := snAll h
  replace P9 := sp_2.mp P9
  obtain ⟨P10, h⟩ := snAll h
  replace P10 := sp_2.mp P10
  obtain ⟨P11, h⟩ := snAll h
  replace P11 := sp_1.mp P11
  obtain ⟨P12, h⟩ := snAll h
  replace P12 := sp_1.mp P12
  obtain ⟨P13, h⟩ := snAll h
  replace P13 := sp_2.mp P13
  obtain ⟨P14, h⟩ := snAll h
  replace P14 := s_rd.mp P14
  obtain ⟨P15, h⟩ := snAll h
  replace P15 := sp_1.mp P15
  obtain ⟨P16, h⟩ := snAll h
  replace P16 := sp_1.mp P16
  obtain ⟨P17, h⟩ := snAll h
  replace P17 := sp_2.mp P17
  obtain ⟨P18, h⟩ := snAll h
  replace P18 := sp_2.mp P18
  have L : eTle ((nthF fs 1)) ((nthF fs 2)) ((nthF fs 3)) ((nthZ zs 2)) ((nthZ zs 12)) ((nthZ zs 1)) := by
    apply M_tE (F0 := nthF fs 0) (F1 := nthF fs 1) (F2 := nthF fs 2) (F3 := nthF fs 3) (N0 := nthZ zs 0) (N1 := nthZ zs 1) (N2 := nthZ zs 2) (N3 := nthZ zs 3) (N4 := nthZ zs 4) (N5 := nthZ zs 5) (N6 := nthZ zs 6) (N7 := nthZ zs 7) (N8 := nthZ zs 8) (N9 := nthZ zs 9) (N10 := nthZ zs 10) (N11 := nthZ zs 11) (N12 := nthZ zs 12) <;> first | assumption | omega
  rcases List.mem_cons.mp hx with hx | hx
  · rw [hx]; refine s_tle.mpr ?_; exact L
  · cases hx
def q_rsG : qRl := ([sp (-1) [(1, 1)], sp 0 []], [(1044, [2, 0, 1, 0, 1], [])])
theorem q_rsG_ok : RlOk q_rsG := by
  intro fs zs h x hx
  obtain ⟨P0, h⟩ := snAll h
  replace P0 := sp_1.mp P0
  obtain ⟨P1, h⟩ := snAll h
  replace P1 := sp_0.mp P1
  have L : eRs ((nthF fs 0)) ((nthF fs 1)) ((nthZ zs 0)) ((nthZ zs 1)) := by
    apply M_rsG (F0 := nthF fs 0) (F1 := nthF fs 1) (N0 := nthZ zs 0) (N1 := nthZ zs 1) <;> first | assumption | omega
  rcases List.mem_cons.mp hx with hx | hx
  · rw [hx]; refine s_rs.mpr ?_; exact L
  · cases hx
def q_rsI : qRl := ([(1044, [2, 0, 1, 0, 6], []), sp 0 [(6, (-1))], (1, [0, 1, 2], []), (1, [0, 3, 4], []), sp 0 [(1, 1)], sp (-1) [(3, 1), (1, (-1))], sp 0 [(0, 1), (3, (-1))], (1, [1, 1, 5], [])], [sp 1 [(4, 1), (2, (-1)), (5, (-1)), (3, (-1)), (1, 1)], sp (-1) [(5, 1)]])
theorem q_rsI_ok : RlOk q_rsI := by
  intro fs zs h x hx
  obtain ⟨P0, h⟩ := snAll h
  replace P0 := s_rs.mp P0
  obtain ⟨P1, h⟩ := snAll h
  replace P1 := sp_1.mp P1
  obtain ⟨P2, h⟩ := snAll h
  replace P2 := s_rd.mp P2
  obtain ⟨P3, h⟩ := snAll h
  replace P3 := s_rd.mp P3
  obtain ⟨P4, h⟩ := snAll h
  replace P4 := sp_1.mp P4
  obtain ⟨P5, h⟩ := snAll h
  replace P5 := sp_2.mp P5
  obtain ⟨P6, h⟩ := snAll h
  replace P6 := sp_2.mp P6
  obtain ⟨P7, h⟩ := snAll h
  replace P7 := s_rd.mp P7
  have L : ((nthZ zs 2) + (nthZ zs 5) + (nthZ zs 3) ≤ (nthZ zs 4) + (nthZ zs 1) + 1) ∧ (1 ≤ (nthZ zs 5)) := by
    apply M_rsI (F0 := nthF fs 0) (F1 := nthF fs 1) (N0 := nthZ zs 0) (N1 := nthZ zs 1) (N2 := nthZ zs 2) (N3 := nthZ zs 3) (N4 := nthZ zs 4) (N5 := nthZ zs 5) (N6 := nthZ zs 6) <;> first | assumption | omega
  obtain ⟨L0, L1⟩ := L
  rcases List.mem_cons.mp hx with hx | hx
  · rw [hx]; refine sp_5.mpr ?_; omega
  rcases List.mem_cons.mp hx with hx | hx
  · rw [hx]; refine sp_1.mpr ?_; omega
  · cases hx
def q_rl0 : qRl := ([sp 0 [(0, (-1))], sp 0 [], sp 0 []], [(1045, [2, 0, 1, 0, 1, 2], [])])
theorem q_rl0_ok : RlOk q_rl0 := by
  intro fs zs h x hx
  obtain ⟨P0, h⟩ := snAll h
  replace P0 := sp_1.mp P0
  obtain ⟨P1, h⟩ := snAll h
  replace P1 := sp_0.mp P1
  obtain ⟨P2, h⟩ := snAll h
  replace P2 := sp_0.mp P2
  have L : eRl ((nthF fs 0)) ((nthF fs 1)) ((nthZ zs 0)) ((nthZ zs 1)) ((nthZ zs 2)) := by
    apply M_rl0 (F0 := nthF fs 0) (F1 := nthF fs 1) (N0 := nthZ zs 0) (N1 := nthZ zs 1) (N2 := nthZ zs 2) <;> first | assumption | omega
  rcases List.mem_cons.mp hx with hx | hx
  · rw [hx]; refine s_rl.mpr ?_; exact L
  · cases hx
def q_rlZ : qRl := ([(1045, [2, 0, 1, 0, 3, 4], []), sp 0 [(4, (-1))], sp 0 [(1, 1), (3, (-1))], sp 0 []], [(1045, [2, 0, 1, 0, 1, 2], [])])
theorem q_rlZ_ok : RlOk q_rlZ := by
  intro fs zs h x hx
  obtain ⟨P0, h⟩ := snAll h
  replace P0 := s_rl.mp P0
  obtain ⟨P1, h⟩ := snAll h
  replace P1 := sp_1.mp P1
  obtain ⟨P2, h⟩ := snAll h
  replace P2 := sp_2.mp P2
  obtain ⟨P3, h⟩ := snAll h
  replace P3 := sp_0.mp P3
  have L : eRl ((nthF fs 0)) ((nthF fs 1)) ((nthZ zs 0)) ((nthZ zs 1)) ((nthZ zs 2)) := by
    apply M_rlZ (F0 := nthF fs 0) (F1 := nthF fs 1) (N0 := nthZ zs 0) (N1 := nthZ zs 1) (N2 := nthZ zs 2) (N3 := nthZ zs 3) (N4 := nthZ zs 4) <;> first | assumption | omega
  rcases List.mem_cons.mp hx with hx | hx
  · rw [hx]; refine s_rl.mpr ?_; exact L
  · cases hx
def q_rlE : qRl := ([(1045, [2, 0, 1, 3, 4, 5], []), sp (-1) [(0, 1), (3, (-1))], sp 1 [(3, 1), (0, (-1))], sp 0 [(5, (-1))], (1, [0, 3, 6], []), (1, [1, 3, 7], []), sp 0 [(6, 1), (4, (-1))], sp (-1) [(2, 1), (7, 1)], sp 0 [(1, 1), (6, (-1)), (7, (-1))]], [(1045, [2, 0, 1, 0, 1, 2], [])])
theorem q_rlE_ok : RlOk q_rlE := by
  intro fs zs h x hx
  obtain ⟨P0, h⟩ := snAll h
  replace P0 := s_rl.mp P0
  obtain ⟨P1, h⟩ := snAll h
  replace P1 := sp_2.mp P1
  obtain ⟨P2, h⟩ := snAll h
  replace P2 := sp_2.mp P2
  obtain ⟨P3, h⟩ := snAll h
  replace P3 := sp_1.mp P3
  obtain ⟨P4, h⟩ := snAll h
  replace P4 := s_rd.mp P4
  obtain ⟨P5, h⟩ := snAll h
  replace P5 := s_rd.mp P5
  obtain ⟨P6, h⟩ := snAll h
  replace P6 := sp_2.mp P6
  obtain ⟨P7, h⟩ := snAll h
  replace P7 := sp_2.mp P7
  obtain ⟨P8, h⟩ := snAll h
  replace P8 := sp_3.mp P8
  have L : eRl ((nthF fs 0)) ((nthF fs 1)) ((nthZ zs 0)) ((nthZ zs 1)) ((nthZ zs 2)) := by
    apply M_rlE (F0 := nthF fs 0) (F1 := nthF fs 1) (N0 := nthZ zs 0) (N1 := nthZ zs 1) (N2 := nthZ zs 2) (N3 := nthZ zs 3) (N4 := nthZ zs 4) (N5 := nthZ zs 5) (N6 := nthZ zs 6) (N7 := nthZ zs 7) <;> first | assumption | omega
  rcases List.mem_cons.mp hx with hx | hx
  · rw [hx]; refine s_rl.mpr ?_; exact L
  · cases hx
def q_rlA : qRl := ([(2, [2, 0, 3, 4], []), (1045, [2, 0, 1, 0, 1, 2], []), sp 0 [(3, 1), (0, (-1))]], [(1045, [2, 2, 1, 0, 1, 2], [])])
theorem q_rlA_ok : RlOk q_rlA := by
  intro fs zs h x hx
  obtain ⟨P0, h⟩ := snAll h
  replace P0 := s_wr.mp P0
  obtain ⟨P1, h⟩ := snAll h
  replace P1 := s_rl.mp P1
  obtain ⟨P2, h⟩ := snAll h
  replace P2 := sp_2.mp P2
  have L : eRl ((nthF fs 2)) ((nthF fs 1)) ((nthZ zs 0)) ((nthZ zs 1)) ((nthZ zs 2)) := by
    apply M_rlA (F0 := nthF fs 0) (F1 := nthF fs 1) (F2 := nthF fs 2) (N0 := nthZ zs 0) (N1 := nthZ zs 1) (N2 := nthZ zs 2) (N3 := nthZ zs 3) (N4 := nthZ zs 4) <;> first | assumption | omega
  rcases List.mem_cons.mp hx with hx | hx
  · rw [hx]; refine s_rl.mpr ?_; exact L
  · cases hx
def q_rlB : qRl := ([(2, [2, 1, 3, 4], []), (1045, [2, 0, 1, 0, 1, 2], []), sp 0 [(3, 1), (0, (-1))]], [(1045, [2, 0, 2, 0, 1, 2], [])])
theorem q_rlB_ok : RlOk q_rlB := by
  intro fs zs h x hx
  obtain ⟨P0, h⟩ := snAll h
  replace P0 := s_wr.mp P0
  obtain ⟨P1, h⟩ := snAll h
  replace P1 := s_rl.mp P1
  obtain ⟨P2, h⟩ := snAll h
  replace P2 := sp_2.mp P2
  have L : eRl ((nthF fs 0)) ((nthF fs 2)) ((nthZ zs 0)) ((nthZ zs 1)) ((nthZ zs 2)) := by
    apply M_rlB (F0 := nthF fs 0) (F1 := nthF fs 1) (F2 := nthF fs 2) (N0 := nthZ zs 0) (N1 := nthZ zs 1) (N2 := nthZ zs 2) (N3 := nthZ zs 3) (N4 := nthZ zs 4) <;> first | assumption | omega
  rcases List.mem_cons.mp hx with hx | hx
  · rw [hx]; refine s_rl.mpr ?_; exact L
  · cases hx
def q_rlF : qRl := ([(1045, [2, 0, 1, 0, 2, 3], []), sp 0 [(3, (-1))], (1, [0, 0, 4], []), sp 0 [(4, 1), (2, (-1))], sp 0 []], [(1044, [2, 0, 1, 0, 1], [])])
theorem q_rlF_ok : RlOk q_rlF := by
  intro fs zs h x hx
  obtain ⟨P0, h⟩ := snAll h
  replace P0 := s_rl.mp P0
  obtain ⟨P1, h⟩ := snAll h
  replace P1 := sp_1.mp P1
  obtain ⟨P2, h⟩ := snAll h
  replace P2 := s_rd.mp P2
  obtain ⟨P3, h⟩ := snAll h
  replace P3 := sp_2.mp P3
  obtain ⟨P4, h⟩ := snAll h
  replace P4 := sp_0.mp P4
  have L : eRs ((nthF fs 0)) ((nthF fs 1)) ((nthZ zs 0)) ((nthZ zs 1)) := by
    apply M_rlF (F0 := nthF fs 0) (F1 := nthF fs 1) (N0 := nthZ zs 0) (N1 := nthZ zs 1) (N2 := nthZ zs 2) (N3 := nthZ zs 3) (N4 := nthZ zs 4) <;> first | assumption | omega
  rcases List.mem_cons.mp hx with hx | hx
  · rw [hx]; refine s_rs.mpr ?_; exact L
  · cases hx
def q_rsG5 : qRl := ([(1044, [2, 0, 1, 4, 5], []), sp 0 [(5, (-1))], (1, [0, 6, 7], []), sp 0 [(6, 1)], sp (-1) [(0, 1), (6, (-1))], sp 1 [(0, 1), (1, (-1))], sp 1 [(3, 1), (0, (-1)), (4, 1)], sp 1 [(7, 1), (2, (-1))]], [(19, [1, 0, 0, 1, 2, 3], [])])
theorem q_rsG5_ok : RlOk q_rsG5 := by
  intro fs zs h x hx
  obtain ⟨P0, h⟩ := snAll h
  replace P0 := s_rs.mp P0
  obtain ⟨P1, h⟩ := snAll h
  replace P1 := sp_1.mp P1
  obtain ⟨P2, h⟩ := snAll h
  replace P2 := s_rd.mp P2
  obtain ⟨P3, h⟩ := snAll h
  replace P3 := sp_1.mp P3
  obtain ⟨P4, h⟩ := snAll h
  replace P4 := sp_2.mp P4
  obtain ⟨P5, h⟩ := snAll h
  replace P5 := sp_2.mp P5
  obtain ⟨P6, h⟩ := snAll h
  replace P6 := sp_3.mp P6
  obtain ⟨P7, h⟩ := snAll h
  replace P7 := sp_2.mp P7
  have L : ∀ x, (nthZ zs 0) ≤ x → x < (nthZ zs 1) → ((nthZ zs 2) ≤ (nthF fs 0) x ∨ 0 ≤ (nthZ zs 3)) := by
    apply M_rsG5 (F0 := nthF fs 0) (F1 := nthF fs 1) (N0 := nthZ zs 0) (N1 := nthZ zs 1) (N2 := nthZ zs 2) (N3 := nthZ zs 3) (N4 := nthZ zs 4) (N5 := nthZ zs 5) (N6 := nthZ zs 6) (N7 := nthZ zs 7) <;> first | assumption | omega
  rcases List.mem_cons.mp hx with hx | hx
  · rw [hx]; refine s_ge_or.mpr ?_; exact L
  · cases hx
def q_rsG6 : qRl := ([(1044, [2, 0, 1, 4, 5], []), sp 0 [(5, (-1))], (5, [1, 0, 6, 7, 8], []), sp (-1) [(7, 1), (6, (-1))], sp 0 [(6, 1)], sp (-1) [(0, 1), (6, (-1))], sp 1 [(0, 1), (1, (-1))], sp 1 [(3, 1), (0, (-1)), (4, 1)], sp 1 [(8, 1), (2, (-1))]], [(19, [1, 0, 0, 1, 2, 3], [])])
theorem q_rsG6_ok : RlOk q_rsG6 := by
  intro fs zs h x hx
  obtain ⟨P0, h⟩ := snAll h
  replace P0 := s_rs.mp P0
  obtain ⟨P1, h⟩ := snAll h
  replace P1 := sp_1.mp P1
  obtain ⟨P2, h⟩ := snAll h
  replace P2 := s_ge.mp P2
  obtain ⟨P3, h⟩ := snAll h
  replace P3 := sp_2.mp P3
  obtain ⟨P4, h⟩ := snAll h
  replace P4 := sp_1.mp P4
  obtain ⟨P5, h⟩ := snAll h
  replace P5 := sp_2.mp P5
  obtain ⟨P6, h⟩ := snAll h
  replace P6 := sp_2.mp P6
  obtain ⟨P7, h⟩ := snAll h
  replace P7 := sp_3.mp P7
  obtain ⟨P8, h⟩ := snAll h
  replace P8 := sp_2.mp P8
  have L : ∀ x, (nthZ zs 0) ≤ x → x < (nthZ zs 1) → ((nthZ zs 2) ≤ (nthF fs 0) x ∨ 0 ≤ (nthZ zs 3)) := by
    apply M_rsG6 (F0 := nthF fs 0) (F1 := nthF fs 1) (N0 := nthZ zs 0) (N1 := nthZ zs 1) (N2 := nthZ zs 2) (N3 := nthZ zs 3) (N4 := nthZ zs 4) (N5 := nthZ zs 5) (N6 := nthZ zs 6) (N7 := nthZ zs 7) (N8 := nthZ zs 8) <;> first | assumption | omega
  rcases List.mem_cons.mp hx with hx | hx
  · rw [hx]; refine s_ge_or.mpr ?_; exact L
  · cases hx
