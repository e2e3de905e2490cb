/-- one place written: what was counted there is counted no more -/
theorem eCn_wr {F G : Int → Int} {v i z : Int} (h : ∀ x : Int, G x = if x = i then z else F x) (h0 : F i = v) (hz : z ≠ v) (hi : 0 ≤ i) : ∀ n : Nat, eCn G (fun x => decide (x = v)) n + (if i < n then 1 else 0) = eCn F (fun x => decide (x = v)) n
  | 0 => by rw [if_neg (by omega)]; rfl
  | n + 1 => by
    have ih := eCn_wr h h0 hz hi n
    show eCn G (fun x => decide (x = v)) n + (if decide (G n = v) then 1 else 0) + _ = eCn F (fun x => decide (x = v)) n + (if decide (F n = v) then 1 else 0)
    rw [h n]
    by_cases c : (n : Int) = i
    · rw [if_pos c, c, h0]
      rw [if_neg (by omega)] at ih
      rw [if_pos (show i < ((n + 1 : Nat) : Int) by omega)]
      have e1 : decide (z = v) = false := decide_eq_false hz
      have e2 : decide (v = v) = true := decide_eq_true rfl
      rw [e1, e2]
      simp only [Bool.false_eq_true, if_false, if_true]
      omega
    · rw [if_neg c]
      by_cases d : i < (n : Int)
      · rw [if_pos d] at ih
        rw [if_pos (show i < ((n + 1 : Nat) : Int) by omega)]
        omega
      · rw [if_neg d] at ih
        rw [if_neg (show ¬ i < ((n + 1 : Nat) : Int) by omega)]
        omega
theorem eMn_le {K S : Int → Int} : ∀ n : Nat, eMn K S n ≤ n
  | 0 => Int.le_refl _
  | n + 1 => by
    have := eMn_le (K := K) (S := S) n
    show eMn K S n + (if K n = 4 ∧ S n = 2 then 1 else 0) ≤ ((n + 1 : Nat) : Int)
    split <;> omega
theorem eMn_0 {K S : Int → Int} : ∀ n : Nat, 0 ≤ eMn K S n
  | 0 => Int.le_refl _
  | n + 1 => by
    have := eMn_0 (K := K) (S := S) n
    show 0 ≤ eMn K S n + (if K n = 4 ∧ S n = 2 then 1 else 0)
    split <;> omega
theorem eMn_same {K S T : Int → Int} {i z : Int} (h : ∀ x : Int, T x = if x = i then z else S x) (hk : K i ≠ 4) : ∀ n : Nat, eMn K T n = eMn K S n
  | 0 => rfl
  | n + 1 => by
    show eMn K T n + (if K n = 4 ∧ T n = 2 then 1 else 0) = eMn K S n + (if K n = 4 ∧ S n = 2 then 1 else 0)
    rw [eMn_same h hk n, h n]
    by_cases c : (n : Int) = i
    · rw [if_pos c, c, if_neg (show ¬ (K i = 4 ∧ z = 2) from fun q => hk q.1), if_neg (show ¬ (K i = 4 ∧ S i = 2) from fun q => hk q.1)]
    · rw [if_neg c]
theorem eMn_wr {K S T : Int → Int} {i z : Int} (h : ∀ x : Int, T x = if x = i then z else S x) (hk : K i = 4) (h0 : S i = 2) (hz : z ≠ 2) (hi : 0 ≤ i) : ∀ n : Nat, eMn K T n + (if i < n then 1 else 0) = eMn K S n
  | 0 => by rw [if_neg (by omega)]; rfl
  | n + 1 => by
    have ih := eMn_wr h hk h0 hz hi n
    show eMn K T n + (if K n = 4 ∧ T n = 2 then 1 else 0) + _ = eMn K S n + (if K n = 4 ∧ S n = 2 then 1 else 0)
    rw [h n]
    by_cases c : (n : Int) = i
    · rw [if_pos c, c, if_neg (show ¬ (K i = 4 ∧ z = 2) from fun q => hz q.2), if_pos (show K i = 4 ∧ S i = 2 from ⟨hk, h0⟩)]
      rw [if_neg (by omega)] at ih
      rw [if_pos (show i < ((n + 1 : Nat) : Int) by omega)]
      omega
    · rw [if_neg c]
      by_cases d : i < (n : Int)
      · rw [if_pos d] at ih
        rw [if_pos (show i < ((n + 1 : Nat) : Int) by omega)]
        omega
      · rw [if_neg d] at ih
        rw [if_neg (show ¬ i < ((n + 1 : Nat) : Int) by omega)]
        omega
theorem M_awcI {F0 : Int → Int} {N0 N1 N2 N3 : Int} (H0 : ∀ x : Int, (N1) ≤ x → x < (N2) → (F0) x ∈ kvWc) (H1 : F0 N0 = N3) (H2 : N1 ≤ N0) (H3 : N0 + 1 ≤ N2) : (N3) ∈ kvWc := by
  rw [← H1]
  exact H0 N0 (by omega) (by omega)
theorem M_arcI {F0 : Int → Int} {N0 N1 N2 N3 : Int} (H0 : ∀ x : Int, (N1) ≤ x → x < (N2) → (F0) x ∈ kvRc) (H1 : F0 N0 = N3) (H2 : N1 ≤ N0) (H3 : N0 + 1 ≤ N2) : (N3) ∈ kvRc := by
  rw [← H1]
  exact H0 N0 (by omega) (by omega)
theorem M_am6I {F0 : Int → Int} {N0 N1 N2 N3 : Int} (H0 : ∀ x : Int, (N1) ≤ x → x < (N2) → cM6 ((F0) x)) (H1 : F0 N0 = N3) (H2 : N1 ≤ N0) (H3 : N0 + 1 ≤ N2) : cM6 (N3) := by
  rw [← H1]
  exact H0 N0 (by omega) (by omega)
theorem M_aknI {F0 : Int → Int} {N0 N1 N2 N3 : Int} (H0 : ∀ x : Int, (N1) ≤ x → x < (N2) → cKna x ((F0) x)) (H1 : F0 N0 = N3) (H2 : N1 ≤ N0) (H3 : N0 + 1 ≤ N2) : cKna (N0) (N3) := by
  rw [← H1]
  exact H0 N0 (by omega) (by omega)
theorem M_akwI {F0 : Int → Int} {N0 N1 N2 N3 : Int} (H0 : ∀ x : Int, (N1) ≤ x → x < (N2) → cKwi x ((F0) x)) (H1 : F0 N0 = N3) (H2 : N1 ≤ N0) (H3 : N0 + 1 ≤ N2) : cKwi (N0) (N3) := by
  rw [← H1]
  exact H0 N0 (by omega) (by omega)
theorem M_detE_labelSection {F0 F1 F2 : Int → Int} {N0 N1 N2 N3 : Int} (H0 : dEv 1177 [(F0), (F1), (F2)] [(N0)] = some (N1)) (H1 : dEv 1177 [(F0), (F1), (F2)] [(N2)] = some (N3)) (H2 : N2 = N0) : (N3 ≤ N1) ∧ (N1 ≤ N3) := by
  subst_vars
  rw [H0] at H1
  cases H1; omega
theorem M_mc0 {F0 : Int → Int} {N0 N1 N2 N3 : Int} (H0 : 0 ≤ N0) (H1 : N2 = 0) (H2 : N0 ≤ N3) : eMc (F0) (N0) (N1) (N2) (N3) := by
  exact ⟨by omega, by have := eCn_bd (F := F0) (b := fun x => decide (x = N1)) N0.toNat; omega⟩
theorem M_mcW0 {F0 F1 F2 F3 F4 : Int → Int} {N0 N1 N2 N3 N4 N5 N6 N7 N8 : Int} (H0 : ∀ x : Int, F4 x = if x = N6 then N7 else F0 x) (H1 : eMc (F0) (N0) (N1) (N5) (N3)) (H2 : F0 N6 = N8) (H3 : N8 = N1) (H4 : N1 + 1 ≤ N7) (H5 : 0 ≤ N6) (H6 : N6 + 1 ≤ N0) (H7 : N5 = N2 + -1) : eMc (F4) (N0) (N1) (N2) (N3) := by
  obtain ⟨a, b⟩ := H1
  have q := eCn_wr H0 (show F0 N6 = N1 by omega) (by omega) (by omega) N0.toNat
  rw [if_pos (by omega)] at q
  exact ⟨a, by omega⟩
theorem M_mcW1 {F0 F1 F2 F3 F4 : Int → Int} {N0 N1 N2 N3 N4 N5 N6 N7 N8 : Int} (H0 : ∀ x : Int, F4 x = if x = N6 then N7 else F0 x) (H1 : eMc (F0) (N0) (N1) (N5) (N3)) (H2 : F0 N6 = N8) (H3 : N8 = N1) (H4 : N7 + 1 ≤ N1) (H5 : 0 ≤ N6) (H6 : N6 + 1 ≤ N0) (H7 : N5 = N2 + -1) : eMc (F4) (N0) (N1) (N2) (N3) := by
  obtain ⟨a, b⟩ := H1
  have q := eCn_wr H0 (show F0 N6 = N1 by omega) (by omega) (by omega) N0.toNat
  rw [if_pos (by omega)] at q
  exact ⟨a, by omega⟩
theorem M_mcD0 {F0 F1 F2 F3 F4 : Int → Int} {N0 N1 N2 N3 N4 N5 N6 N7 N8 N9 N10 N11 : Int} (H0 : ∀ x : Int, F4 x = if x = N6 then N7 else F0 x) (H1 : eMc (F0) (N0) (N1) (N5) (N3)) (H2 : F0 N9 = N8) (H3 : dEv 1177 [(F1), (F2), (F3)] [(N10)] = some (N9)) (H4 : dEv 1177 [(F1), (F2), (F3)] [(N11)] = some (N6)) (H5 : N11 = N10) (H6 : N8 = N1) (H7 : N1 + 1 ≤ N7) (H8 : 0 ≤ N6) (H9 : N6 + 1 ≤ N0) (H10 : N5 = N2 + -1) : eMc (F4) (N0) (N1) (N2) (N3) := by
  have e : N9 = N6 := by
    rw [show N11 = N10 by omega, H3] at H4
    exact Option.some.inj H4
  obtain ⟨a, b⟩ := H1
  have q := eCn_wr H0 (show F0 N6 = N1 by rw [← e]; omega) (by omega) (by omega) N0.toNat
  rw [if_pos (by omega)] at q
  exact ⟨a, by omega⟩
theorem M_mcD1 {F0 F1 F2 F3 F4 : Int → Int} {N0 N1 N2 N3 N4 N5 N6 N7 N8 N9 N10 N11 : Int} (H0 : ∀ x : Int, F4 x = if x = N6 then N7 else F0 x) (H1 : eMc (F0) (N0) (N1) (N5) (N3)) (H2 : F0 N9 = N8) (H3 : dEv 1177 [(F1), (F2), (F3)] [(N10)] = some (N9)) (H4 : dEv 1177 [(F1), (F2), (F3)] [(N11)] = some (N6)) (H5 : N11 = N10) (H6 : N8 = N1) (H7 : N7 + 1 ≤ N1) (H8 : 0 ≤ N6) (H9 : N6 + 1 ≤ N0) (H10 : N5 = N2 + -1) : eMc (F4) (N0) (N1) (N2) (N3) := by
  have e : N9 = N6 := by
    rw [show N11 = N10 by omega, H3] at H4
    exact Option.some.inj H4
  obtain ⟨a, b⟩ := H1
  have q := eCn_wr H0 (show F0 N6 = N1 by rw [← e]; omega) (by omega) (by omega) N0.toNat
  rw [if_pos (by omega)] at q
  exact ⟨a, by omega⟩
theorem M_mcL {F0 : Int → Int} {N0 N1 N2 N3 : Int} (H0 : eMc (F0) (N0) (N1) (N2) (N3)) : N2 ≤ N3 := by
  obtain ⟨a, b⟩ := H0
  have := eCn_nn (F := F0) (b := fun x => decide (x = N1)) N0.toNat
  omega
theorem M_mb0 {F0 F1 : Int → Int} {N0 N1 N2 : Int} (H0 : 0 ≤ N0) (H1 : N1 = 0) (H2 : N0 ≤ N2) : eMb (F0) (F1) (N0) (N1) (N2) := by
  exact ⟨by omega, by have := eMn_le (K := F0) (S := F1) N0.toNat; omega⟩
theorem M_mbK0 {F0 F1 F2 F3 F4 : Int → Int} {N0 N1 N2 N3 N4 N5 N6 N7 N8 : Int} (H0 : ∀ x : Int, F4 x = if x = N6 then N7 else F1 x) (H1 : eMb (F0) (F1) (N0) (N1) (N2)) (H2 : F0 N6 = N8) (H3 : 5 ≤ N8) : eMb (F0) (F4) (N0) (N1) (N2) := by
  obtain ⟨a, b⟩ := H1
  exact ⟨a, by rw [eMn_same H0 (by omega)]; exact b⟩
theorem M_mbK1 {F0 F1 F2 F3 F4 : Int → Int} {N0 N1 N2 N3 N4 N5 N6 N7 N8 : Int} (H0 : ∀ x : Int, F4 x = if x = N6 then N7 else F1 x) (H1 : eMb (F0) (F1) (N0) (N1) (N2)) (H2 : F0 N6 = N8) (H3 : N8 ≤ 3) : eMb (F0) (F4) (N0) (N1) (N2) := by
  obtain ⟨a, b⟩ := H1
  exact ⟨a, by rw [eMn_same H0 (by omega)]; exact b⟩
theorem M_mbW {F0 F1 F2 F3 F4 : Int → Int} {N0 N1 N2 N3 N4 N5 N6 N7 N8 N9 : Int} (H0 : ∀ x : Int, F4 x = if x = N6 then N7 else F1 x) (H1 : eMb (F0) (F1) (N0) (N5) (N2)) (H2 : F0 N6 = N8) (H3 : N8 = 4) (H4 : F1 N6 = N9) (H5 : N9 = 2) (H6 : 3 ≤ N7) (H7 : 0 ≤ N6) (H8 : N6 + 1 ≤ N0) (H9 : N5 = N1 + -1) : eMb (F0) (F4) (N0) (N1) (N2) := by
  obtain ⟨a, b⟩ := H1
  have q := eMn_wr H0 (show F0 N6 = 4 by omega) (show F1 N6 = 2 by omega) (by omega) (by omega) N0.toNat
  rw [if_pos (by omega)] at q
  exact ⟨a, by omega⟩
theorem M_mbL {F0 F1 : Int → Int} {N0 N1 N2 : Int} (H0 : eMb (F0) (F1) (N0) (N1) (N2)) : N1 ≤ N2 := by
  obtain ⟨a, b⟩ := H0
  have := eMn_0 (K := F0) (S := F1) N0.toNat
  omega
/-! WHAT ARRAYS OF CONSTANTS HOLD: the rules (written by wip/p2/grp.py) -/
section
variable {fs : List (Int → Int)} {zs : List Int}
theorem s_awc {a0 i0 i1 : Nat} : SnOk fs zs (1175, [1, a0, i0, i1], []) ↔ ∀ x : Int, (nthZ zs i0) ≤ x → x < (nthZ zs i1) → (nthF fs a0) x ∈ kvWc := Iff.rfl
theorem s_arc {a0 i0 i1 : Nat} : SnOk fs zs (1176, [1, a0, i0, i1], []) ↔ ∀ x : Int, (nthZ zs i0) ≤ x → x < (nthZ zs i1) → (nthF fs a0) x ∈ kvRc := Iff.rfl
theorem s_am6 {a0 i0 i1 : Nat} : SnOk fs zs (1177, [1, a0, i0, i1], []) ↔ ∀ x : Int, (nthZ zs i0) ≤ x → x < (nthZ zs i1) → cM6 ((nthF fs a0) x) := Iff.rfl
theorem s_akn {a0 i0 i1 : Nat} : SnOk fs zs (1178, [1, a0, i0, i1], []) ↔ ∀ x : Int, (nthZ zs i0) ≤ x → x < (nthZ zs i1) → cKna x ((nthF fs a0) x) := Iff.rfl
theorem s_akw {a0 i0 i1 : Nat} : SnOk fs zs (1179, [1, a0, i0, i1], []) ↔ ∀ x : Int, (nthZ zs i0) ≤ x → x < (nthZ zs i1) → cKwi x ((nthF fs a0) x) := Iff.rfl
theorem s_mc {a0 i0 i1 i2 i3 : Nat} : SnOk fs zs (1181, [1, a0, i0, i1, i2, i3], []) ↔ eMc (nthF fs a0) (nthZ zs i0) (nthZ zs i1) (nthZ zs i2) (nthZ zs i3) := Iff.rfl
theorem s_mb {a0 a1 i0 i1 i2 : Nat} : SnOk fs zs (1182, [2, a0, a1, i0, i1, i2], []) ↔ eMb (nthF fs a0) (nthF fs a1) (nthZ zs i0) (nthZ zs i1) (nthZ zs i2) := Iff.rfl
theorem s_det_labelSection {a0 a1 a2 i0 i1 : Nat} : SnOk fs zs (1180, [3, a0, a1, a2, i0, i1], []) ↔ dEv 1177 [(nthF fs a0), (nthF fs a1), (nthF fs a2)] [(nthZ zs i0)] = some (nthZ zs i1) := Iff.rfl
end
def q_awcI : qRl := ([(1175, [1, 0, 1, 2], []), (1, [0, 0, 3], []), sp 0 [(0, 1), (1, (-1))], sp (-1) [(2, 1), (0, (-1))]], [(1049, [0, 3], [])])
theorem q_awcI_ok : RlOk q_awcI := by
  intro fs zs h x hx
  obtain ⟨P0, h⟩ := snAll h
  replace P0 := s_awc.mp P0
  obtain ⟨P1, h⟩ := snAll h
  replace P1 := s_rd.mp P1
  obtain ⟨P2, h⟩ := snAll h
  replace P2 := sp_2.mp P2
  obtain ⟨P3, h⟩ := snAll h
  replace P3 := sp_2.mp P3
  have L : ((nthZ zs 3)) ∈ kvWc := by
    apply M_awcI (F0 := nthF fs 0) (N0 := nthZ zs 0) (N1 := nthZ zs 1) (N2 := nthZ zs 2) (N3 := nthZ zs 3) <;> first | assumption | omega
  rcases List.mem_cons.mp hx with hx | hx
  · rw [hx]; refine s_kv_m_wordCode.mpr ?_; exact L
  · cases hx
def q_arcI : qRl := ([(1176, [1, 0, 1, 2], []), (1, [0, 0, 3], []), sp 0 [(0, 1), (1, (-1))], sp (-1) [(2, 1), (0, (-1))]], [(1050, [0, 3], [])])
theorem q_arcI_ok : RlOk q_arcI := by
  intro fs zs h x hx
  obtain ⟨P0, h⟩ := snAll h
  replace P0 := s_arc.mp P0
  obtain ⟨P1, h⟩ := snAll h
  replace P1 := s_rd.mp P1
  obtain ⟨P2, h⟩ := snAll h
  replace P2 := sp_2.mp P2
  obtain ⟨P3, h⟩ := snAll h
  replace P3 := sp_2.mp P3
  have L : ((nthZ zs 3)) ∈ kvRc := by
    apply M_arcI (F0 := nthF fs 0) (N0 := nthZ zs 0) (N1 := nthZ zs 1) (N2 := nthZ zs 2) (N3 := nthZ zs 3) <;> first | assumption | omega
  rcases List.mem_cons.mp hx with hx | hx
  · rw [hx]; refine s_kv_m_registerCode.mpr ?_; exact L
  · cases hx
def q_am6I : qRl := ([(1177, [1, 0, 1, 2], []), (1, [0, 0, 3], []), sp 0 [(0, 1), (1, (-1))], sp (-1) [(2, 1), (0, (-1))]], [(1089, [0, 3], [])])
theorem q_am6I_ok : RlOk q_am6I := by
  intro fs zs h x hx
  obtain ⟨P0, h⟩ := snAll h
  replace P0 := s_am6.mp P0
  obtain ⟨P1, h⟩ := snAll h
  replace P1 := s_rd.mp P1
  obtain ⟨P2, h⟩ := snAll h
  replace P2 := sp_2.mp P2
  obtain ⟨P3, h⟩ := snAll h
  replace P3 := sp_2.mp P3
  have L : cM6 ((nthZ zs 3)) := by
    apply M_am6I (F0 := nthF fs 0) (N0 := nthZ zs 0) (N1 := nthZ zs 1) (N2 := nthZ zs 2) (N3 := nthZ zs 3) <;> first | assumption | omega
  rcases List.mem_cons.mp hx with hx | hx
  · rw [hx]; refine s_m6.mpr ?_; exact L
  · cases hx
def q_aknI : qRl := ([(1178, [1, 0, 1, 2], []), (1, [0, 0, 3], []), sp 0 [(0, 1), (1, (-1))], sp (-1) [(2, 1), (0, (-1))]], [(1112, [0, 0, 3], [])])
theorem q_aknI_ok : RlOk q_aknI := by
  intro fs zs h x hx
  obtain ⟨P0, h⟩ := snAll h
  replace P0 := s_akn.mp P0
  obtain ⟨P1, h⟩ := snAll h
  replace P1 := s_rd.mp P1
  obtain ⟨P2, h⟩ := snAll h
  replace P2 := sp_2.mp P2
  obtain ⟨P3, h⟩ := snAll h
  replace P3 := sp_2.mp P3
  have L : cKna ((nthZ zs 0)) ((nthZ zs 3)) := by
    apply M_aknI (F0 := nthF fs 0) (N0 := nthZ zs 0) (N1 := nthZ zs 1) (N2 := nthZ zs 2) (N3 := nthZ zs 3) <;> first | assumption | omega
  rcases List.mem_cons.mp hx with hx | hx
  · rw [hx]; refine s_kna.mpr ?_; exact L
  · cases hx
def q_akwI : qRl := ([(1179, [1, 0, 1, 2], []), (1, [0, 0, 3], []), sp 0 [(0, 1), (1, (-1))], sp (-1) [(2, 1), (0, (-1))]], [(1113, [0, 0, 3], [])])
theorem q_akwI_ok : RlOk q_akwI := by
  intro fs zs h x hx
  obtain ⟨P0, h⟩ := snAll h
  replace P0 := s_akw.mp P0
  obtain ⟨P1, h⟩ := snAll h
  replace P1 := s_rd.mp P1
  obtain ⟨P2, h⟩ := snAll h
  replace P2 := sp_2.mp P2
  obtain ⟨P3, h⟩ := snAll h
  replace P3 := sp_2.mp P3
  have L : cKwi ((nthZ zs 0)) ((nthZ zs 3)) := by
    apply M_akwI (F0 := nthF fs 0) (N0 := nthZ zs 0) (N1 := nthZ zs 1) (N2 := nthZ zs 2) (N3 := nthZ zs 3) <;> first | assumption | omega
  rcases List.mem_cons.mp hx with hx | hx
  · rw [hx]; refine s_kwi.mpr ?_; exact L
  · cases hx
def q_detE_labelSection : qRl := ([(1180, [3, 0, 1, 2, 0, 1], []), (1180, [3, 0, 1, 2, 2, 3], []), sp 0 [(0, 1), (2, (-1))], sp 0 [(2, 1), (0, (-1))]], [sp 0 [(1, 1), (3, (-1))], sp 0 [(3, 1), (1, (-1))]])
theorem q_detE_labelSection_ok : RlOk q_detE_labelSection := by
  intro fs zs h x hx
  obtain ⟨P0, h⟩ := snAll h
  replace P0 := s_det_labelSection.mp P0
  obtain ⟨P1, h⟩ := snAll h
  replace P1 := s_det_labelSection.mp P1
  obtain ⟨P2, h⟩ := snAll h
  replace P2 := sp_2.mp P2
  obtain ⟨P3, h⟩ := snAll h
  replace P3 := sp_2.mp P3
  have L : ((nthZ zs 3) ≤ (nthZ zs 1)) ∧ ((nthZ zs 1) ≤ (nthZ zs 3)) := by
    apply M_detE_labelSection (F0 := nthF fs 0) (F1 := nthF fs 1) (F2 := nthF fs 2) (N0 := nthZ zs 0) (N1 := nthZ zs 1) (N2 := nthZ zs 2) (N3 := nthZ zs 3) <;> first | assumption | omega
  obtain ⟨L0, L1⟩ := L
  rcases List.mem_cons.mp hx with hx | hx
  · rw [hx]; refine sp_2.mpr ?_; omega
  rcases List.mem_cons.mp hx with hx | hx
  · rw [hx]; refine sp_2.mpr ?_; omega
  · cases hx
def q_mc0 : qRl := ([sp 0 [(0, 1)], sp 0 [(2, 1)], sp 0 [(2, (-1))], sp 0 [(3, 1), (0, (-1))]], [(1181, [1, 0, 0, 1, 2, 3], [])])
theorem q_mc0_ok : RlOk q_mc0 := by
  intro fs zs h x hx
  obtain ⟨P0, h⟩ := snAll h
  replace P0 := sp_1.mp P0
  obtain ⟨P1, h⟩ := snAll h
  replace P1 := sp_1.mp P1
  obtain ⟨P2, h⟩ := snAll h
  replace P2 := sp_1.mp P2
  obtain ⟨P3, h⟩ := snAll h
  replace P3 := sp_2.mp P3
  have L : eMc ((nthF fs 0)) ((nthZ zs 0)) ((nthZ zs 1)) ((nthZ zs 2)) ((nthZ zs 3)) := by
    apply M_mc0 (F0 := nthF fs 0) (N0 := nthZ zs 0) (N1 := nthZ zs 1) (N2 := nthZ zs 2) (N3 := nthZ zs 3) <;> first | assumption | omega
  rcases List.mem_cons.mp hx with hx | hx
  · rw [hx]; refine s_mc.mpr ?_; exact L
  · cases hx
def q_mcW0 : qRl := ([(2, [4, 0, 6, 7], []), (1181, [1, 0, 0, 1, 5, 3], []), (1, [0, 6, 8], []), sp 0 [(8, 1), (1, (-1))], sp 0 [(1, 1), (8, (-1))], sp (-1) [(7, 1), (1, (-1))], sp 0 [(6, 1)], sp (-1) [(0, 1), (6, (-1))], sp (-1) [(2, 1), (5, (-1))], sp 1 [(5, 1), (2, (-1))]], [(1181, [1, 4, 0, 1, 2, 3], [])])
theorem q_mcW0_ok : RlOk q_mcW0 := by
  intro fs zs h x hx
  obtain ⟨P0, h⟩ := snAll h
  replace P0 := s_wr.mp P0
  obtain ⟨P1, h⟩ := snAll h
  replace P1 := s_mc.mp P1
  obtain ⟨P2, h⟩ := snAll h
  replace P2 := s_rd.mp P2
  obtain ⟨P3, h⟩ := snAll h
  replace P3 := sp_2.mp P3
  obtain ⟨P4, h⟩ := snAll h
  replace P4 := sp_2.mp P4
  obtain ⟨P5, h⟩ := snAll h
  replace P5 := sp_2.mp P5
  obtain ⟨P6, h⟩ := snAll h
  replace P6 := sp_1.mp P6
  obtain ⟨P7, h⟩ := snAll h
  replace P7 := sp_2.mp P7
  obtain ⟨P8, h⟩ := snAll h
  replace P8 := sp_2.mp P8
  obtain ⟨P9, h⟩ := snAll h
  replace P9 := sp_2.mp P9
  have L : eMc ((nthF fs 4)) ((nthZ zs 0)) ((nthZ zs 1)) ((nthZ zs 2)) ((nthZ zs 3)) := by
    apply M_mcW0 (F0 := nthF fs 0) (F1 := nthF fs 1) (F2 := nthF fs 2) (F3 := nthF fs 3) (F4 := nthF fs 4) (N0 := nthZ zs 0) (N1 := nthZ zs 1) (N2 := nthZ zs 2) (N3 := nthZ zs 3) (N4 := nthZ zs 4) (N5 := nthZ zs 5) (N6 := nthZ zs 6) (N7 := nthZ zs 7) (N8 := nthZ zs 8) <;> first | assumption | omega
  rcases List.mem_cons.mp hx with hx | hx
  · rw [hx]; refine s_mc.mpr ?_; exact L
  · cases hx
def q_mcW1 : qRl := ([(2, [4, 0, 6, 7], []), (1181, [1, 0, 0, 1, 5, 3], []), (1, [0, 6, 8], []), sp 0 [(8, 1), (1, (-1))], sp 0 [(1, 1), (8, (-1))], sp (-1) [(1, 1), (7, (-1))], sp 0 [(6, 1)], sp (-1) [(0, 1), (6, (-1))], sp (-1) [(2, 1), (5, (-1))], sp 1 [(5, 1), (2, (-1))]], [(1181, [1, 4, 0, 1, 2, 3], [])])
theorem q_mcW1_ok : RlOk q_mcW1 := by
  intro fs zs h x hx
  obtain ⟨P0, h⟩ := snAll h
  replace P0 := s_wr.mp P0
  obtain ⟨P1, h⟩ := snAll h
  replace P1 := s_mc.mp P1
  obtain ⟨P2, h⟩ := snAll h
  replace P2 := s_rd.mp P2
  obtain ⟨P3, h⟩ := snAll h
  replace P3 := sp_2.mp P3
  obtain ⟨P4, h⟩ := snAll h
  replace P4 := sp_2.mp P4
  obtain ⟨P5, h⟩ := snAll h
  replace P5 := sp_2.mp P5
  obtain ⟨P6, h⟩ := snAll h
  replace P6 := sp_1.mp P6
  obtain ⟨P7, h⟩ := snAll h
  replace P7 := sp_2.mp P7
  obtain ⟨P8, h⟩ := snAll h
  replace P8 := sp_2.mp P8
  obtain ⟨P9, h⟩ := snAll h
  replace P9 := sp_2.mp P9
  have L : eMc ((nthF fs 4)) ((nthZ zs 0)) ((nthZ zs 1)) ((nthZ zs 2)) ((nthZ zs 3)) := by
    apply M_mcW1 (F0 := nthF fs 0) (F1 := nthF fs 1) (F2 := nthF fs 2) (F3 := nthF fs 3) (F4 := nthF fs 4) (N0 := nthZ zs 0) (N1 := nthZ zs 1) (N2 := nthZ zs 2) (N3 := nthZ zs 3) (N4 := nthZ zs 4) (N5 := nthZ zs 5) (N6 := nthZ zs 6) (N7 := nthZ zs 7) (N8 := nthZ zs 8) <;> first | assumption | omega
  rcases List.mem_cons.mp hx with hx | hx
  · rw [hx]; refine s_mc.mpr ?_; exact L
  · cases hx
def q_mcD0 : qRl := ([(2, [4, 0, 6, 7], []), (1181, [1, 0, 0, 1, 5, 3], []), (1, [0, 9, 8], []), (1180, [3, 1, 2, 3, 10, 9], []), (1180, [3, 1, 2, 3, 11, 6], []), sp 0 [(10, 1), (11, (-1))], sp 0 [(11, 1), (10, (-1))], sp 0 [(8, 1), (1, (-1))], sp 0 [(1, 1), (8, (-1))], sp (-1) [(7, 1), (1, (-1))], sp 0 [(6, 1)], sp (-1) [(0, 1), (6, (-1))], sp (-1) [(2, 1), (5, (-1))], sp 1 [(5, 1), (2, (-1))]], [(1181, [1, 4, 0, 1, 2, 3], [])])
theorem q_mcD0_ok : RlOk q_mcD0 := by
  intro fs zs h x hx
  obtain ⟨P0, h⟩ := snAll h
  replace P0 := s_wr.mp P0
  obtain ⟨P1, h⟩ := snAll h
  replace P1 := s_mc.mp P1
  obtain ⟨P2, h⟩ := snAll h
  replace P2 := s_rd.mp P2
  obtain ⟨P3, h⟩ := snAll h
  replace P3 := s_det_labelSection.mp P3
  obtain ⟨P4, h⟩ := snAll h
  replace P4 := s_det_labelSection.mp P4
  obtain ⟨P5, h⟩ := snAll h
  replace P5 := sp_2.mp P5
  obtain ⟨P6, h⟩ := snAll h
  replace P6 := sp_2.mp P6
  obtain ⟨P7, h⟩ := snAll h
  replace P7 := sp_2.mp P7
  obtain ⟨P8, h⟩ := snAll h
  replace P8 := sp_2.mp P8
  obtain ⟨P9, h⟩ := snAll h
  replace P9 := sp_2.mp P9
  obtain ⟨P10, h⟩ := snAll h
  replace P10 := sp_1.mp P10
  obtain ⟨P11, h⟩ := snAll h
  replace P11 := sp_2.mp P11
  obtain ⟨P12, h⟩ := snAll h
  replace P12 := sp_2.mp P12
  obtain ⟨P13, h⟩ := snAll h
  replace P13 := sp_2.mp P13
  have L : eMc ((nthF fs 4)) ((nthZ zs 0)) ((nthZ zs 1)) ((nthZ zs 2)) ((nthZ zs 3)) := by
    apply M_mcD0 (F0 := nthF fs 0) (F1 := nthF fs 1) (F2 := nthF fs 2) (F3 := nthF fs 3) (F4 := nthF fs 4) (N0 := nthZ zs 0) (N1 := nthZ zs 1) (N2 := nthZ zs 2) (N3 := nthZ zs 3) (N4 := nthZ zs 4) (N5 := nthZ zs 5) (N6 := nthZ zs 6) (N7 := nthZ zs 7) (N8 := nthZ zs 8) (N9 := nthZ zs 9) (N10 := nthZ zs 10) (N11 := nthZ zs 11) <;> first | assumption | omega
  rcases List.mem_cons.mp hx with hx | hx
  · rw [hx]; refine s_mc.mpr ?_; exact L
  · cases hx
def q_mcD1 : qRl := ([(2, [4, 0, 6, 7], []), (1181, [1, 0, 0, 1, 5, 3], []), (1, [0, 9, 8], []), (1180, [3, 1, 2, 3, 10, 9], []), (1180, [3, 1, 2, 3, 11, 6], []), sp 0 [(10, 1), (11, (-1))], sp 0 [(11, 1), (10, (-1))], sp 0 [(8, 1), (1, (-1))], sp 0 [(1, 1), (8, (-1))], sp (-1) [(1, 1), (7, (-1))], sp 0 [(6, 1)], sp (-1) [(0, 1), (6, (-1))], sp (-1) [(2, 1), (5, (-1))], sp 1 [(5, 1), (2, (-1))]], [(1181, [1, 4, 0, 1, 2, 3], [])])
theorem q_mcD1_ok : RlOk q_mcD1 := by
  intro fs zs h x hx
  obtain ⟨P0, h⟩ := snAll h
  replace P0 := s_wr.mp P0
  obtain ⟨P1, h⟩ := snAll h
  replace P1 := s_mc.mp P1
  obtain ⟨P2, h⟩ := snAll h
  replace P2 := s_rd.mp P2
  obtain ⟨P3, h⟩ := snAll h
  replace P3 := s_det_labelSection.mp P3
  obtain ⟨P4, h⟩ := snAll h
  replace P4 := s_det_labelSection.mp P4
  obtain ⟨P5, h⟩ := snAll h
  replace P5 := sp_2.mp P5
  obtain ⟨P6, h⟩ := snAll h
  replace P6 := sp_2.mp P6
  obtain ⟨P7, h⟩ := snAll h
  replace P7 := sp_2.mp P7
  obtain ⟨P8, h⟩ := snAll h
  replace P8 := sp_2.mp P8
  obtain ⟨P9, h⟩ := snAll h
  replace P9 := sp_2.mp P9
  obtain ⟨P10, h⟩ := snAll h
  replace P10 := sp_1.mp P10
  obtain ⟨P11, h⟩ := snAll h
  replace P11 := sp_2.mp P11
  obtain ⟨P12, h⟩ := snAll h
  replace P12 := sp_2.mp P12
  obtain ⟨P13, h⟩ := snAll h
  replace P13 := sp_2.mp P13
  have L : eMc ((nthF fs 4)) ((nthZ zs 0)) ((nthZ zs 1)) ((nthZ zs 2)) ((nthZ zs 3)) := by
    apply M_mcD1 (F0 := nthF fs 0) (F1 := nthF fs 1) (F2 := nthF fs 2) (F3 := nthF fs 3) (F4 := nthF fs 4) (N0 := nthZ zs 0) (N1 := nthZ zs 1) (N2 := nthZ zs 2) (N3 := nthZ zs 3) (N4 := nthZ zs 4) (N5 := nthZ zs 5) (N6 := nthZ zs 6) (N7 := nthZ zs 7) (N8 := nthZ zs 8) (N9 := nthZ zs 9) (N10 := nthZ zs 10) (N11 := nthZ zs 11) <;> first | assumption | omega
  rcases List.mem_cons.mp hx with hx | hx
  · rw [hx]; refine s_mc.mpr ?_; exact L
  · cases hx
def q_mcL : qRl := ([(1181, [1, 0, 0, 1, 2, 3], [])], [sp 0 [(3, 1), (2, (-1))]])
theorem q_mcL_ok : RlOk q_mcL := by
  intro fs zs h x hx
  obtain ⟨P0, h⟩ := snAll h
  replace P0 := s_mc.mp P0
  have L : (nthZ zs 2) ≤ (nthZ zs 3) := by
    apply M_mcL (F0 := nthF fs 0) (N0 := nthZ zs 0) (N1 := nthZ zs 1) (N2 := nthZ zs 2) (N3 := nthZ zs 3) <;> first | assumption | omega
  rcases List.mem_cons.mp hx with hx | hx
  · rw [hx]; refine sp_2.mpr ?_; omega
  · cases hx
def q_mb0 : qRl := ([sp 0 [(0, 1)], sp 0 [(1, 1)], sp 0 [(1, (-1))], sp 0 [(2, 1), (0, (-1))]], [(1182, [2, 0, 1, 0, 1, 2], [])])
theorem q_mb0_ok : RlOk q_mb0 := by
  intro fs zs h x hx
  obtain ⟨P0, h⟩ := snAll h
  replace P0 := sp_1.mp P0
  obtain ⟨P1, h⟩ := snAll h
  replace P1 := sp_1.mp P1
  obtain ⟨P2, h⟩ := snAll h
  replace P2 := sp_1.mp P2
  obtain ⟨P3, h⟩ := snAll h
  replace P3 := sp_2.mp P3
  have L : eMb ((nthF fs 0)) ((nthF fs 1)) ((nthZ zs 0)) ((nthZ zs 1)) ((nthZ zs 2)) := by
    apply M_mb0 (F0 := nthF fs 0) (F1 := nthF fs 1) (N0 := nthZ zs 0) (N1 := nthZ zs 1) (N2 := nthZ zs 2) <;> first | assumption | omega
  rcases List.mem_cons.mp hx with hx | hx
  · rw [hx]; refine s_mb.mpr ?_; exact L
  · cases hx
def q_mbK0 : qRl := ([(2, [4, 1, 6, 7], []), (1182, [2, 0, 1, 0, 1, 2], []), (1, [0, 6, 8], []), sp (-5) [(8, 1)]], [(1182, [2, 0, 4, 0, 1, 2], [])])
theorem q_mbK0_ok : RlOk q_mbK0 := by
  intro fs zs h x hx
  obtain ⟨P0, h⟩ := snAll h
  replace P0 := s_wr.mp P0
  obtain ⟨P1, h⟩ := snAll h
  replace P1 := s_mb.mp P1
  obtain ⟨P2, h⟩ := snAll h
  replace P2 := s_rd.mp P2
  obtain ⟨P3, h⟩ := snAll h
  replace P3 := sp_1.mp P3
  have L : eMb ((nthF fs 0)) ((nthF fs 4)) ((nthZ zs 0)) ((nthZ zs 1)) ((nthZ zs 2)) := by
    apply M_mbK0 (F0 := nthF fs 0) (F1 := nthF fs 1) (F2 := nthF fs 2) (F3 := nthF fs 3) (F4 := nthF fs 4) (N0 := nthZ zs 0) (N1 := nthZ zs 1) (N2 := nthZ zs 2) (N3 := nthZ zs 3) (N4 := nthZ zs 4) (N5 := nthZ zs 5) (N6 := nthZ zs 6) (N7 := nthZ zs 7) (N8 := nthZ zs 8) <;> first | assumption | omega
  rcases List.mem_cons.mp hx with hx | hx
  · rw [hx]; refine s_mb.mpr ?_; exact L
  · cases hx
def q_mbK1 : qRl := ([(2, [4, 1, 6, 7], []), (1182, [2, 0, 1, 0, 1, 2], []), (1, [0, 6, 8], []), sp 3 [(8, (-1))]], [(1182, [2, 0, 4, 0, 1, 2], [])])
theorem q_mbK1_ok : RlOk q_mbK1 := by
  intro fs zs h x hx
  obtain ⟨P0, h⟩ := snAll h
  replace P0 := s_wr.mp P0
  obtain ⟨P1, h⟩ := snAll h
  replace P1 := s_mb.mp P1
  obtain ⟨P2, h⟩ := snAll h
  replace P2 := s_rd.mp P2
  obtain ⟨P3, h⟩ := snAll h
  replace P3 := sp_1.mp P3
  have L : eMb ((nthF fs 0)) ((nthF fs 4)) ((nthZ zs 0)) ((nthZ zs 1)) ((nthZ zs 2)) := by
    apply M_mbK1 (F0 := nthF fs 0) (F1 := nthF fs 1) (F2 := nthF fs 2) (F3 := nthF fs 3) (F4 := nthF fs 4) (N0 := nthZ zs 0) (N1 := nthZ zs 1) (N2 := nthZ zs 2) (N3 := nthZ zs 3) (N4 := nthZ zs 4) (N5 := nthZ zs 5) (N6 := nthZ zs 6) (N7 := nthZ zs 7) (N8 := nthZ zs 8) <;> first | assumption | omega
  rcases List.mem_cons.mp hx with hx | hx
  · rw [hx]; refine s_mb.mpr ?_; exact L
  · cases hx
def q_mbW : qRl := ([(2, [4, 1, 6, 7], []), (1182, [2, 0, 1, 0, 5, 2], []), (1, [0, 6, 8], []), sp (-4) [(8, 1)], sp 4 [(8, (-1))], (1, [1, 6, 9], []), sp (-2) [(9, 1)], sp 2 [(9, (-1))], sp (-3) [(7, 1)], sp 0 [(6, 1)], sp (-1) [(0, 1), (6, (-1))], sp (-1) [(1, 1), (5, (-1))], sp 1 [(5, 1), (1, (-1))]], [(1182, [2, 0, 4, 0, 1, 2], [])])
theorem q_mbW_ok : RlOk q_mbW := by
  intro fs zs h x hx
  obtain ⟨P0, h⟩ := snAll h
  replace P0 := s_wr.mp P0
  obtain ⟨P1, h⟩ := snAll h
  replace P1 := s_mb.mp P1
  obtain ⟨P2, h⟩ := snAll h
  replace P2 := s_rd.mp P2
  obtain ⟨P3, h⟩ := snAll h
  replace P3 := sp_1.mp P3
  obtain ⟨P4, h⟩ := snAll h
  replace P4 := sp_1.mp P4
  obtain ⟨P5, h⟩ := snAll h
  replace P5 := s_rd.mp P5
  obtain ⟨P6, h⟩ := snAll h
  replace P6 := sp_1.mp P6
  obtain ⟨P7, h⟩ := snAll h
  replace P7 := sp_1.mp P7
  obtain ⟨P8, h⟩ := snAll h
  replace P8 := sp_1.mp P8
  obtain ⟨P9, h⟩ := snAll h
  replace P9 := sp_1.mp P9
  obtain ⟨P10, h⟩ := snAll h
  replace P10 := sp_2.mp P10
  obtain ⟨P11, h⟩ := snAll h
  replace P11 := sp_2.mp P11
  obtain ⟨P12, h⟩ := snAll h
  replace P12 := sp_2.mp P12
  have L : eMb ((nthF fs 0)) ((nthF fs 4)) ((nthZ zs 0)) ((nthZ zs 1)) ((nthZ zs 2)) := by
    apply M_mbW (F0 := nthF fs 0) (F1 := nthF fs 1) (F2 := nthF fs 2) (F3 := nthF fs 3) (F4 := nthF fs 4) (N0 := nthZ zs 0) (N1 := nthZ zs 1) (N2 := nthZ zs 2) (N3 := nthZ zs 3) (N4 := nthZ zs 4) (N5 := nthZ zs 5) (N6 := nthZ zs 6) (N7 := nthZ zs 7) (N8 := nthZ zs 8) (N9 := nthZ zs 9) <;> first | assumption | omega
  rcases List.mem_cons.mp hx with hx | hx
  · rw [hx]; refine s_mb.mpr ?_; exact L
  · cases hx
def q_mbL : qRl := ([(1182, [2, 0, 1, 0, 1, 2], [])], [sp 0 [(2, 1), (1, (-1))]])
theorem q_mbL_ok : RlOk q_mbL := by
  intro fs zs h x hx
  obtain ⟨P0, h⟩ := snAll h
  replace P0 := s_mb.mp P0
  have L : (nthZ zs 1) ≤ (nthZ zs 2) := by
    apply M_mbL (F0 := nthF fs 0) (F1 := nthF fs 1) (N0 := nthZ zs 0) (N1 := nthZ zs 1) (N2 := nthZ zs 2) <;> first | assumption | omega
  rcases List.mem_cons.mp hx with hx | hx
  · rw [hx]; refine sp_2.mpr ?_; omega
  · cases hx
