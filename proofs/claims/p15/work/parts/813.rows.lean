/-! ROWS OF A BLOCK IN PIECES: single ones, then a range -/
section
variable {g : qG} {L : kLay} {cl : List vw_C} {fo : List rCC} {w : rWd} {T : List (Nat × sRc)} {G : rGm} {n : Nat}
def oqZg (cl : List vw_C) (w : rWd) (t k M v : Nat) : Bool := oqZr w t k M v || (List.range (v + 1)).any (fun a => match rgAt cl w (k + a) with
  | some [.inl N, .inl M', .inl t'] => Nat.blt v (a + N) && Nat.beq M' M && Nat.beq t' t
  | _ => false)
theorem oqZg_ok {H : Heap} {t k M v : Nat} (hP : rPic cl G w n H) (h : oqZg cl w t k M v = true) : k + v < n ∧ H[G.2.2.1 + (k + v)]? = some (arrV (G.2.1 t) M (fun _ => rv G (rDf t))) := by
  unfold oqZg at h
  rw [Bool.or_eq_true] at h
  rcases h with h | h
  · exact oqZr_ok hP h
  · rw [List.any_eq_true] at h
    obtain ⟨a, ha, h⟩ := h
    have ha : a < v + 1 := List.mem_range.mp ha
    split at h
    · rename_i N M' t' e
      obtain ⟨q1, q2⟩ := rgAt_ok hP e
      rw [Bool.and_eq_true, Bool.and_eq_true] at h
      obtain ⟨⟨a1, a2⟩, a3⟩ := h
      have a1 : v < a + N := Nat.blt_eq.mp a1
      have a2 : M' = M := Nat.eq_of_beq_eq_true a2
      have a3 : t' = t := Nat.eq_of_beq_eq_true a3
      subst a2 a3
      have q1 : k + a + N ≤ n := q1
      obtain ⟨-, -, q7⟩ := q2
      refine ⟨by omega, ?_⟩
      rw [show G.2.2.1 + (k + v) = G.2.2.1 + (k + a) + (v - a) by omega]
      exact q7 (v - a) (by omega)
    · cases h
def oqAr2 (cl : List vw_C) (w : rWd) (T : List (Nat × sRc)) (n : Nat) (x : kAr) : Bool := oqAr cl w T n x || (Nat.blt x.2.1 4 && Nat.ble x.2.2.2.2 60000000 && noSrc T x.1 && (List.range x.2.2.2.1).all (fun v => oqZg cl w x.2.1 x.2.2.1 x.2.2.2.2 v))
theorem oqAr2_ok {H : Heap} (hP : rPic cl G w n H) {x : kAr} (h : oqAr2 cl w T n x = true) : x.2.1 < 4 ∧ x.2.2.2.2 ≤ 60000000 ∧ ∀ v : Nat, v < x.2.2.2.1 → x.2.2.1 + v < n ∧ H[G.2.2.1 + (x.2.2.1 + v)]? = some (arrV (G.2.1 x.2.1) x.2.2.2.2 (fun j => kel x.2.1 (sSt w fo T x.1 ((x.2.2.2.2 : Int) * v + j)))) := by
  unfold oqAr2 at h
  rw [Bool.or_eq_true] at h
  rcases h with h | h
  · exact oqAr_ok hP h
  · rw [Bool.and_eq_true, Bool.and_eq_true, Bool.and_eq_true, List.all_eq_true] at h
    obtain ⟨⟨⟨h1, h2⟩, hs⟩, h4⟩ := h
    refine ⟨Nat.blt_eq.mp h1, Nat.ble_eq.mp h2, fun v hv => ?_⟩
    have key : ∀ j : Nat, kel x.2.1 (sSt w fo T x.1 ((x.2.2.2.2 : Int) * v + j)) = rv G (rDf x.2.1) := fun j => by rw [noSrc_ok hs, kel_df]
    rw [show (fun j : Nat => kel x.2.1 (sSt w fo T x.1 ((x.2.2.2.2 : Int) * v + j))) = fun _ => rv G (rDf x.2.1) from funext key]
    exact oqZg_ok hP (h4 v (List.mem_range.mpr hv))
theorem kPic_of2 {H : Heap} (hP : rPic cl G w n H) (h1 : L.1.all (oqOb g cl w fo T) = true) (h2 : L.2.1.all (oqAr2 cl w T n) = true) (h3 : L.2.2.1.all (oqOu cl w) = true) (h4 : L.2.2.2.all (oqSs fo T) = true) : kPic g L cl fo G (sSt w fo T) n H :=
  ⟨by rw [hP.1]; exact Nat.le_refl _, hP.2.1, fun x hx => oqOb_ok hP (List.all_eq_true.mp h1 x hx), fun x hx => oqAr2_ok hP (List.all_eq_true.mp h2 x hx), fun x hx => oqOu_ok hP (List.all_eq_true.mp h3 x hx), fun x hx => oqSs_ok G (List.all_eq_true.mp h4 x hx)⟩
end
