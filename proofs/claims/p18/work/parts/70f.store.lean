/-! THE STORE OUT OF A WORLD: when it holds, the picture of blocks holds -/
/-- the number that bits stand for -/
def zv (v : rCV) : Int := match v with
  | .inl n => if n < 2147483648 then n else (n : Int) - 4294967296
  | .inr (.inl n) => if n < 9223372036854775808 then n else (n : Int) - 18446744073709551616
  | .inr (.inr n) => n
theorem zv_i (n : Nat) : Int32.ofInt (zv (.inl n)) = nI n := by
  show Int32.ofInt (if n < 2147483648 then (n : Int) else (n : Int) - 4294967296) = nI n
  by_cases h : n < 2147483648
  · rw [if_pos h]; exact ofI_n n
  · rw [if_neg h, Int.sub_eq_add_neg, Int32.ofInt_add, ofI_n, show Int32.ofInt (-4294967296) = 0 by decide +kernel]
    exact Int32.add_zero _
theorem zv_j (n : Nat) : Int64.ofInt (zv (.inr (.inl n))) = lN n := by
  show Int64.ofInt (if n < 9223372036854775808 then (n : Int) else (n : Int) - 18446744073709551616) = lN n
  by_cases h : n < 9223372036854775808
  · rw [if_pos h]; exact ofJ_n n
  · rw [if_neg h, Int.sub_eq_add_neg, Int64.ofInt_add, ofJ_n, show Int64.ofInt (-18446744073709551616) = 0 by decide +kernel]
    exact Int64.add_zero _
/-- a value of that type -/
def oqV (t : Nat) (v : rCV) : Bool := match v with
  | .inl _ => !(t == 1)
  | .inr (.inl _) => t == 1
  | .inr (.inr _) => false
theorem oqV_kel {t : Nat} {v : rCV} (G : rGm) (h : oqV t v = true) : rv G v = kel t (zv v) := by
  rcases v with n | n | n
  · have h : (!(t == 1)) = true := h
    have ht : t ≠ 1 := by simpa using h
    unfold kel
    rw [if_neg ht, zv_i]
    rfl
  · have h : (t == 1) = true := h
    have ht : t = 1 := by simpa using h
    unfold kel
    rw [if_pos ht, zv_j]
    rfl
  · cases h
theorem rLi_cases (d : rCV) (i : Nat) : ∀ l : List (Nat × rCV), rLi d l i = d ∨ (i, rLi d l i) ∈ l
  | [] => Or.inl rfl
  | (a, v) :: l => by
    rw [rLi_cons]
    by_cases h : i = a
    · rw [if_pos h, h]; exact Or.inr List.mem_cons_self
    · rw [if_neg h]
      rcases rLi_cases d i l with q | q
      · exact Or.inl q
      · exact Or.inr (List.mem_cons_of_mem _ q)
theorem rLq_cases (d : rCV) (q i : Nat) : ∀ m : rMp, rLq d q i m = d ∨ ∃ x ∈ m, (i, rLq d q i m) ∈ x.2
  | [] => Or.inl rfl
  | (a, l) :: m => by
    show (if a = q then rLi d l i else rLq d q i m) = d ∨ ∃ x ∈ (a, l) :: m, (i, (if a = q then rLi d l i else rLq d q i m)) ∈ x.2
    by_cases h : a = q
    · rw [if_pos h]
      rcases rLi_cases d i l with z | z
      · exact Or.inl z
      · exact Or.inr ⟨_, List.mem_cons_self, z⟩
    · rw [if_neg h]
      rcases rLq_cases d q i m with z | ⟨x, hx, z⟩
      · exact Or.inl z
      · exact Or.inr ⟨x, List.mem_cons_of_mem _ hx, z⟩
theorem rL_cases (d : rCV) (m : rMp) (i : Nat) : rL d m i = d ∨ ∃ x ∈ m, (i, rL d m i) ∈ x.2 := by
  rw [rL_eq]; exact rLq_cases d (i / 64) i m
def oqA (t : Nat) (d : rCV) (m : rMp) : Bool := oqV t d && m.all (fun q => q.2.all (fun x => oqV t x.2))
theorem oqA_rL {t : Nat} {d : rCV} {m : rMp} (h : oqA t d m = true) (i : Nat) : oqV t (rL d m i) = true := by
  unfold oqA at h
  rw [Bool.and_eq_true, List.all_eq_true] at h
  rcases rL_cases d m i with q | ⟨x, hx, q⟩
  · rw [q]; exact h.1
  · exact List.all_eq_true.mp (h.2 x hx) _ q
/-- where a block's start lies: an array's cell, an object's field, a thing from the start; else a number -/
abbrev sRc : Type := Nat × (Nat × Nat)
noncomputable def sAt (w : rWd) (fo : List rCC) (q : sRc) (i : Int) : Int := match q.1 with
  | 0 => match wGet q.2.1 w with
    | some (.inr (_, _, d, m)) => zv (rL d m i.toNat)
    | _ => 0
  | 1 => match wGet q.2.1 w with
    | some (.inl (_, vs)) => match vs[q.2.2]? with
      | some v => zv v
      | none => 0
    | _ => 0
  | 2 => match fo[q.2.1]? with
    | some (.inr (_, _, d, m)) => zv (rL d m i.toNat)
    | _ => 0
  | 3 => -1
  | _ => 0
noncomputable def sSt (w : rWd) (fo : List rCC) (T : List (Nat × sRc)) : qSg := fun b i => match lkA b T with
  | some q => sAt w fo q i
  | none => 0
section
variable {g : qG} {L : kLay} {cl : List vw_C} {fo : List rCC} {w : rWd} {T : List (Nat × sRc)} {G : rGm} {n : Nat}
/-- an object's field holds what its block holds -/
noncomputable def oqF (g : qG) (w : rWd) (fo : List rCC) (T : List (Nat × sRc)) (f : Nat ⊕ Int) (v : rCV) : Bool := match f, v with
  | .inl b, .inl a => (((g[b]?).getD (0, 0, 0, 0, [])).2.2.2.1 == 0) && decide (sSt w fo T b 0 = zv (.inl a))
  | .inl b, .inr (.inl a) => (((g[b]?).getD (0, 0, 0, 0, [])).2.2.2.1 == 1) && decide (sSt w fo T b 0 = zv (.inr (.inl a)))
  | .inr z, .inr (.inr a) => decide (z = (a : Int))
  | _, _ => false
theorem oqF_ok {f : Nat ⊕ Int} {v : rCV} (h : oqF g w fo T f v = true) : rv G v = kfld g G (sSt w fo T) f := by
  rcases f with b | z <;> rcases v with a | a | a
  · have h : ((((g[b]?).getD (0, 0, 0, 0, [])).2.2.2.1 == 0) && decide (sSt w fo T b 0 = zv (.inl a))) = true := h
    rw [Bool.and_eq_true, beq_iff_eq, decide_eq_true_eq] at h
    show _ = kv G (((g[b]?).getD (0, 0, 0, 0, [])).2.2.2.1, sSt w fo T b 0)
    rw [h.1, h.2]
    show _ = Value.int (Int32.ofInt (zv (.inl a)))
    rw [zv_i]
    rfl
  · have h : ((((g[b]?).getD (0, 0, 0, 0, [])).2.2.2.1 == 1) && decide (sSt w fo T b 0 = zv (.inr (.inl a)))) = true := h
    rw [Bool.and_eq_true, beq_iff_eq, decide_eq_true_eq] at h
    show _ = kv G (((g[b]?).getD (0, 0, 0, 0, [])).2.2.2.1, sSt w fo T b 0)
    rw [h.1, h.2]
    show _ = Value.long (Int64.ofInt (zv (.inr (.inl a))))
    rw [zv_j]
    rfl
  · cases h
  · cases h
  · cases h
  · have h : decide (z = (a : Int)) = true := h
    have h := of_decide_eq_true h
    subst h
    show _ = kv G (2, (a : Int))
    show _ = rv G (.inr (.inr ((a : Int)).toNat))
    rw [Int.toNat_natCast]
noncomputable def oqFs (g : qG) (w : rWd) (fo : List rCC) (T : List (Nat × sRc)) : List (Nat ⊕ Int) → List rCV → Bool
  | [], [] => true
  | f :: fs, v :: vs => oqF g w fo T f v && oqFs g w fo T fs vs
  | _, _ => false
theorem oqFs_ok : ∀ {fs : List (Nat ⊕ Int)} {vs : List rCV}, oqFs g w fo T fs vs = true → vs.map (rv G) = fs.map (kfld g G (sSt w fo T))
  | [], [], _ => rfl
  | f :: fs, v :: vs, h => by
    have h : (oqF g w fo T f v && oqFs g w fo T fs vs) = true := h
    rw [Bool.and_eq_true] at h
    rw [List.map_cons, List.map_cons, oqF_ok h.1, oqFs_ok h.2]
  | [], _ :: _, h => by cases h
  | _ :: _, [], h => by cases h
noncomputable def oqOb (g : qG) (cl : List vw_C) (w : rWd) (fo : List rCC) (T : List (Nat × sRc)) (x : kOb) : Bool := match wGet x.1 w with
  | some (.inl (ci, vs)) => (ci == x.2.1) && (cl[ci]?).isSome && oqFs g w fo T x.2.2 vs
  | _ => false
theorem oqOb_ok {H : Heap} (hP : rPic cl G w n H) {x : kOb} (h : oqOb g cl w fo T x = true) : x.1 < n ∧ ∃ r : vw_C, cl[x.2.1]? = some r ∧ t_OB (G.2.2.1 + x.1) (G.1.1 x.2.1) r.2.2 (G.1.2 x.2.1) H (vp_V (x.2.2.map (kfld g G (sSt w fo T)))) := by
  unfold oqOb at h
  cases e : wGet x.1 w with
  | none => rw [e] at h; cases h
  | some y =>
    rcases y with ⟨ci, vs⟩ | y
    · rw [e] at h
      have h : ((ci == x.2.1) && (cl[ci]?).isSome && oqFs g w fo T x.2.2 vs) = true := h
      rw [Bool.and_eq_true, Bool.and_eq_true, beq_iff_eq] at h
      obtain ⟨⟨rfl, hz⟩, h3⟩ := h
      obtain ⟨z, hz⟩ := Option.isSome_iff_exists.mp hz
      obtain ⟨r, hr, ho⟩ := pic_obj hP e hz
      rw [oqFs_ok h3] at ho
      exact ⟨(hP.2.2 _ _ e).1, r, hr, ho⟩
    · rw [e] at h; cases h
end
section
variable {g : qG} {L : kLay} {cl : List vw_C} {fo : List rCC} {w : rWd} {T : List (Nat × sRc)} {G : rGm} {n : Nat}
theorem kel_df (G : rGm) (t : Nat) : rv G (rDf t) = kel t 0 := by
  unfold rDf kel
  by_cases h : t = 1
  · rw [if_pos h, if_pos h]; rfl
  · rw [if_neg h, if_neg h]; rfl
def isSrc (T : List (Nat × sRc)) (b u k : Nat) : Bool := match lkA b T with
  | some q => (q.1 == u) && (q.2.1 == k)
  | none => false
theorem isSrc_ok {b u k : Nat} (h : isSrc T b u k = true) : ∃ j, lkA b T = some (u, (k, j)) := by
  unfold isSrc at h
  cases e : lkA b T with
  | none => rw [e] at h; cases h
  | some q =>
    rw [e] at h
    obtain ⟨u', k', j⟩ := q
    have h : ((u' == u) && (k' == k)) = true := h
    rw [Bool.and_eq_true, beq_iff_eq, beq_iff_eq] at h
    obtain ⟨rfl, rfl⟩ := h
    exact ⟨j, rfl⟩
def noSrc (T : List (Nat × sRc)) (b : Nat) : Bool := (lkA b T).isNone
theorem noSrc_ok {b : Nat} (h : noSrc T b = true) (i : Int) : sSt w fo T b i = 0 := by
  have e : lkA b T = none := Option.isNone_iff_eq_none.mp h
  unfold sSt
  rw [e]
/-- a range of rows at cell k -/
def rgAt (cl : List vw_C) (w : rWd) (k : Nat) : Option (List rCV) := match wGet k w with
  | some (.inl (ci, vs)) => if (cl[ci]?).isNone then some vs else none
  | _ => none
theorem rgAt_ok {H : Heap} {k : Nat} {vs : List rCV} (hP : rPic cl G w n H) (h : rgAt cl w k = some vs) : k + rRl vs ≤ n ∧ rRg G vs H (G.2.2.1 + k) := by
  unfold rgAt at h
  cases e : wGet k w with
  | none => rw [e] at h; cases h
  | some y =>
    rcases y with ⟨ci, us⟩ | y
    · rw [e] at h
      have h : (if (cl[ci]?).isNone = true then some us else none) = some vs := h
      by_cases c : (cl[ci]?).isNone = true
      · rw [if_pos c] at h
        cases h
        have c2 := Option.isNone_iff_eq_none.mp c
        obtain ⟨q1, q2, q3, -⟩ := hP.2.2 k _ e
        rw [rLen_r c2] at q3
        rcases q2 with ⟨r, h1, -⟩ | ⟨-, h2⟩
        · rw [c2] at h1; cases h1
        · exact ⟨q3, h2⟩
      · rw [if_neg c] at h; cases h
    · rw [e] at h; cases h
def oqZr (w : rWd) (t k M v : Nat) : Bool := match wGet (k + v) w with
  | some (.inr (t', N, d, [])) => Nat.beq t' t && Nat.beq N M && decide (d = rDf t)
  | _ => false
theorem oqZr_ok {H : Heap} {t k M v : Nat} (hP : rPic cl G w n H) (h : oqZr w t k M v = true) : k + v < n ∧ H[G.2.2.1 + (k + v)]? = some (arrV (G.2.1 t) M (fun _ => rv G (rDf t))) := by
  unfold oqZr at h
  split at h
  · rename_i t' N d e
    rw [Bool.and_eq_true, Bool.and_eq_true, decide_eq_true_eq] at h
    obtain ⟨⟨a1, a2⟩, a3⟩ := h
    have a1 : t' = t := Nat.eq_of_beq_eq_true a1
    have a2 : N = M := Nat.eq_of_beq_eq_true a2
    subst a1 a2 a3
    obtain ⟨q1, q2, -, -⟩ := hP.2.2 _ _ e
    refine ⟨q1, ?_⟩
    have q4 : H[G.2.2.1 + (k + v)]? = some (arrV (G.2.1 t') N (fun j => rv G (rL (rDf t') [] j))) := q2.2.2
    rw [q4]
    refine congrArg some (congrArg (arrV _ N) (funext fun j => ?_))
    rw [rL_eq]
    rfl
  · cases h
def oqAr (cl : List vw_C) (w : rWd) (T : List (Nat × sRc)) (n : Nat) (x : kAr) : Bool :=
  Nat.blt x.2.1 4 && Nat.ble x.2.2.2.2 60000000 && (((Nat.beq x.2.2.2.1 1 && isSrc T x.1 0 x.2.2.1 && (match wGet x.2.2.1 w with
      | some (.inr (t, N, d, m)) => Nat.beq t x.2.1 && Nat.beq N x.2.2.2.2 && oqA x.2.1 d m
      | _ => false)) ||
    (noSrc T x.1 && ((match rgAt cl w (x.2.2.1 - 1) with
      | some [.inl N, .inl M, .inl t, .inl _] => Nat.blt 0 x.2.2.1 && Nat.beq N x.2.2.2.1 && Nat.beq M x.2.2.2.2 && Nat.beq t x.2.1
      | _ => false) || (match rgAt cl w x.2.2.1 with
      | some [.inl N, .inl M, .inl t] => Nat.beq N x.2.2.2.1 && Nat.beq M x.2.2.2.2 && Nat.beq t x.2.1
      | _ => false))) || (noSrc T x.1 && (List.range x.2.2.2.1).all (oqZr w x.2.1 x.2.2.1 x.2.2.2.2))))
theorem oqAr_ok {H : Heap} (hP : rPic cl G w n H) {x : kAr} (h : oqAr cl w T n x = true) : x.2.1 < 4 ∧ x.2.2.2.2 ≤ 60000000 ∧ ∀ v : Nat, v < x.2.2.2.1 → x.2.2.1 + v < n ∧ H[G.2.2.1 + (x.2.2.1 + v)]? = some (arrV (G.2.1 x.2.1) x.2.2.2.2 (fun j => kel x.2.1 (sSt w fo T x.1 ((x.2.2.2.2 : Int) * v + j)))) := by
  obtain ⟨b, t, k, R, M⟩ := x
  unfold oqAr at h
  rw [Bool.and_eq_true, Bool.and_eq_true] at h
  obtain ⟨⟨h1, h2⟩, h3⟩ := h
  refine ⟨Nat.blt_eq.mp h1, Nat.ble_eq.mp h2, fun v hv => ?_⟩
  have hv : v < R := hv
  rw [Bool.or_eq_true, Bool.or_eq_true] at h3
  rcases h3 with (h3 | h3) | h3
  rotate_left 2
  · rw [Bool.and_eq_true, List.all_eq_true] at h3
    obtain ⟨hs, h4⟩ := h3
    have key : ∀ j : Nat, kel t (sSt w fo T b ((M : Int) * v + j)) = rv G (rDf t) := fun j => by rw [noSrc_ok hs, kel_df]
    show k + v < n ∧ H[G.2.2.1 + (k + v)]? = some (arrV (G.2.1 t) M (fun j => kel t (sSt w fo T b ((M : Int) * v + j))))
    rw [show (fun j : Nat => kel t (sSt w fo T b ((M : Int) * v + j))) = fun _ => rv G (rDf t) from funext key]
    exact oqZr_ok hP (h4 v (List.mem_range.mpr hv))
  · rw [Bool.and_eq_true, Bool.and_eq_true] at h3
    obtain ⟨⟨hR, hs⟩, h4⟩ := h3
    have hR : R = 1 := Nat.eq_of_beq_eq_true hR
    have hv0 : v = 0 := by omega
    subst hv0
    obtain ⟨j0, hs⟩ := isSrc_ok hs
    have hs : lkA b T = some (0, (k, j0)) := hs
    show k + 0 < n ∧ H[G.2.2.1 + (k + 0)]? = some (arrV (G.2.1 t) M (fun j => kel t (sSt w fo T b ((M : Int) * ((0 : Nat) : Int) + j))))
    have h4 : (match wGet k w with
      | some (.inr (t', N, d, m)) => Nat.beq t' t && Nat.beq N M && oqA t d m
      | _ => false) = true := h4
    cases e : wGet k w with
    | none => rw [e] at h4; cases h4
    | some y =>
      rcases y with y | ⟨t', N, d, m⟩
      · rw [e] at h4; cases h4
      · rw [e] at h4
        have h4 : (Nat.beq t' t && Nat.beq N M && oqA t d m) = true := h4
        rw [Bool.and_eq_true, Bool.and_eq_true] at h4
        obtain ⟨⟨a1, a2⟩, a3⟩ := h4
        have a1 : t' = t := Nat.eq_of_beq_eq_true a1
        have a2 : N = M := Nat.eq_of_beq_eq_true a2
        subst a1 a2
        obtain ⟨q1, q2, -, -⟩ := hP.2.2 k _ e
        refine ⟨q1, ?_⟩
        have q4 : H[G.2.2.1 + k]? = some (arrV (G.2.1 t') N (fun j => rv G (rL d m j))) := q2.2.2
        rw [Nat.add_zero, q4]
        refine congrArg some (congrArg (arrV _ N) (funext fun j => ?_))
        rw [oqV_kel G (oqA_rL a3 j)]
        refine congrArg (kel t') ?_
        show _ = sSt w fo T b ((N : Int) * ((0 : Nat) : Int) + (j : Int))
        have e0 : (N : Int) * ((0 : Nat) : Int) + (j : Int) = (j : Int) := by simp
        rw [e0]
        unfold sSt
        rw [hs]
        show _ = (match wGet k w with
          | some (.inr (_, _, d, m)) => zv (rL d m ((j : Int)).toNat)
          | _ => 0)
        rw [e]
        show _ = zv (rL d m ((j : Int)).toNat)
        rw [Int.toNat_natCast]
  · rw [Bool.and_eq_true, Bool.or_eq_true] at h3
    obtain ⟨hs, h4⟩ := h3
    have key : ∀ j : Nat, kel t (sSt w fo T b ((M : Int) * v + j)) = rv G (rDf t) := fun j => by rw [noSrc_ok hs, kel_df]
    show k + v < n ∧ H[G.2.2.1 + (k + v)]? = some (arrV (G.2.1 t) M (fun j => kel t (sSt w fo T b ((M : Int) * v + j))))
    rw [show (fun j : Nat => kel t (sSt w fo T b ((M : Int) * v + j))) = fun _ => rv G (rDf t) from funext key]
    rcases h4 with h4 | h4
    · have h4 : (match rgAt cl w (k - 1) with
        | some [.inl N, .inl M', .inl t', .inl _] => Nat.blt 0 k && Nat.beq N R && Nat.beq M' M && Nat.beq t' t
        | _ => false) = true := h4
      split at h4
      · rename_i N M' t' t2 e
        obtain ⟨q1, q2⟩ := rgAt_ok hP e
        rw [Bool.and_eq_true, Bool.and_eq_true, Bool.and_eq_true] at h4
        obtain ⟨⟨⟨a0, a1⟩, a2⟩, a3⟩ := h4
        have a0 := Nat.blt_eq.mp a0
        have a1 : N = R := Nat.eq_of_beq_eq_true a1
        have a2 : M' = M := Nat.eq_of_beq_eq_true a2
        have a3 : t' = t := Nat.eq_of_beq_eq_true a3
        subst a1 a2 a3
        have q1 : k - 1 + (N + 1) ≤ n := q1
        obtain ⟨-, -, -, -, -, -, q7⟩ := q2
        refine ⟨by omega, ?_⟩
        rw [show G.2.2.1 + (k + v) = G.2.2.1 + (k - 1) + 1 + v by omega]
        exact q7 v hv
      · cases h4
    · have h4 : (match rgAt cl w k with
        | some [.inl N, .inl M', .inl t'] => Nat.beq N R && Nat.beq M' M && Nat.beq t' t
        | _ => false) = true := h4
      split at h4
      · rename_i N M' t' e
        obtain ⟨q1, q2⟩ := rgAt_ok hP e
        rw [Bool.and_eq_true, Bool.and_eq_true] at h4
        obtain ⟨⟨a1, a2⟩, a3⟩ := h4
        have a1 : N = R := Nat.eq_of_beq_eq_true a1
        have a2 : M' = M := Nat.eq_of_beq_eq_true a2
        have a3 : t' = t := Nat.eq_of_beq_eq_true a3
        subst a1 a2 a3
        have q1 : k + N ≤ n := q1
        obtain ⟨-, -, q7⟩ := q2
        refine ⟨by omega, ?_⟩
        rw [show G.2.2.1 + (k + v) = G.2.2.1 + k + v by omega]
        exact q7 v hv
      · cases h4
noncomputable def oqRw (w : rWd) (k t2 r N : Nat) : Bool := match wGet k w with
  | some (.inr (t, N', d, m)) => Nat.beq t t2 && Nat.beq N' N && Nat.ble 4 t2 && Nat.blt t2 7 && (List.range N).all (fun j => match rL d m j with
    | .inr (.inr a) => Nat.beq a (2 * (r + j) + 1)
    | _ => false)
  | _ => false
noncomputable def oqOu (cl : List vw_C) (w : rWd) (x : kOu) : Bool := (match rgAt cl w x.1 with
  | some [.inl N, .inl _, .inl _, .inl t2] => Nat.beq t2 x.2.1 && Nat.beq N x.2.2.2 && Nat.beq x.2.2.1 (x.1 + 1)
  | _ => false) || oqRw w x.1 x.2.1 x.2.2.1 x.2.2.2
theorem oqOu_ok {H : Heap} (hP : rPic cl G w n H) {x : kOu} (h : oqOu cl w x = true) : 4 ≤ x.2.1 ∧ x.2.1 < 7 ∧ x.2.2.2 ≤ 60000000 ∧ x.1 < n ∧ H[G.2.2.1 + x.1]? = some (arrV (G.2.1 x.2.1) x.2.2.2 (fun j => .ref (G.2.2.1 + (x.2.2.1 + j)))) := by
  obtain ⟨k, t2, r, N⟩ := x
  unfold oqOu at h
  rw [Bool.or_eq_true] at h
  rcases h with h | h
  · have h : (match rgAt cl w k with
      | some [.inl N', .inl _, .inl _, .inl t2'] => Nat.beq t2' t2 && Nat.beq N' N && Nat.beq r (k + 1)
      | _ => false) = true := h
    split at h
    · rename_i N' M' t' t2' e
      obtain ⟨q1, q2⟩ := rgAt_ok hP e
      rw [Bool.and_eq_true, Bool.and_eq_true] at h
      obtain ⟨⟨a1, a2⟩, a3⟩ := h
      have a1 : t2' = t2 := Nat.eq_of_beq_eq_true a1
      have a2 : N' = N := Nat.eq_of_beq_eq_true a2
      have a3 : r = k + 1 := Nat.eq_of_beq_eq_true a3
      subst a1 a2 a3
      have q1 : k + (N' + 1) ≤ n := q1
      obtain ⟨-, -, q3, q4, q5, q6, -⟩ := q2
      refine ⟨q4, q5, q3, by show k < n; omega, ?_⟩
      show H[G.2.2.1 + k]? = some (arrV (G.2.1 t2') N' (fun j => .ref (G.2.2.1 + (k + 1 + j))))
      rw [q6]
      refine congrArg some (congrArg (arrV _ N') (funext fun j => ?_))
      rw [show G.2.2.1 + k + 1 + j = G.2.2.1 + (k + 1 + j) by omega]
    · cases h
  · have h : oqRw w k t2 r N = true := h
    unfold oqRw at h
    cases e : wGet k w with
    | none => rw [e] at h; cases h
    | some y =>
      rcases y with y | ⟨t', N', d, m⟩
      · rw [e] at h; cases h
      · rw [e] at h
        have h : (Nat.beq t' t2 && Nat.beq N' N && Nat.ble 4 t2 && Nat.blt t2 7 && (List.range N).all (fun j => match rL d m j with
          | .inr (.inr a) => Nat.beq a (2 * (r + j) + 1)
          | _ => false)) = true := h
        rw [Bool.and_eq_true, Bool.and_eq_true, Bool.and_eq_true, Bool.and_eq_true, List.all_eq_true] at h
        obtain ⟨⟨⟨⟨a1, a2⟩, a3⟩, a4⟩, a5⟩ := h
        have a1 : t' = t2 := Nat.eq_of_beq_eq_true a1
        have a2 : N' = N := Nat.eq_of_beq_eq_true a2
        subst a1 a2
        obtain ⟨q1, q2, -, -⟩ := hP.2.2 _ _ e
        refine ⟨Nat.ble_eq.mp a3, Nat.blt_eq.mp a4, q2.2.1, q1, ?_⟩
        have q4 : H[G.2.2.1 + k]? = some (arrV (G.2.1 t') N' (fun j => rv G (rL d m j))) := q2.2.2
        show H[G.2.2.1 + k]? = some (arrV (G.2.1 t') N' (fun j => .ref (G.2.2.1 + (r + j))))
        rw [q4]
        refine congrArg some (arrV_ext fun j hj => ?_)
        have h9 := a5 j (List.mem_range.mpr hj)
        cases e9 : rL d m j with
        | inl a => rw [e9] at h9; cases h9
        | inr z =>
          cases z with
          | inl a => rw [e9] at h9; cases h9
          | inr a =>
            rw [e9] at h9
            have h9 : a = 2 * (r + j) + 1 := Nat.eq_of_beq_eq_true h9
            subst h9
            rw [rv_own G (by omega), show (2 * (r + j) + 1) / 2 = r + j by omega]
def oqSs (fo : List rCC) (T : List (Nat × sRc)) (x : kSt) : Bool := Nat.blt x.2.1 4 && isSrc T x.1 2 x.2.2.1 && (match fo[x.2.2.1]? with
  | some (.inr (t, N, d, m)) => Nat.beq t x.2.1 && Nat.beq N x.2.2.2 && oqA x.2.1 d m
  | _ => false)
theorem oqSs_ok (G : rGm) {x : kSt} (h : oqSs fo T x = true) : x.2.1 < 4 ∧ ∃ d m, fo[x.2.2.1]? = some (.inr (x.2.1, x.2.2.2, d, m)) ∧ ∀ j : Nat, j < x.2.2.2 → rv G (rL d m j) = kel x.2.1 (sSt w fo T x.1 j) := by
  obtain ⟨b, t, f, N⟩ := x
  unfold oqSs at h
  rw [Bool.and_eq_true, Bool.and_eq_true] at h
  obtain ⟨⟨h1, hs⟩, h4⟩ := h
  refine ⟨Nat.blt_eq.mp h1, ?_⟩
  obtain ⟨j0, hs⟩ := isSrc_ok hs
  have hs : lkA b T = some (2, (f, j0)) := hs
  show ∃ d m, fo[f]? = some (.inr (t, N, d, m)) ∧ ∀ j : Nat, j < N → rv G (rL d m j) = kel t (sSt w fo T b j)
  have h4 : (match fo[f]? with
    | some (.inr (t', N', d, m)) => Nat.beq t' t && Nat.beq N' N && oqA t d m
    | _ => false) = true := h4
  cases e : fo[f]? with
  | none => rw [e] at h4; cases h4
  | some y =>
    rcases y with y | ⟨t', N', d, m⟩
    · rw [e] at h4; cases h4
    · rw [e] at h4
      have h4 : (Nat.beq t' t && Nat.beq N' N && oqA t d m) = true := h4
      rw [Bool.and_eq_true, Bool.and_eq_true] at h4
      obtain ⟨⟨a1, a2⟩, a3⟩ := h4
      have a1 : t' = t := Nat.eq_of_beq_eq_true a1
      have a2 : N' = N := Nat.eq_of_beq_eq_true a2
      subst a1 a2
      refine ⟨d, m, rfl, fun j hj => ?_⟩
      rw [oqV_kel G (oqA_rL a3 j)]
      refine congrArg (kel t') ?_
      unfold sSt
      rw [hs]
      show _ = (match fo[f]? with
        | some (.inr (_, _, d, m)) => zv (rL d m ((j : Int)).toNat)
        | _ => 0)
      rw [e]
      show _ = zv (rL d m ((j : Int)).toNat)
      rw [Int.toNat_natCast]
/-- the whole picture -/
theorem kPic_of {H : Heap} (hP : rPic cl G w n H) (h1 : L.1.all (oqOb g cl w fo T) = true) (h2 : L.2.1.all (oqAr cl w T n) = true) (h3 : L.2.2.1.all (oqOu cl w) = true) (h4 : L.2.2.2.all (oqSs fo T) = true) : kPic g L cl fo G (sSt w fo T) n H :=
  ⟨by rw [hP.1]; exact Nat.le_refl _, hP.2.1, fun x hx => oqOb_ok hP (List.all_eq_true.mp h1 x hx), fun x hx => oqAr_ok hP (List.all_eq_true.mp h2 x hx), fun x hx => oqOu_ok hP (List.all_eq_true.mp h3 x hx), fun x hx => oqSs_ok G (List.all_eq_true.mp h4 x hx)⟩
end
