/-! WHAT BLOCKS HOLD AT THE START -/
section
variable {w : rWd} {fo : List rCC} {T : List (Nat × sRc)}
noncomputable def oqC (cols : List (Int × Int)) (i z : Int) : Bool := match colAt cols i with
  | some c => decide (c.1 ≤ z) && decide (z ≤ c.2)
  | none => false
theorem oqC_ok {cols : List (Int × Int)} {i z : Int} (h : oqC cols i z = true) : ∃ c, colAt cols i = some c ∧ c.1 ≤ z ∧ z ≤ c.2 := by
  unfold oqC at h
  cases e : colAt cols i with
  | none => rw [e] at h; cases h
  | some c =>
    rw [e] at h
    have h : (decide (c.1 ≤ z) && decide (z ≤ c.2)) = true := h
    rw [Bool.and_eq_true, decide_eq_true_eq, decide_eq_true_eq] at h
    exact ⟨c, rfl, h.1, h.2⟩
/-- within all columns -/
def oqAll (cols : List (Int × Int)) (z : Int) : Bool := !cols.isEmpty && cols.all (fun c => decide (c.1 ≤ z) && decide (z ≤ c.2))
theorem oqAll_ok {cols : List (Int × Int)} {z : Int} (h : oqAll cols z = true) (i : Int) : ∃ c, colAt cols i = some c ∧ c.1 ≤ z ∧ z ≤ c.2 := by
  unfold oqAll at h
  rw [Bool.and_eq_true, List.all_eq_true] at h
  obtain ⟨h1, h2⟩ := h
  cases e : cols with
  | nil => rw [e] at h1; cases h1
  | cons x xs =>
    rw [← e]
    have hl : 0 < cols.length := by rw [e]; exact Nat.succ_pos _
    have hi : (i % (cols.length : Int)).toNat < cols.length := by
      have a1 := Int.emod_nonneg i (show (cols.length : Int) ≠ 0 by omega)
      have a2 := Int.emod_lt_of_pos i (show (0 : Int) < (cols.length : Int) by omega)
      omega
    refine ⟨cols[(i % (cols.length : Int)).toNat], List.getElem?_eq_getElem hi, ?_⟩
    have h3 := h2 _ (List.getElem_mem hi)
    rw [Bool.and_eq_true, decide_eq_true_eq, decide_eq_true_eq] at h3
    exact h3
noncomputable def oqCol (x : qBI) (d : rCV) (m : rMp) : Bool := (oqAll x.2.2.2.2 (zv d) && m.all (fun q => q.2.all (fun e => oqC x.2.2.2.2 (e.1 : Int) (zv e.2)))) || (List.range (x.2.1 * x.2.2.1).toNat).all (fun i => oqC x.2.2.2.2 (i : Int) (zv (rL d m i)))
theorem oqCol_ok {x : qBI} {d : rCV} {m : rMp} (h : oqCol x d m = true) {i : Int} (h0 : 0 ≤ i) (h1 : i < x.2.1 * x.2.2.1) : ∃ c, colAt x.2.2.2.2 i = some c ∧ c.1 ≤ zv (rL d m i.toNat) ∧ zv (rL d m i.toNat) ≤ c.2 := by
  unfold oqCol at h
  rw [Bool.or_eq_true] at h
  rcases h with h | h
  · rw [Bool.and_eq_true, List.all_eq_true] at h
    rcases rL_cases d m i.toNat with q | ⟨y, hy, q⟩
    · rw [q]; exact oqAll_ok h.1 i
    · have h9 := oqC_ok (List.all_eq_true.mp (h.2 y hy) _ q)
      have e : ((i.toNat : Nat) : Int) = i := Int.toNat_of_nonneg h0
      rw [e] at h9
      exact h9
  · have h9 := oqC_ok (List.all_eq_true.mp h i.toNat (List.mem_range.mpr (by omega)))
    have e : ((i.toNat : Nat) : Int) = i := Int.toNat_of_nonneg h0
    rw [e] at h9
    exact h9
noncomputable def oqTy (w : rWd) (fo : List rCC) (T : List (Nat × sRc)) (b : Nat) (x : qBI) : Bool := match lkA b T with
  | none => oqAll x.2.2.2.2 0
  | some (0, (k, _)) => (match wGet k w with
    | some (.inr (_, _, d, m)) => oqCol x d m
    | _ => false)
  | some (1, _) => decide (x.2.1 * x.2.2.1 = 1) && oqC x.2.2.2.2 0 (sSt w fo T b 0)
  | some (2, (f, _)) => (match fo[f]? with
    | some (.inr (_, _, d, m)) => oqCol x d m
    | _ => false)
  | some (3, _) => oqAll x.2.2.2.2 (-1)
  | some _ => false
theorem oqTy_ok {b : Nat} {x : qBI} (h : oqTy w fo T b x = true) {i : Int} (h0 : 0 ≤ i) (h1 : i < x.2.1 * x.2.2.1) : ∃ c, colAt x.2.2.2.2 i = some c ∧ c.1 ≤ sSt w fo T b i ∧ sSt w fo T b i ≤ c.2 := by
  unfold oqTy at h
  split at h
  · rename_i e
    have e2 : sSt w fo T b i = 0 := by unfold sSt; rw [e]
    rw [e2]; exact oqAll_ok h i
  · rename_i k j e
    split at h
    · rename_i t N d m e3
      have e2 : sSt w fo T b i = zv (rL d m i.toNat) := by
        unfold sSt; rw [e]
        show (match wGet k w with
          | some (.inr (_, _, d, m)) => zv (rL d m i.toNat)
          | _ => 0) = _
        rw [e3]
      rw [e2]; exact oqCol_ok h h0 h1
    · cases h
  · rename_i j e
    rw [Bool.and_eq_true, decide_eq_true_eq] at h
    have : i = 0 := by have := h.1; omega
    subst this
    exact oqC_ok h.2
  · rename_i f j e
    split at h
    · rename_i t N d m e3
      have e2 : sSt w fo T b i = zv (rL d m i.toNat) := by
        unfold sSt; rw [e]
        show (match fo[f]? with
          | some (.inr (_, _, d, m)) => zv (rL d m i.toNat)
          | _ => 0) = _
        rw [e3]
      rw [e2]; exact oqCol_ok h h0 h1
    · cases h
  · rename_i j e
    have e2 : sSt w fo T b i = -1 := by unfold sSt; rw [e]; rfl
    rw [e2]; exact oqAll_ok h i
  · cases h
theorem typed_of {g : qG} (h : (List.range g.length).all (fun b => match g[b]? with
  | some x => oqTy w fo T b x
  | none => false) = true) : Typed g (sSt w fo T) := by
  intro b x hx i h0 h1
  have hb : b < g.length := (List.getElem?_eq_some_iff.mp hx).1
  have h9 := List.all_eq_true.mp h b (List.mem_range.mpr hb)
  rw [hx] at h9
  exact oqTy_ok h9 h0 h1
end
set_option maxRecDepth 1000000 in
theorem s0_typed : Typed gAll s0 := typed_of (by decide +kernel)
