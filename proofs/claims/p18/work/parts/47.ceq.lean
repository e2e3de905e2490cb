/-! A CUSTOM PREDICATE AT NUMBERS THAT ARE EQUAL -/
def eqS (n : Nat) (i : Nat) : List qSn := [sp 0 [(i, 1), (n + i, -1)], sp 0 [(i, -1), (n + i, 1)]]
def rCeq (p nA nZ : Nat) : qRl := ((p + 3, nA :: (List.range nA ++ List.range nZ), []) :: (List.range nZ).flatMap (eqS nZ), [(p + 3, nA :: (List.range nA ++ (List.range nZ).map (fun i => nZ + i)), [])])
theorem pq_at {fs : List (Int → Int)} {zs : List Int} {p nA : Nat} {l : List Nat} : SnOk fs zs (p + 3, nA :: (List.range nA ++ l), []) ↔ PQ p ((List.range nA).map (nthF fs)) (l.map (nthZ zs)) := by
  show PQ p (((List.range nA ++ l).take nA).map (nthF fs)) (((List.range nA ++ l).drop nA).map (nthZ zs)) ↔ _
  have e : (List.range nA).length = nA := List.length_range
  rw [List.take_left' e, List.drop_left' e]
theorem rCeq_ok (p nA nZ : Nat) : RlOk (rCeq p nA nZ) := by
  intro fs zs h x hx
  obtain ⟨h1, h2⟩ := snAll h
  rcases List.mem_cons.mp hx with hx | hx
  · rw [hx]
    refine pq_at.mpr ?_
    replace h1 := pq_at.mp h1
    have e : (List.range nZ).map (nthZ zs) = ((List.range nZ).map (fun i => nZ + i)).map (nthZ zs) := by
      rw [List.map_map]
      refine List.map_congr_left fun i hi => ?_
      have a := sp_2.mp (h2 _ (List.mem_flatMap.mpr ⟨i, hi, List.mem_cons_self⟩))
      have b := sp_2.mp (h2 _ (List.mem_flatMap.mpr ⟨i, hi, List.mem_cons_of_mem _ List.mem_cons_self⟩))
      show nthZ zs i = nthZ zs (nZ + i)
      omega
    rw [← e]
    exact h1
  · cases hx
