/-! ROWS: locals, stack, branches, returns -/
section KR
variable {g : qG} {L : kLay} {cl : List vw_C} {fo : List rCC} {zs : List (String × String × String × rCV)} {rs : List (String × Nat × String × Nat)} {ns : List Cond} {Ts : List Cond} {G : rGm}
variable {l : Launch} {cc : ByteArray} {nL n : Nat} {own : String} {pc : Nat} {ret : Option FieldType} {fr lo : Nat} {Qf : kQf}
/-- a load of a value of tag t: the local must have that tag -/
def kLd (g : qG) (t : Nat) (V : Nat → qP) (pc pc' i : Nat) : Prop := ∀ ls st s, (∃ v : qV, (i, v) ∈ ls ∧ v.1 = t ∧ V pc' ls (v :: st) s) → V pc ls st s
theorem k_iload_n {k : Fin 4} (i : Nat) (hi : (k : Nat) = i) (hd : decode cc pc = .ok (.iload_n k, 1)) : kLd g 0 (kW g L cl fo zs rs ns Ts G l cc nL own ret fr lo n Qf) pc (pc + 1) i := by
  rintro ls st s ⟨⟨tg, z⟩, h1, h2, hV⟩ p e R s0 m args below meth c X hq9 rl H locs hl hP hL
  cases h2
  exact lv_iload_n X.1 X.2.1 hd hi (kLv_mem hl h1) (hV p e R s0 m args below meth c X hq9 rl H locs hl hP hL)
theorem k_iload (i : Nat) (hd : decode cc pc = .ok (.iload i, 2)) : kLd g 0 (kW g L cl fo zs rs ns Ts G l cc nL own ret fr lo n Qf) pc (pc + 2) i := by
  rintro ls st s ⟨⟨tg, z⟩, h1, h2, hV⟩ p e R s0 m args below meth c X hq9 rl H locs hl hP hL
  cases h2
  exact lv_iload X.1 X.2.1 hd (kLv_mem hl h1) (hV p e R s0 m args below meth c X hq9 rl H locs hl hP hL)
theorem k_lload_n {k : Fin 4} (i : Nat) (hi : (k : Nat) = i) (hd : decode cc pc = .ok (.lload_n k, 1)) : kLd g 1 (kW g L cl fo zs rs ns Ts G l cc nL own ret fr lo n Qf) pc (pc + 1) i := by
  rintro ls st s ⟨⟨tg, z⟩, h1, h2, hV⟩ p e R s0 m args below meth c X hq9 rl H locs hl hP hL
  cases h2
  exact lv_lload_n X.1 X.2.1 hd hi (kLv_mem hl h1) (hV p e R s0 m args below meth c X hq9 rl H locs hl hP hL)
theorem k_lload (i : Nat) (hd : decode cc pc = .ok (.lload i, 2)) : kLd g 1 (kW g L cl fo zs rs ns Ts G l cc nL own ret fr lo n Qf) pc (pc + 2) i := by
  rintro ls st s ⟨⟨tg, z⟩, h1, h2, hV⟩ p e R s0 m args below meth c X hq9 rl H locs hl hP hL
  cases h2
  exact lv_lload X.1 X.2.1 hd (kLv_mem hl h1) (hV p e R s0 m args below meth c X hq9 rl H locs hl hP hL)
theorem k_aload_n {k : Fin 4} (i : Nat) (hi : (k : Nat) = i) (hd : decode cc pc = .ok (.aload_n k, 1)) : kLd g 2 (kW g L cl fo zs rs ns Ts G l cc nL own ret fr lo n Qf) pc (pc + 1) i := by
  rintro ls st s ⟨⟨tg, z⟩, h1, h2, hV⟩ p e R s0 m args below meth c X hq9 rl H locs hl hP hL
  cases h2
  have hm := kLv_mem hl h1
  have hk := hV p e R s0 m args below meth c X hq9 rl H locs hl hP hL
  rw [List.map_cons] at hk
  have eq0 : kv G (2, z) = rv G (.inr (.inr z.toNat)) := rfl
  rw [eq0] at hm hk
  rcases rv_r G X.2.2.2.2.2.1.2.2.1 z.toNat with q | ⟨x, q⟩
  · rw [q] at hm hk
    exact lv_aload_nN X.1 X.2.1 hd hi hm hk
  · rw [q] at hm hk
    exact lv_aload_n X.1 X.2.1 hd hi hm hk
theorem k_aload (i : Nat) (hd : decode cc pc = .ok (.aload i, 2)) : kLd g 2 (kW g L cl fo zs rs ns Ts G l cc nL own ret fr lo n Qf) pc (pc + 2) i := by
  rintro ls st s ⟨⟨tg, z⟩, h1, h2, hV⟩ p e R s0 m args below meth c X hq9 rl H locs hl hP hL
  cases h2
  have hm := kLv_mem hl h1
  have hk := hV p e R s0 m args below meth c X hq9 rl H locs hl hP hL
  rw [List.map_cons] at hk
  have eq0 : kv G (2, z) = rv G (.inr (.inr z.toNat)) := rfl
  rw [eq0] at hm hk
  rcases rv_r G X.2.2.2.2.2.1.2.2.1 z.toNat with q | ⟨x, q⟩
  · rw [q] at hm hk
    exact lv_aloadN X.1 X.2.1 hd hm hk
  · rw [q] at hm hk
    exact lv_aload X.1 X.2.1 hd hm hk
theorem k_istore_n {k : Fin 4} (i : Nat) (hi : (k : Nat) = i) (hi2 : i < nL) (hd : decode cc pc = .ok (.istore_n k, 1)) : kI g (kW g L cl fo zs rs ns Ts G l cc nL own ret fr lo n Qf) pc (pc + 1) (4, (i : Int), 0, 0) := by
  rintro ls st s ⟨⟨tg, z⟩, st', rfl, h2, hV⟩ p e R s0 m args below meth c X hq9 rl H locs hl hP hL
  cases h2
  refine lv_istore_n X.1 X.2.1 hd hi hl hi2 rfl (fun ls' hl' => ?_)
  refine hV p e R s0 m args below meth c X hq9 ls' H locs ?_ hP hL
  show lv_has ls' nL ((lsSet i (0, z) ls).map (kLv G))
  unfold lsSet
  rw [List.map_cons]
  exact (congrArg (fun q => lv_has ls' nL ((i, kv G (0, z)) :: q)) (kkeep G X.2.2.2.2.2.1.2.2.1 i ls)).mpr hl'
theorem k_istore (i : Nat) (hi2 : i < nL) (hd : decode cc pc = .ok (.istore i, 2)) : kI g (kW g L cl fo zs rs ns Ts G l cc nL own ret fr lo n Qf) pc (pc + 2) (4, (i : Int), 0, 0) := by
  rintro ls st s ⟨⟨tg, z⟩, st', rfl, h2, hV⟩ p e R s0 m args below meth c X hq9 rl H locs hl hP hL
  cases h2
  refine lv_istore X.1 X.2.1 hd hl hi2 rfl (fun ls' hl' => ?_)
  refine hV p e R s0 m args below meth c X hq9 ls' H locs ?_ hP hL
  show lv_has ls' nL ((lsSet i (0, z) ls).map (kLv G))
  unfold lsSet
  rw [List.map_cons]
  exact (congrArg (fun q => lv_has ls' nL ((i, kv G (0, z)) :: q)) (kkeep G X.2.2.2.2.2.1.2.2.1 i ls)).mpr hl'
theorem k_lstore_n {k : Fin 4} (i : Nat) (hi : (k : Nat) = i) (hi2 : i + 1 < nL) (hd : decode cc pc = .ok (.lstore_n k, 1)) : kI g (kW g L cl fo zs rs ns Ts G l cc nL own ret fr lo n Qf) pc (pc + 1) (4, (i : Int), 1, 0) := by
  rintro ls st s ⟨⟨tg, z⟩, st', rfl, h2, hV⟩ p e R s0 m args below meth c X hq9 rl H locs hl hP hL
  cases h2
  refine lv_lstore_n X.1 X.2.1 hd hi hl hi2 rfl (fun ls' hl' => ?_)
  refine hV p e R s0 m args below meth c X hq9 ls' H locs ?_ hP hL
  show lv_has ls' nL ((lsSet i (1, z) ls).map (kLv G))
  unfold lsSet
  rw [List.map_cons]
  exact (congrArg (fun q => lv_has ls' nL ((i, kv G (1, z)) :: q)) (kkeep2 G X.2.2.2.2.2.1.2.2.1 i ls)).mpr hl'
theorem k_lstore (i : Nat) (hi2 : i + 1 < nL) (hd : decode cc pc = .ok (.lstore i, 2)) : kI g (kW g L cl fo zs rs ns Ts G l cc nL own ret fr lo n Qf) pc (pc + 2) (4, (i : Int), 1, 0) := by
  rintro ls st s ⟨⟨tg, z⟩, st', rfl, h2, hV⟩ p e R s0 m args below meth c X hq9 rl H locs hl hP hL
  cases h2
  refine lv_lstore X.1 X.2.1 hd hl hi2 rfl (fun ls' hl' => ?_)
  refine hV p e R s0 m args below meth c X hq9 ls' H locs ?_ hP hL
  show lv_has ls' nL ((lsSet i (1, z) ls).map (kLv G))
  unfold lsSet
  rw [List.map_cons]
  exact (congrArg (fun q => lv_has ls' nL ((i, kv G (1, z)) :: q)) (kkeep2 G X.2.2.2.2.2.1.2.2.1 i ls)).mpr hl'
theorem k_astore_n {k : Fin 4} (i : Nat) (hi : (k : Nat) = i) (hi2 : i < nL) (hd : decode cc pc = .ok (.astore_n k, 1)) : kI g (kW g L cl fo zs rs ns Ts G l cc nL own ret fr lo n Qf) pc (pc + 1) (4, (i : Int), 2, 0) := by
  rintro ls st s ⟨⟨tg, z⟩, st', rfl, h2, hV⟩ p e R s0 m args below meth c X hq9 rl H locs hl hP hL
  cases h2
  have eq0 : kv G (2, z) = rv G (.inr (.inr z.toNat)) := rfl
  have key : ∀ rl', lv_has rl' nL ((i, kv G (2, z)) :: (ls.map (kLv G)).filter (fun q => !(q.1 == i) && !(q.1 + 1 == i && q.2.category == 2))) → W p l e R s0 m args below meth c H locs Qf.2.1.1 Qf.2.1.2 (Qf.2.2 below args s0) (F0 m (pc + 1) rl' (st'.map (kv G))) := fun rl' hl' => by
    refine hV p e R s0 m args below meth c X hq9 rl' H locs ?_ hP hL
    show lv_has rl' nL ((lsSet i (2, z) ls).map (kLv G))
    unfold lsSet
    rw [List.map_cons]
    exact (congrArg (fun q => lv_has rl' nL ((i, kv G (2, z)) :: q)) (kkeep G X.2.2.2.2.2.1.2.2.1 i ls)).mpr hl'
  rw [List.map_cons]
  rw [eq0] at key ⊢
  rcases rv_r G X.2.2.2.2.2.1.2.2.1 z.toNat with q | ⟨x, q⟩
  · rw [q] at key ⊢
    exact lv_astore_nN X.1 X.2.1 hd hi hl hi2 rfl key
  · rw [q] at key ⊢
    exact lv_astore_n X.1 X.2.1 hd hi hl hi2 rfl key
theorem k_astore (i : Nat) (hi2 : i < nL) (hd : decode cc pc = .ok (.astore i, 2)) : kI g (kW g L cl fo zs rs ns Ts G l cc nL own ret fr lo n Qf) pc (pc + 2) (4, (i : Int), 2, 0) := by
  rintro ls st s ⟨⟨tg, z⟩, st', rfl, h2, hV⟩ p e R s0 m args below meth c X hq9 rl H locs hl hP hL
  cases h2
  have eq0 : kv G (2, z) = rv G (.inr (.inr z.toNat)) := rfl
  have key : ∀ rl', lv_has rl' nL ((i, kv G (2, z)) :: (ls.map (kLv G)).filter (fun q => !(q.1 == i) && !(q.1 + 1 == i && q.2.category == 2))) → W p l e R s0 m args below meth c H locs Qf.2.1.1 Qf.2.1.2 (Qf.2.2 below args s0) (F0 m (pc + 2) rl' (st'.map (kv G))) := fun rl' hl' => by
    refine hV p e R s0 m args below meth c X hq9 rl' H locs ?_ hP hL
    show lv_has rl' nL ((lsSet i (2, z) ls).map (kLv G))
    unfold lsSet
    rw [List.map_cons]
    exact (congrArg (fun q => lv_has rl' nL ((i, kv G (2, z)) :: q)) (kkeep G X.2.2.2.2.2.1.2.2.1 i ls)).mpr hl'
  rw [List.map_cons]
  rw [eq0] at key ⊢
  rcases rv_r G X.2.2.2.2.2.1.2.2.1 z.toNat with q | ⟨x, q⟩
  · rw [q] at key ⊢
    exact lv_astoreN X.1 X.2.1 hd hl hi2 rfl key
  · rw [q] at key ⊢
    exact lv_astore X.1 X.2.1 hd hl hi2 rfl key
theorem k_iinc (i : Nat) {z : Int} (hi2 : i < nL) (hd : decode cc pc = .ok (.iinc i z, 3)) : kI g (kW g L cl fo zs rs ns Ts G l cc nL own ret fr lo n Qf) pc (pc + 3) (5, (i : Int), z, 0) := by
  rintro ls st s ⟨a, h1, hV⟩ p e R s0 m args below meth c X hq9 rl H locs hl hP hL
  have hm : (i, kv G (0, a)) ∈ ls.map (kLv G) := List.mem_map.mpr ⟨_, h1, rfl⟩
  obtain ⟨q, hq⟩ := List.getElem?_of_mem hm
  refine lv_iinc (k := q) (x := Int32.ofInt a) X.1 X.2.1 hd hl hq (v := Int32.ofInt (a + z)) (Int32.ofInt_add a z).symm hi2 rfl (fun ls' hl' => ?_)
  refine hV p e R s0 m args below meth c X hq9 ls' H locs ?_ hP hL
  show lv_has ls' nL ((lsSet i (0, a + z) ls).map (kLv G))
  unfold lsSet
  rw [List.map_cons]
  exact (congrArg (fun q => lv_has ls' nL ((i, kv G (0, a + z)) :: q)) (kkeep G X.2.2.2.2.2.1.2.2.1 i ls)).mpr hl'
theorem k_pop (hd : decode cc pc = .ok (.pop, 1)) : kI g (kW g L cl fo zs rs ns Ts G l cc nL own ret fr lo n Qf) pc (pc + 1) (6, 0, 0, 0) := by
  rintro ls st s ⟨v, st', rfl, h1, hV⟩ p e R s0 m args below meth c X hq9 rl H locs hl hP hL
  have h := hV p e R s0 m args below meth c X hq9 rl H locs hl hP hL
  exact lv_pop X.1 X.2.1 hd (kv_cat1 G X.2.2.2.2.2.1.2.2.1 h1) h
theorem k_dup (hd : decode cc pc = .ok (.dup, 1)) : kI g (kW g L cl fo zs rs ns Ts G l cc nL own ret fr lo n Qf) pc (pc + 1) (7, 0, 0, 0) := by
  rintro ls st s ⟨v, st', rfl, h1, hV⟩ p e R s0 m args below meth c X hq9 rl H locs hl hP hL
  have h := hV p e R s0 m args below meth c X hq9 rl H locs hl hP hL
  exact lv_dup X.1 X.2.1 hd (kv_cat1 G X.2.2.2.2.2.1.2.2.1 h1) h
theorem k_dup_x1 (hd : decode cc pc = .ok (.dup_x1, 1)) : kI g (kW g L cl fo zs rs ns Ts G l cc nL own ret fr lo n Qf) pc (pc + 1) (8, 0, 0, 0) := by
  rintro ls st s ⟨v, w, st', rfl, h1, h2, hV⟩ p e R s0 m args below meth c X hq9 rl H locs hl hP hL
  have h := hV p e R s0 m args below meth c X hq9 rl H locs hl hP hL
  exact lv_dup_x1 X.1 X.2.1 hd (kv_cat1 G X.2.2.2.2.2.1.2.2.1 h1) (kv_cat1 G X.2.2.2.2.2.1.2.2.1 h2) h
theorem k_dup_x2 (hd : decode cc pc = .ok (.dup_x2, 1)) : kI g (kW g L cl fo zs rs ns Ts G l cc nL own ret fr lo n Qf) pc (pc + 1) (9, 0, 0, 0) := by
  rintro ls st s ⟨v, w, u, st', rfl, h1, h2, h3, hV⟩ p e R s0 m args below meth c X hq9 rl H locs hl hP hL
  have h := hV p e R s0 m args below meth c X hq9 rl H locs hl hP hL
  exact lv_dup_x2 X.1 X.2.1 hd (kv_cat1 G X.2.2.2.2.2.1.2.2.1 h1) (kv_cat1 G X.2.2.2.2.2.1.2.2.1 h2) (kv_cat1 G X.2.2.2.2.2.1.2.2.1 h3) h
theorem k_dup2_2 (hd : decode cc pc = .ok (.dup2, 1)) : kI g (kW g L cl fo zs rs ns Ts G l cc nL own ret fr lo n Qf) pc (pc + 1) (10, 0, 0, 0) := by
  rintro ls st s ⟨v, st', rfl, h1, hV⟩ p e R s0 m args below meth c X hq9 rl H locs hl hP hL
  have h := hV p e R s0 m args below meth c X hq9 rl H locs hl hP hL
  exact lv_dup2_2 X.1 X.2.1 hd (kv_cat2 G h1) h
theorem k_dup2_11 (hd : decode cc pc = .ok (.dup2, 1)) : kI g (kW g L cl fo zs rs ns Ts G l cc nL own ret fr lo n Qf) pc (pc + 1) (11, 0, 0, 0) := by
  rintro ls st s ⟨v, w, st', rfl, h1, h2, hV⟩ p e R s0 m args below meth c X hq9 rl H locs hl hP hL
  have h := hV p e R s0 m args below meth c X hq9 rl H locs hl hP hL
  exact lv_dup2_11 X.1 X.2.1 hd (kv_cat1 G X.2.2.2.2.2.1.2.2.1 h1) (kv_cat1 G X.2.2.2.2.2.1.2.2.1 h2) h
theorem k_dup2_x1 (hd : decode cc pc = .ok (.dup2_x1, 1)) : kI g (kW g L cl fo zs rs ns Ts G l cc nL own ret fr lo n Qf) pc (pc + 1) (12, 0, 0, 0) := by
  rintro ls st s ⟨v, w, st', rfl, h1, h2, hV⟩ p e R s0 m args below meth c X hq9 rl H locs hl hP hL
  have h := hV p e R s0 m args below meth c X hq9 rl H locs hl hP hL
  exact lv_dup2_x1_2 X.1 X.2.1 hd (kv_cat2 G h1) (kv_cat1 G X.2.2.2.2.2.1.2.2.1 h2) h
theorem k_pop2 (hd : decode cc pc = .ok (.pop2, 1)) : kI g (kW g L cl fo zs rs ns Ts G l cc nL own ret fr lo n Qf) pc (pc + 1) (13, 0, 0, 0) := by
  rintro ls st s ⟨v, st', rfl, h1, hV⟩ p e R s0 m args below meth c X hq9 rl H locs hl hP hL
  have h := hV p e R s0 m args below meth c X hq9 rl H locs hl hP hL
  exact lv_pop2_2 X.1 X.2.1 hd (kv_cat2 G h1) h
theorem k_ldc {ix : Nat} {z : Int} (hw : Cond.constant own ix (Int32.ofInt z) ∈ Ts) (hd : decode cc pc = .ok (.ldc ix, 2)) : kI g (kW g L cl fo zs rs ns Ts G l cc nL own ret fr lo n Qf) pc (pc + 2) (0, z, 0, 0) := fun ls st s hV p e R s0 m args below meth c X hq9 rl H locs hl hP hL => lv_ldc X.1 X.2.1 X.2.2.2.1 (X.2.2.2.2.1 _ hw) hd (hV p e R s0 m args below meth c X hq9 rl H locs hl hP hL)
theorem k_ldcw {ix : Nat} {z : Int} (hw : Cond.constant own ix (Int32.ofInt z) ∈ Ts) (hd : decode cc pc = .ok (.ldc_w ix, 3)) : kI g (kW g L cl fo zs rs ns Ts G l cc nL own ret fr lo n Qf) pc (pc + 3) (0, z, 0, 0) := fun ls st s hV p e R s0 m args below meth c X hq9 rl H locs hl hP hL => lv_ldcw X.1 X.2.1 X.2.2.2.1 (X.2.2.2.2.1 _ hw) hd (hV p e R s0 m args below meth c X hq9 rl H locs hl hP hL)
theorem k_ldc2 {ix : Nat} {z : Int} (hw : Cond.constantLong own ix (Int64.ofInt z) ∈ Ts) (hd : decode cc pc = .ok (.ldc2_w ix, 3)) : kI g (kW g L cl fo zs rs ns Ts G l cc nL own ret fr lo n Qf) pc (pc + 3) (1, z, 0, 0) := fun ls st s hV p e R s0 m args below meth c X hq9 rl H locs hl hP hL => lv_ldc2 X.1 X.2.1 X.2.2.2.1 (X.2.2.2.2.1 _ hw) hd (hV p e R s0 m args below meth c X hq9 rl H locs hl hP hL)
theorem k_n32 : ∀ ls st s, (kW g L cl fo zs rs ns Ts G l cc nL own ret fr lo n Qf pc ls st s ∨ ∃ (z : Int) (st2 : List qV), st = (0, z) :: st2 ∧ kW g L cl fo zs rs ns Ts G l cc nL own ret fr lo n Qf pc ls ((0, (Int32.ofInt z).toInt) :: st2) s) → kW g L cl fo zs rs ns Ts G l cc nL own ret fr lo n Qf pc ls st s := by
  rintro ls st s (hV | ⟨z, st2, rfl, hV⟩) p e R s0 m args below meth c X hq9 rl H locs hl hP hL
  · exact hV p e R s0 m args below meth c X hq9 rl H locs hl hP hL
  · have h := hV p e R s0 m args below meth c X hq9 rl H locs hl hP hL
    exact (congrArg (fun v => W p l e R s0 m args below meth c H locs Qf.2.1.1 Qf.2.1.2 (Qf.2.2 below args s0) (F0 m pc rl (v :: st2.map (kv G)))) (congrArg Value.int (ofI_toInt _))).mp h
theorem k_n64 : ∀ ls st s, (kW g L cl fo zs rs ns Ts G l cc nL own ret fr lo n Qf pc ls st s ∨ ∃ (z : Int) (st2 : List qV), st = (1, z) :: st2 ∧ kW g L cl fo zs rs ns Ts G l cc nL own ret fr lo n Qf pc ls ((1, (Int64.ofInt z).toInt) :: st2) s) → kW g L cl fo zs rs ns Ts G l cc nL own ret fr lo n Qf pc ls st s := by
  rintro ls st s (hV | ⟨z, st2, rfl, hV⟩) p e R s0 m args below meth c X hq9 rl H locs hl hP hL
  · exact hV p e R s0 m args below meth c X hq9 rl H locs hl hP hL
  · have h := hV p e R s0 m args below meth c X hq9 rl H locs hl hP hL
    exact (congrArg (fun v => W p l e R s0 m args below meth c H locs Qf.2.1.1 Qf.2.1.2 (Qf.2.2 below args s0) (F0 m pc rl (v :: st2.map (kv G)))) (congrArg Value.long (ofJ_toInt _))).mp h
theorem k_goto {tgt : Nat} {off : Int} (ht : (pc : Int) + off = (tgt : Int)) (hd : decode cc pc = .ok (.goto off, 3)) : ∀ ls st s, kW g L cl fo zs rs ns Ts G l cc nL own ret fr lo n Qf tgt ls st s → kW g L cl fo zs rs ns Ts G l cc nL own ret fr lo n Qf pc ls st s := fun ls st s hV p e R s0 m args below meth c X hq9 rl H locs hl hP hL => lv_goto X.1 X.2.1 hd ht (hV p e R s0 m args below meth c X hq9 rl H locs hl hP hL)
theorem ofI_eq {a b : Int} (ha : in32 a) (hb : in32 b) : (Int32.ofInt a = Int32.ofInt b) ↔ a = b := by
  rw [← Int32.toInt_inj, i_of ha, i_of hb]
theorem ofI_lt {a b : Int} (ha : in32 a) (hb : in32 b) : (Int32.ofInt a < Int32.ofInt b) ↔ a < b := by
  rw [Int32.lt_iff_toInt_lt, i_of ha, i_of hb]
theorem ofI_le {a b : Int} (ha : in32 a) (hb : in32 b) : (Int32.ofInt a ≤ Int32.ofInt b) ↔ a ≤ b := by
  rw [Int32.le_iff_toInt_le, i_of ha, i_of hb]
theorem in32_0 : in32 0 := ⟨by decide, by decide⟩
theorem k_icmp_eq {tgt : Nat} {off : Int} (ht : (pc : Int) + off = (tgt : Int)) (hd : decode cc pc = .ok (.if_icmp .eq off, 3)) : ∀ ls st s, (∃ (a b : Int) (st' : List qV), st = (0, b) :: (0, a) :: st' ∧ in32 a ∧ in32 b ∧ (relZ 0 a b → kW g L cl fo zs rs ns Ts G l cc nL own ret fr lo n Qf tgt ls st' s) ∧ (¬ relZ 0 a b → kW g L cl fo zs rs ns Ts G l cc nL own ret fr lo n Qf (pc + 3) ls st' s)) → kW g L cl fo zs rs ns Ts G l cc nL own ret fr lo n Qf pc ls st s := by
  rintro ls st s ⟨a, b, st', rfl, ha, hb, h1, h2⟩ p e R s0 m args below meth c X hq9 rl H locs hl hP hL
  exact lv_icmp_eq (x := Int32.ofInt a) (y := Int32.ofInt b) X.1 X.2.1 hd ht (fun q => h1 ((ofI_eq ha hb).mp q) p e R s0 m args below meth c X hq9 rl H locs hl hP hL) (fun q => h2 (fun z => q ((ofI_eq ha hb).mpr z)) p e R s0 m args below meth c X hq9 rl H locs hl hP hL)
theorem k_if_eq {tgt : Nat} {off : Int} (ht : (pc : Int) + off = (tgt : Int)) (hd : decode cc pc = .ok (.ifCond .eq off, 3)) : ∀ ls st s, (∃ (a : Int) (st' : List qV), st = (0, a) :: st' ∧ in32 a ∧ (relZ 0 a 0 → kW g L cl fo zs rs ns Ts G l cc nL own ret fr lo n Qf tgt ls st' s) ∧ (¬ relZ 0 a 0 → kW g L cl fo zs rs ns Ts G l cc nL own ret fr lo n Qf (pc + 3) ls st' s)) → kW g L cl fo zs rs ns Ts G l cc nL own ret fr lo n Qf pc ls st s := by
  rintro ls st s ⟨a, st', rfl, ha, h1, h2⟩ p e R s0 m args below meth c X hq9 rl H locs hl hP hL
  have hb := in32_0
  exact lv_if_eq (x := Int32.ofInt a) X.1 X.2.1 hd ht (fun q => h1 ((ofI_eq ha hb).mp q) p e R s0 m args below meth c X hq9 rl H locs hl hP hL) (fun q => h2 (fun z => q ((ofI_eq ha hb).mpr z)) p e R s0 m args below meth c X hq9 rl H locs hl hP hL)
theorem k_icmp_ne {tgt : Nat} {off : Int} (ht : (pc : Int) + off = (tgt : Int)) (hd : decode cc pc = .ok (.if_icmp .ne off, 3)) : ∀ ls st s, (∃ (a b : Int) (st' : List qV), st = (0, b) :: (0, a) :: st' ∧ in32 a ∧ in32 b ∧ (relZ 1 a b → kW g L cl fo zs rs ns Ts G l cc nL own ret fr lo n Qf tgt ls st' s) ∧ (¬ relZ 1 a b → kW g L cl fo zs rs ns Ts G l cc nL own ret fr lo n Qf (pc + 3) ls st' s)) → kW g L cl fo zs rs ns Ts G l cc nL own ret fr lo n Qf pc ls st s := by
  rintro ls st s ⟨a, b, st', rfl, ha, hb, h1, h2⟩ p e R s0 m args below meth c X hq9 rl H locs hl hP hL
  exact lv_icmp_ne (x := Int32.ofInt a) (y := Int32.ofInt b) X.1 X.2.1 hd ht (fun q => h1 ((not_congr (ofI_eq ha hb)).mp q) p e R s0 m args below meth c X hq9 rl H locs hl hP hL) (fun q => h2 (fun z => z ((ofI_eq ha hb).mp q)) p e R s0 m args below meth c X hq9 rl H locs hl hP hL)
theorem k_if_ne {tgt : Nat} {off : Int} (ht : (pc : Int) + off = (tgt : Int)) (hd : decode cc pc = .ok (.ifCond .ne off, 3)) : ∀ ls st s, (∃ (a : Int) (st' : List qV), st = (0, a) :: st' ∧ in32 a ∧ (relZ 1 a 0 → kW g L cl fo zs rs ns Ts G l cc nL own ret fr lo n Qf tgt ls st' s) ∧ (¬ relZ 1 a 0 → kW g L cl fo zs rs ns Ts G l cc nL own ret fr lo n Qf (pc + 3) ls st' s)) → kW g L cl fo zs rs ns Ts G l cc nL own ret fr lo n Qf pc ls st s := by
  rintro ls st s ⟨a, st', rfl, ha, h1, h2⟩ p e R s0 m args below meth c X hq9 rl H locs hl hP hL
  have hb := in32_0
  exact lv_if_ne (x := Int32.ofInt a) X.1 X.2.1 hd ht (fun q => h1 ((not_congr (ofI_eq ha hb)).mp q) p e R s0 m args below meth c X hq9 rl H locs hl hP hL) (fun q => h2 (fun z => z ((ofI_eq ha hb).mp q)) p e R s0 m args below meth c X hq9 rl H locs hl hP hL)
theorem k_icmp_lt {tgt : Nat} {off : Int} (ht : (pc : Int) + off = (tgt : Int)) (hd : decode cc pc = .ok (.if_icmp .lt off, 3)) : ∀ ls st s, (∃ (a b : Int) (st' : List qV), st = (0, b) :: (0, a) :: st' ∧ in32 a ∧ in32 b ∧ (relZ 2 a b → kW g L cl fo zs rs ns Ts G l cc nL own ret fr lo n Qf tgt ls st' s) ∧ (¬ relZ 2 a b → kW g L cl fo zs rs ns Ts G l cc nL own ret fr lo n Qf (pc + 3) ls st' s)) → kW g L cl fo zs rs ns Ts G l cc nL own ret fr lo n Qf pc ls st s := by
  rintro ls st s ⟨a, b, st', rfl, ha, hb, h1, h2⟩ p e R s0 m args below meth c X hq9 rl H locs hl hP hL
  exact lv_icmp_lt (x := Int32.ofInt a) (y := Int32.ofInt b) X.1 X.2.1 hd ht (fun q => h1 ((ofI_lt ha hb).mp q) p e R s0 m args below meth c X hq9 rl H locs hl hP hL) (fun q => h2 (fun z => q ((ofI_lt ha hb).mpr z)) p e R s0 m args below meth c X hq9 rl H locs hl hP hL)
theorem k_if_lt {tgt : Nat} {off : Int} (ht : (pc : Int) + off = (tgt : Int)) (hd : decode cc pc = .ok (.ifCond .lt off, 3)) : ∀ ls st s, (∃ (a : Int) (st' : List qV), st = (0, a) :: st' ∧ in32 a ∧ (relZ 2 a 0 → kW g L cl fo zs rs ns Ts G l cc nL own ret fr lo n Qf tgt ls st' s) ∧ (¬ relZ 2 a 0 → kW g L cl fo zs rs ns Ts G l cc nL own ret fr lo n Qf (pc + 3) ls st' s)) → kW g L cl fo zs rs ns Ts G l cc nL own ret fr lo n Qf pc ls st s := by
  rintro ls st s ⟨a, st', rfl, ha, h1, h2⟩ p e R s0 m args below meth c X hq9 rl H locs hl hP hL
  have hb := in32_0
  exact lv_if_lt (x := Int32.ofInt a) X.1 X.2.1 hd ht (fun q => h1 ((ofI_lt ha hb).mp q) p e R s0 m args below meth c X hq9 rl H locs hl hP hL) (fun q => h2 (fun z => q ((ofI_lt ha hb).mpr z)) p e R s0 m args below meth c X hq9 rl H locs hl hP hL)
theorem k_icmp_ge {tgt : Nat} {off : Int} (ht : (pc : Int) + off = (tgt : Int)) (hd : decode cc pc = .ok (.if_icmp .ge off, 3)) : ∀ ls st s, (∃ (a b : Int) (st' : List qV), st = (0, b) :: (0, a) :: st' ∧ in32 a ∧ in32 b ∧ (relZ 3 a b → kW g L cl fo zs rs ns Ts G l cc nL own ret fr lo n Qf tgt ls st' s) ∧ (¬ relZ 3 a b → kW g L cl fo zs rs ns Ts G l cc nL own ret fr lo n Qf (pc + 3) ls st' s)) → kW g L cl fo zs rs ns Ts G l cc nL own ret fr lo n Qf pc ls st s := by
  rintro ls st s ⟨a, b, st', rfl, ha, hb, h1, h2⟩ p e R s0 m args below meth c X hq9 rl H locs hl hP hL
  exact lv_icmp_ge (x := Int32.ofInt a) (y := Int32.ofInt b) X.1 X.2.1 hd ht (fun q => h1 ((ofI_le hb ha).mp q) p e R s0 m args below meth c X hq9 rl H locs hl hP hL) (fun q => h2 (fun z => q ((ofI_le hb ha).mpr z)) p e R s0 m args below meth c X hq9 rl H locs hl hP hL)
theorem k_if_ge {tgt : Nat} {off : Int} (ht : (pc : Int) + off = (tgt : Int)) (hd : decode cc pc = .ok (.ifCond .ge off, 3)) : ∀ ls st s, (∃ (a : Int) (st' : List qV), st = (0, a) :: st' ∧ in32 a ∧ (relZ 3 a 0 → kW g L cl fo zs rs ns Ts G l cc nL own ret fr lo n Qf tgt ls st' s) ∧ (¬ relZ 3 a 0 → kW g L cl fo zs rs ns Ts G l cc nL own ret fr lo n Qf (pc + 3) ls st' s)) → kW g L cl fo zs rs ns Ts G l cc nL own ret fr lo n Qf pc ls st s := by
  rintro ls st s ⟨a, st', rfl, ha, h1, h2⟩ p e R s0 m args below meth c X hq9 rl H locs hl hP hL
  have hb := in32_0
  exact lv_if_ge (x := Int32.ofInt a) X.1 X.2.1 hd ht (fun q => h1 ((ofI_le hb ha).mp q) p e R s0 m args below meth c X hq9 rl H locs hl hP hL) (fun q => h2 (fun z => q ((ofI_le hb ha).mpr z)) p e R s0 m args below meth c X hq9 rl H locs hl hP hL)
theorem k_icmp_gt {tgt : Nat} {off : Int} (ht : (pc : Int) + off = (tgt : Int)) (hd : decode cc pc = .ok (.if_icmp .gt off, 3)) : ∀ ls st s, (∃ (a b : Int) (st' : List qV), st = (0, b) :: (0, a) :: st' ∧ in32 a ∧ in32 b ∧ (relZ 4 a b → kW g L cl fo zs rs ns Ts G l cc nL own ret fr lo n Qf tgt ls st' s) ∧ (¬ relZ 4 a b → kW g L cl fo zs rs ns Ts G l cc nL own ret fr lo n Qf (pc + 3) ls st' s)) → kW g L cl fo zs rs ns Ts G l cc nL own ret fr lo n Qf pc ls st s := by
  rintro ls st s ⟨a, b, st', rfl, ha, hb, h1, h2⟩ p e R s0 m args below meth c X hq9 rl H locs hl hP hL
  exact lv_icmp_gt (x := Int32.ofInt a) (y := Int32.ofInt b) X.1 X.2.1 hd ht (fun q => h1 ((ofI_lt hb ha).mp q) p e R s0 m args below meth c X hq9 rl H locs hl hP hL) (fun q => h2 (fun z => q ((ofI_lt hb ha).mpr z)) p e R s0 m args below meth c X hq9 rl H locs hl hP hL)
theorem k_if_gt {tgt : Nat} {off : Int} (ht : (pc : Int) + off = (tgt : Int)) (hd : decode cc pc = .ok (.ifCond .gt off, 3)) : ∀ ls st s, (∃ (a : Int) (st' : List qV), st = (0, a) :: st' ∧ in32 a ∧ (relZ 4 a 0 → kW g L cl fo zs rs ns Ts G l cc nL own ret fr lo n Qf tgt ls st' s) ∧ (¬ relZ 4 a 0 → kW g L cl fo zs rs ns Ts G l cc nL own ret fr lo n Qf (pc + 3) ls st' s)) → kW g L cl fo zs rs ns Ts G l cc nL own ret fr lo n Qf pc ls st s := by
  rintro ls st s ⟨a, st', rfl, ha, h1, h2⟩ p e R s0 m args below meth c X hq9 rl H locs hl hP hL
  have hb := in32_0
  exact lv_if_gt (x := Int32.ofInt a) X.1 X.2.1 hd ht (fun q => h1 ((ofI_lt hb ha).mp q) p e R s0 m args below meth c X hq9 rl H locs hl hP hL) (fun q => h2 (fun z => q ((ofI_lt hb ha).mpr z)) p e R s0 m args below meth c X hq9 rl H locs hl hP hL)
theorem k_icmp_le {tgt : Nat} {off : Int} (ht : (pc : Int) + off = (tgt : Int)) (hd : decode cc pc = .ok (.if_icmp .le off, 3)) : ∀ ls st s, (∃ (a b : Int) (st' : List qV), st = (0, b) :: (0, a) :: st' ∧ in32 a ∧ in32 b ∧ (relZ 5 a b → kW g L cl fo zs rs ns Ts G l cc nL own ret fr lo n Qf tgt ls st' s) ∧ (¬ relZ 5 a b → kW g L cl fo zs rs ns Ts G l cc nL own ret fr lo n Qf (pc + 3) ls st' s)) → kW g L cl fo zs rs ns Ts G l cc nL own ret fr lo n Qf pc ls st s := by
  rintro ls st s ⟨a, b, st', rfl, ha, hb, h1, h2⟩ p e R s0 m args below meth c X hq9 rl H locs hl hP hL
  exact lv_icmp_le (x := Int32.ofInt a) (y := Int32.ofInt b) X.1 X.2.1 hd ht (fun q => h1 ((ofI_le ha hb).mp q) p e R s0 m args below meth c X hq9 rl H locs hl hP hL) (fun q => h2 (fun z => q ((ofI_le ha hb).mpr z)) p e R s0 m args below meth c X hq9 rl H locs hl hP hL)
theorem k_if_le {tgt : Nat} {off : Int} (ht : (pc : Int) + off = (tgt : Int)) (hd : decode cc pc = .ok (.ifCond .le off, 3)) : ∀ ls st s, (∃ (a : Int) (st' : List qV), st = (0, a) :: st' ∧ in32 a ∧ (relZ 5 a 0 → kW g L cl fo zs rs ns Ts G l cc nL own ret fr lo n Qf tgt ls st' s) ∧ (¬ relZ 5 a 0 → kW g L cl fo zs rs ns Ts G l cc nL own ret fr lo n Qf (pc + 3) ls st' s)) → kW g L cl fo zs rs ns Ts G l cc nL own ret fr lo n Qf pc ls st s := by
  rintro ls st s ⟨a, st', rfl, ha, h1, h2⟩ p e R s0 m args below meth c X hq9 rl H locs hl hP hL
  have hb := in32_0
  exact lv_if_le (x := Int32.ofInt a) X.1 X.2.1 hd ht (fun q => h1 ((ofI_le ha hb).mp q) p e R s0 m args below meth c X hq9 rl H locs hl hP hL) (fun q => h2 (fun z => q ((ofI_le ha hb).mpr z)) p e R s0 m args below meth c X hq9 rl H locs hl hP hL)
end KR
