/-! ROWS: constants, locals, stack, numbers -/
theorem ofI_toInt (x : Int32) : Int32.ofInt x.toInt = x := Int32.ofInt_toInt x
theorem ofJ_toInt (x : Int64) : Int64.ofInt x.toInt = x := Int64.ofInt_toInt x
theorem cmp_lg {x y : Int} (hx : in64 x) (hy : in64 y) : Int32.ofInt (cmpZ x y) = lg_cmp (Int64.ofInt x) (Int64.ofInt y) := by
  unfold cmpZ lg_cmp
  simp only [gt_iff_lt, Int64.lt_iff_toInt_lt, ← Int64.toInt_inj, j_of hx, j_of hy]
  rcases Int.lt_trichotomy x y with h | h | h
  · rw [if_pos h, if_neg (by omega), if_neg (by omega)]; rfl
  · rw [if_neg (by omega), if_pos h, if_neg (by omega), if_pos h]; rfl
  · rw [if_neg (by omega), if_neg (by omega), if_pos h]; rfl
section KR
variable {g : qG} {L : kLay} {cl : List vw_C} {fo : List rCC} {zs : List (String × String × String × rCV)} {rs : List (String × Nat × String × Nat)} {ns : List Cond} {Ts : List Cond} {G : rGm}
variable {l : Launch} {cc : ByteArray} {nL n : Nat} {own : String} {pc : Nat} {ret : Option FieldType} {fr lo : Nat} {Qf : kQf}
theorem k_isub (hd : decode cc pc = .ok (.isub, 1)) : kI g (kW g L cl fo zs rs ns Ts G l cc nL own ret fr lo n Qf) pc (pc + 1) (15, 0, 0, 0) := by
  rintro ls st s ⟨x, y, st', rfl, hV⟩ p e R s0 m args below meth c X hq9 rl H locs hl hP hL
  have h := hV p e R s0 m args below meth c X hq9 rl H locs hl hP hL
  refine lv_isub (x := Int32.ofInt x) (y := Int32.ofInt y) X.1 X.2.1 hd ?_
  rw [← Int32.ofInt_sub]
  exact h
theorem k_imul (hd : decode cc pc = .ok (.imul, 1)) : kI g (kW g L cl fo zs rs ns Ts G l cc nL own ret fr lo n Qf) pc (pc + 1) (16, 0, 0, 0) := by
  rintro ls st s ⟨x, y, st', rfl, hV⟩ p e R s0 m args below meth c X hq9 rl H locs hl hP hL
  have h := hV p e R s0 m args below meth c X hq9 rl H locs hl hP hL
  refine lv_imul (x := Int32.ofInt x) (y := Int32.ofInt y) X.1 X.2.1 hd ?_
  rw [← Int32.ofInt_mul]
  exact h
theorem k_ladd (hd : decode cc pc = .ok (.ladd, 1)) : kI g (kW g L cl fo zs rs ns Ts G l cc nL own ret fr lo n Qf) pc (pc + 1) (14, 1, 0, 0) := by
  rintro ls st s ⟨x, y, st', rfl, hV⟩ p e R s0 m args below meth c X hq9 rl H locs hl hP hL
  have h := hV p e R s0 m args below meth c X hq9 rl H locs hl hP hL
  refine lv_ladd (x := Int64.ofInt x) (y := Int64.ofInt y) X.1 X.2.1 hd ?_
  rw [← Int64.ofInt_add]
  exact h
theorem k_lsub (hd : decode cc pc = .ok (.lsub, 1)) : kI g (kW g L cl fo zs rs ns Ts G l cc nL own ret fr lo n Qf) pc (pc + 1) (15, 1, 0, 0) := by
  rintro ls st s ⟨x, y, st', rfl, hV⟩ p e R s0 m args below meth c X hq9 rl H locs hl hP hL
  have h := hV p e R s0 m args below meth c X hq9 rl H locs hl hP hL
  refine lv_lsub (x := Int64.ofInt x) (y := Int64.ofInt y) X.1 X.2.1 hd ?_
  rw [← Int64.ofInt_sub]
  exact h
theorem k_lmul (hd : decode cc pc = .ok (.lmul, 1)) : kI g (kW g L cl fo zs rs ns Ts G l cc nL own ret fr lo n Qf) pc (pc + 1) (16, 1, 0, 0) := by
  rintro ls st s ⟨x, y, st', rfl, hV⟩ p e R s0 m args below meth c X hq9 rl H locs hl hP hL
  have h := hV p e R s0 m args below meth c X hq9 rl H locs hl hP hL
  refine lv_lmul (x := Int64.ofInt x) (y := Int64.ofInt y) X.1 X.2.1 hd ?_
  rw [← Int64.ofInt_mul]
  exact h
theorem k_ineg (hd : decode cc pc = .ok (.ineg, 1)) : kI g (kW g L cl fo zs rs ns Ts G l cc nL own ret fr lo n Qf) pc (pc + 1) (17, 0, 0, 0) := by
  rintro ls st s ⟨x, st', rfl, hV⟩ p e R s0 m args below meth c X hq9 rl H locs hl hP hL
  have h := hV p e R s0 m args below meth c X hq9 rl H locs hl hP hL
  refine lv_ineg (x := Int32.ofInt x) X.1 X.2.1 hd ?_
  rw [← Int32.ofInt_neg]
  exact h
theorem k_lneg (hd : decode cc pc = .ok (.lneg, 1)) : kI g (kW g L cl fo zs rs ns Ts G l cc nL own ret fr lo n Qf) pc (pc + 1) (17, 1, 0, 0) := by
  rintro ls st s ⟨x, st', rfl, hV⟩ p e R s0 m args below meth c X hq9 rl H locs hl hP hL
  have h := hV p e R s0 m args below meth c X hq9 rl H locs hl hP hL
  refine lv_lneg (x := Int64.ofInt x) X.1 X.2.1 hd ?_
  rw [← Int64.ofInt_neg]
  exact h
theorem k_iand (hd : decode cc pc = .ok (.iand, 1)) : kI g (kW g L cl fo zs rs ns Ts G l cc nL own ret fr lo n Qf) pc (pc + 1) (18, 0, 0, 0) := by
  rintro ls st s ⟨x, y, st', rfl, hx, hy, -, hV⟩ p e R s0 m args below meth c X hq9 rl H locs hl hP hL
  have h := hV p e R s0 m args below meth c X hq9 rl H locs hl hP hL
  refine lv_iand (x := Int32.ofInt x) (y := Int32.ofInt y) X.1 X.2.1 hd ?_
  exact (congrArg (fun v => W p l e R s0 m args below meth c H locs Qf.2.1.1 Qf.2.1.2 (Qf.2.2 below args s0) (F0 m (pc + 1) rl (v :: st'.map (kv G)))) (congrArg Value.int (ofI_toInt _))).mp h
theorem k_ior (hd : decode cc pc = .ok (.ior, 1)) : kI g (kW g L cl fo zs rs ns Ts G l cc nL own ret fr lo n Qf) pc (pc + 1) (18, 1, 0, 0) := by
  rintro ls st s ⟨x, y, st', rfl, hx, hy, -, hV⟩ p e R s0 m args below meth c X hq9 rl H locs hl hP hL
  have h := hV p e R s0 m args below meth c X hq9 rl H locs hl hP hL
  refine lv_ior (x := Int32.ofInt x) (y := Int32.ofInt y) X.1 X.2.1 hd ?_
  exact (congrArg (fun v => W p l e R s0 m args below meth c H locs Qf.2.1.1 Qf.2.1.2 (Qf.2.2 below args s0) (F0 m (pc + 1) rl (v :: st'.map (kv G)))) (congrArg Value.int (ofI_toInt _))).mp h
theorem k_ixor (hd : decode cc pc = .ok (.ixor, 1)) : kI g (kW g L cl fo zs rs ns Ts G l cc nL own ret fr lo n Qf) pc (pc + 1) (18, 2, 0, 0) := by
  rintro ls st s ⟨x, y, st', rfl, hx, hy, -, hV⟩ p e R s0 m args below meth c X hq9 rl H locs hl hP hL
  have h := hV p e R s0 m args below meth c X hq9 rl H locs hl hP hL
  refine lv_ixor (x := Int32.ofInt x) (y := Int32.ofInt y) X.1 X.2.1 hd ?_
  exact (congrArg (fun v => W p l e R s0 m args below meth c H locs Qf.2.1.1 Qf.2.1.2 (Qf.2.2 below args s0) (F0 m (pc + 1) rl (v :: st'.map (kv G)))) (congrArg Value.int (ofI_toInt _))).mp h
theorem k_ishl (hd : decode cc pc = .ok (.ishl, 1)) : kI g (kW g L cl fo zs rs ns Ts G l cc nL own ret fr lo n Qf) pc (pc + 1) (18, 3, 0, 0) := by
  rintro ls st s ⟨x, y, st', rfl, hx, hy, -, hV⟩ p e R s0 m args below meth c X hq9 rl H locs hl hP hL
  have h := hV p e R s0 m args below meth c X hq9 rl H locs hl hP hL
  refine lv_ishl (x := Int32.ofInt x) (y := Int32.ofInt y) X.1 X.2.1 hd ?_
  exact (congrArg (fun v => W p l e R s0 m args below meth c H locs Qf.2.1.1 Qf.2.1.2 (Qf.2.2 below args s0) (F0 m (pc + 1) rl (v :: st'.map (kv G)))) (congrArg Value.int (ofI_toInt _))).mp h
theorem k_ishr (hd : decode cc pc = .ok (.ishr, 1)) : kI g (kW g L cl fo zs rs ns Ts G l cc nL own ret fr lo n Qf) pc (pc + 1) (18, 4, 0, 0) := by
  rintro ls st s ⟨x, y, st', rfl, hx, hy, -, hV⟩ p e R s0 m args below meth c X hq9 rl H locs hl hP hL
  have h := hV p e R s0 m args below meth c X hq9 rl H locs hl hP hL
  refine lv_ishr (x := Int32.ofInt x) (y := Int32.ofInt y) X.1 X.2.1 hd ?_
  exact (congrArg (fun v => W p l e R s0 m args below meth c H locs Qf.2.1.1 Qf.2.1.2 (Qf.2.2 below args s0) (F0 m (pc + 1) rl (v :: st'.map (kv G)))) (congrArg Value.int (ofI_toInt _))).mp h
theorem k_iushr (hd : decode cc pc = .ok (.iushr, 1)) : kI g (kW g L cl fo zs rs ns Ts G l cc nL own ret fr lo n Qf) pc (pc + 1) (18, 5, 0, 0) := by
  rintro ls st s ⟨x, y, st', rfl, hx, hy, -, hV⟩ p e R s0 m args below meth c X hq9 rl H locs hl hP hL
  have h := hV p e R s0 m args below meth c X hq9 rl H locs hl hP hL
  exact lv_iushr (x := Int32.ofInt x) (y := Int32.ofInt y) X.1 X.2.1 hd (ofI_toInt _).symm h
theorem ofI_ne {z : Int} (hz : in32 z) (h : z ≠ 0) : ¬ Int32.ofInt z = 0 := fun q => h (by
  have := i_of hz
  rw [q] at this
  exact this.symm)
theorem ofJ_ne {z : Int} (hz : in64 z) (h : z ≠ 0) : ¬ Int64.ofInt z = 0 := fun q => h (by
  have := j_of hz
  rw [q] at this
  exact this.symm)
theorem k_idiv (hd : decode cc pc = .ok (.idiv, 1)) : kI g (kW g L cl fo zs rs ns Ts G l cc nL own ret fr lo n Qf) pc (pc + 1) (18, 6, 0, 0) := by
  rintro ls st s ⟨x, y, st', rfl, hx, hy, hne, hV⟩ p e R s0 m args below meth c X hq9 rl H locs hl hP hL
  have h := hV p e R s0 m args below meth c X hq9 rl H locs hl hP hL
  refine lv_idiv (x := Int32.ofInt x) (y := Int32.ofInt y) X.1 X.2.1 hd (ofI_ne hy (hne (by decide))) ?_
  exact (congrArg (fun v => W p l e R s0 m args below meth c H locs Qf.2.1.1 Qf.2.1.2 (Qf.2.2 below args s0) (F0 m (pc + 1) rl (v :: st'.map (kv G)))) (congrArg Value.int (ofI_toInt _))).mp h
theorem k_irem (hd : decode cc pc = .ok (.irem, 1)) : kI g (kW g L cl fo zs rs ns Ts G l cc nL own ret fr lo n Qf) pc (pc + 1) (18, 7, 0, 0) := by
  rintro ls st s ⟨x, y, st', rfl, hx, hy, hne, hV⟩ p e R s0 m args below meth c X hq9 rl H locs hl hP hL
  have h := hV p e R s0 m args below meth c X hq9 rl H locs hl hP hL
  refine lv_irem (x := Int32.ofInt x) (y := Int32.ofInt y) X.1 X.2.1 hd (ofI_ne hy (hne (by decide))) ?_
  exact (congrArg (fun v => W p l e R s0 m args below meth c H locs Qf.2.1.1 Qf.2.1.2 (Qf.2.2 below args s0) (F0 m (pc + 1) rl (v :: st'.map (kv G)))) (congrArg Value.int (ofI_toInt _))).mp h
theorem k_land (hd : decode cc pc = .ok (.land, 1)) : kI g (kW g L cl fo zs rs ns Ts G l cc nL own ret fr lo n Qf) pc (pc + 1) (19, 0, 1, 0) := by
  rintro ls st s ⟨x, y, st', rfl, hx, hy, -, hV⟩ p e R s0 m args below meth c X hq9 rl H locs hl hP hL
  have h := hV p e R s0 m args below meth c X hq9 rl H locs hl hP hL
  refine lv_land (x := Int64.ofInt x) (y := Int64.ofInt y) X.1 X.2.1 hd ?_
  exact (congrArg (fun v => W p l e R s0 m args below meth c H locs Qf.2.1.1 Qf.2.1.2 (Qf.2.2 below args s0) (F0 m (pc + 1) rl (v :: st'.map (kv G)))) (congrArg Value.long (ofJ_toInt _))).mp h
theorem k_lor (hd : decode cc pc = .ok (.lor, 1)) : kI g (kW g L cl fo zs rs ns Ts G l cc nL own ret fr lo n Qf) pc (pc + 1) (19, 1, 1, 0) := by
  rintro ls st s ⟨x, y, st', rfl, hx, hy, -, hV⟩ p e R s0 m args below meth c X hq9 rl H locs hl hP hL
  have h := hV p e R s0 m args below meth c X hq9 rl H locs hl hP hL
  refine lv_lor (x := Int64.ofInt x) (y := Int64.ofInt y) X.1 X.2.1 hd ?_
  exact (congrArg (fun v => W p l e R s0 m args below meth c H locs Qf.2.1.1 Qf.2.1.2 (Qf.2.2 below args s0) (F0 m (pc + 1) rl (v :: st'.map (kv G)))) (congrArg Value.long (ofJ_toInt _))).mp h
theorem k_lxor (hd : decode cc pc = .ok (.lxor, 1)) : kI g (kW g L cl fo zs rs ns Ts G l cc nL own ret fr lo n Qf) pc (pc + 1) (19, 2, 1, 0) := by
  rintro ls st s ⟨x, y, st', rfl, hx, hy, -, hV⟩ p e R s0 m args below meth c X hq9 rl H locs hl hP hL
  have h := hV p e R s0 m args below meth c X hq9 rl H locs hl hP hL
  refine lv_lxor (x := Int64.ofInt x) (y := Int64.ofInt y) X.1 X.2.1 hd ?_
  exact (congrArg (fun v => W p l e R s0 m args below meth c H locs Qf.2.1.1 Qf.2.1.2 (Qf.2.2 below args s0) (F0 m (pc + 1) rl (v :: st'.map (kv G)))) (congrArg Value.long (ofJ_toInt _))).mp h
theorem k_ldiv (hd : decode cc pc = .ok (.ldiv, 1)) : kI g (kW g L cl fo zs rs ns Ts G l cc nL own ret fr lo n Qf) pc (pc + 1) (19, 6, 1, 0) := by
  rintro ls st s ⟨x, y, st', rfl, hx, hy, hne, hV⟩ p e R s0 m args below meth c X hq9 rl H locs hl hP hL
  have h := hV p e R s0 m args below meth c X hq9 rl H locs hl hP hL
  refine lv_ldiv (x := Int64.ofInt x) (y := Int64.ofInt y) X.1 X.2.1 hd (ofJ_ne hy (hne (by decide))) ?_
  exact (congrArg (fun v => W p l e R s0 m args below meth c H locs Qf.2.1.1 Qf.2.1.2 (Qf.2.2 below args s0) (F0 m (pc + 1) rl (v :: st'.map (kv G)))) (congrArg Value.long (ofJ_toInt _))).mp h
theorem k_lrem (hd : decode cc pc = .ok (.lrem, 1)) : kI g (kW g L cl fo zs rs ns Ts G l cc nL own ret fr lo n Qf) pc (pc + 1) (19, 7, 1, 0) := by
  rintro ls st s ⟨x, y, st', rfl, hx, hy, hne, hV⟩ p e R s0 m args below meth c X hq9 rl H locs hl hP hL
  have h := hV p e R s0 m args below meth c X hq9 rl H locs hl hP hL
  refine lv_lrem (x := Int64.ofInt x) (y := Int64.ofInt y) X.1 X.2.1 hd (ofJ_ne hy (hne (by decide))) ?_
  exact (congrArg (fun v => W p l e R s0 m args below meth c H locs Qf.2.1.1 Qf.2.1.2 (Qf.2.2 below args s0) (F0 m (pc + 1) rl (v :: st'.map (kv G)))) (congrArg Value.long (ofJ_toInt _))).mp h
theorem k_lshl (hd : decode cc pc = .ok (.lshl, 1)) : kI g (kW g L cl fo zs rs ns Ts G l cc nL own ret fr lo n Qf) pc (pc + 1) (19, 3, 0, 0) := by
  rintro ls st s ⟨x, y, st', rfl, hx, hy, -, hV⟩ p e R s0 m args below meth c X hq9 rl H locs hl hP hL
  have h := hV p e R s0 m args below meth c X hq9 rl H locs hl hP hL
  exact lv_lshl (x := Int64.ofInt x) (y := Int32.ofInt y) X.1 X.2.1 hd (ofJ_toInt _).symm h
theorem k_lshr (hd : decode cc pc = .ok (.lshr, 1)) : kI g (kW g L cl fo zs rs ns Ts G l cc nL own ret fr lo n Qf) pc (pc + 1) (19, 4, 0, 0) := by
  rintro ls st s ⟨x, y, st', rfl, hx, hy, -, hV⟩ p e R s0 m args below meth c X hq9 rl H locs hl hP hL
  have h := hV p e R s0 m args below meth c X hq9 rl H locs hl hP hL
  exact lv_lshr (x := Int64.ofInt x) (y := Int32.ofInt y) X.1 X.2.1 hd (ofJ_toInt _).symm h
theorem k_lushr (hd : decode cc pc = .ok (.lushr, 1)) : kI g (kW g L cl fo zs rs ns Ts G l cc nL own ret fr lo n Qf) pc (pc + 1) (19, 5, 0, 0) := by
  rintro ls st s ⟨x, y, st', rfl, hx, hy, -, hV⟩ p e R s0 m args below meth c X hq9 rl H locs hl hP hL
  have h := hV p e R s0 m args below meth c X hq9 rl H locs hl hP hL
  exact lv_lushr (x := Int64.ofInt x) (y := Int32.ofInt y) X.1 X.2.1 hd (ofJ_toInt _).symm h
theorem k_i2b (hd : decode cc pc = .ok (.i2b, 1)) : kI g (kW g L cl fo zs rs ns Ts G l cc nL own ret fr lo n Qf) pc (pc + 1) (20, 8, 0, 0) := by
  rintro ls st s ⟨x, st', rfl, hx, hV⟩ p e R s0 m args below meth c X hq9 rl H locs hl hP hL
  have h := hV p e R s0 m args below meth c X hq9 rl H locs hl hP hL
  exact lv_i2b (x := Int32.ofInt x) X.1 X.2.1 hd (ofI_toInt _).symm h
theorem k_i2s (hd : decode cc pc = .ok (.i2s, 1)) : kI g (kW g L cl fo zs rs ns Ts G l cc nL own ret fr lo n Qf) pc (pc + 1) (20, 9, 0, 0) := by
  rintro ls st s ⟨x, st', rfl, hx, hV⟩ p e R s0 m args below meth c X hq9 rl H locs hl hP hL
  have h := hV p e R s0 m args below meth c X hq9 rl H locs hl hP hL
  exact lv_i2s (x := Int32.ofInt x) X.1 X.2.1 hd (ofI_toInt _).symm h
theorem k_i2l (hd : decode cc pc = .ok (.i2l, 1)) : kI g (kW g L cl fo zs rs ns Ts G l cc nL own ret fr lo n Qf) pc (pc + 1) (21, 0, 0, 0) := by
  rintro ls st s ⟨x, st', rfl, hx, hV⟩ p e R s0 m args below meth c X hq9 rl H locs hl hP hL
  have h := hV p e R s0 m args below meth c X hq9 rl H locs hl hP hL
  refine lv_i2l (x := Int32.ofInt x) (v := Int64.ofInt x) X.1 X.2.1 hd ?_ h
  rw [← ofJ_toInt (Int32.ofInt x).toInt64, Int32.toInt_toInt64, i_of hx]
theorem k_l2i (hd : decode cc pc = .ok (.l2i, 1)) : kI g (kW g L cl fo zs rs ns Ts G l cc nL own ret fr lo n Qf) pc (pc + 1) (22, 0, 0, 0) := by
  rintro ls st s ⟨x, st', rfl, hV⟩ p e R s0 m args below meth c X hq9 rl H locs hl hP hL
  have h := hV p e R s0 m args below meth c X hq9 rl H locs hl hP hL
  refine lv_l2i (x := Int64.ofInt x) (v := Int32.ofInt x) X.1 X.2.1 hd ?_ h
  rw [← ofI_toInt (Int64.ofInt x).toInt32, Int64.toInt_toInt32, Int64.toInt_ofInt]
  rw [← ofI_toInt (Int32.ofInt x), Int32.toInt_ofInt]
  congr 1
  simp only [Int64.size, Int32.size]
  exact Int.bmod_bmod_of_dvd (by decide)
theorem k_lcmp (hd : decode cc pc = .ok (.lcmp, 1)) : kI g (kW g L cl fo zs rs ns Ts G l cc nL own ret fr lo n Qf) pc (pc + 1) (23, 0, 0, 0) := by
  rintro ls st s ⟨x, y, st', rfl, hx, hy, hV⟩ p e R s0 m args below meth c X hq9 rl H locs hl hP hL
  have h := hV p e R s0 m args below meth c X hq9 rl H locs hl hP hL
  refine W.lcmp (x := Int64.ofInt x) (y := Int64.ofInt y) X.1 X.2.1 hd ?_
  refine (congrArg (fun v => W p l e R s0 m args below meth c H locs Qf.2.1.1 Qf.2.1.2 (Qf.2.2 below args s0) (F0 m (pc + 1) rl (v :: st'.map (kv G)))) (congrArg Value.int (cmp_lg hx hy))).mp h
end KR
