/-! THE MACHINE'S SIDE: how a store is read, and rows of instructions -/
abbrev kOb : Type := Nat × (Nat × List (Nat ⊕ Int))
abbrev kAr : Type := Nat × (Nat × (Nat × (Nat × Nat)))
abbrev kOu : Type := Nat × (Nat × (Nat × Nat))
abbrev kSt : Type := Nat × (Nat × (Nat × Nat))
/-- objects (cell, class, fields: a block, or a reference's number); arrays (block, type, first cell, rows, places); arrays of rows (cell, type, first row's cell, rows); arrays from the start (block, type, thing, places) -/
abbrev kLay : Type := List kOb × (List kAr × (List kOu × List kSt))
def kv (G : rGm) (v : qV) : Value := if v.1 = 0 then .int (Int32.ofInt v.2) else if v.1 = 1 then .long (Int64.ofInt v.2) else rv G (.inr (.inr v.2.toNat))
def kLv (G : rGm) (q : Nat × qV) : Nat × Value := (q.1, kv G q.2)
theorem kv_i (G : rGm) (z : Int) : kv G (0, z) = .int (Int32.ofInt z) := rfl
theorem kv_j (G : rGm) (z : Int) : kv G (1, z) = .long (Int64.ofInt z) := rfl
def kfld (g : qG) (G : rGm) (s : qSg) (f : Nat ⊕ Int) : Value := match f with
  | .inl b => kv G (((g[b]?).getD (0, 0, 0, 0, [])).2.2.2.1, s b 0)
  | .inr z => kv G (2, z)
def kel (t : Nat) (z : Int) : Value := if t = 1 then .long (Int64.ofInt z) else .int (Int32.ofInt z)
/-- the heap holds the store -/
def kPic (g : qG) (L : kLay) (cl : List vw_C) (fo : List rCC) (G : rGm) (s : qSg) (n : Nat) (H : Heap) : Prop :=
  G.2.2.1 + n ≤ H.size ∧ (∀ q : Nat, q < G.2.2.1 → H[q]? = G.2.2.2.2[q]?) ∧
  (∀ x ∈ L.1, x.1 < n ∧ ∃ r : vw_C, cl[x.2.1]? = some r ∧ t_OB (G.2.2.1 + x.1) (G.1.1 x.2.1) r.2.2 (G.1.2 x.2.1) H (vp_V (x.2.2.map (kfld g G s)))) ∧
  (∀ x ∈ L.2.1, x.2.1 < 4 ∧ x.2.2.2.2 ≤ 60000000 ∧ ∀ w : Nat, w < x.2.2.2.1 → x.2.2.1 + w < n ∧ H[G.2.2.1 + (x.2.2.1 + w)]? = some (arrV (G.2.1 x.2.1) x.2.2.2.2 (fun j => kel x.2.1 (s x.1 ((x.2.2.2.2 : Int) * w + j))))) ∧
  (∀ x ∈ L.2.2.1, 4 ≤ x.2.1 ∧ x.2.1 < 7 ∧ x.2.2.2 ≤ 60000000 ∧ x.1 < n ∧ H[G.2.2.1 + x.1]? = some (arrV (G.2.1 x.2.1) x.2.2.2 (fun j => .ref (G.2.2.1 + (x.2.2.1 + j))))) ∧
  (∀ x ∈ L.2.2.2, x.2.1 < 4 ∧ ∃ d m, fo[x.2.2.1]? = some (.inr (x.2.1, x.2.2.2, d, m)) ∧ ∀ j : Nat, j < x.2.2.2 → rv G (rL d m j) = kel x.2.1 (s x.1 j))
theorem kv_cat1 (G : rGm) (h : ∀ i : Nat, G.2.2.2.1 i = .null ∨ ∃ a, G.2.2.2.1 i = .ref a) {v : qV} (hv : v.1 ≠ 1) : (kv G v).category = 1 := by
  unfold kv
  by_cases h0 : v.1 = 0
  · rw [if_pos h0]; rfl
  · rw [if_neg h0, if_neg hv]
    rcases rv_r G h v.2.toNat with e | ⟨x, e⟩ <;> rw [e] <;> rfl
theorem kv_cat2 (G : rGm) {v : qV} (hv : v.1 = 1) : (kv G v).category = 2 := by
  unfold kv
  rw [if_neg (by omega), if_pos hv]; rfl
theorem kkeep (G : rGm) (h : ∀ i : Nat, G.2.2.2.1 i = .null ∨ ∃ a, G.2.2.2.1 i = .ref a) (i : Nat) (ls : qLS) : (ls.filter (keepV i false)).map (kLv G) = (ls.map (kLv G)).filter (fun q => !(q.1 == i) && !(q.1 + 1 == i && q.2.category == 2)) := by
  rw [List.filter_map]
  congr 1
  apply List.filter_congr
  intro q _
  show (!(q.1 == i) && (!(false && q.1 == i + 1) && !(q.1 + 1 == i && q.2.1 == 1))) = (!(q.1 == i) && !(q.1 + 1 == i && (kv G q.2).category == 2))
  by_cases e : q.2.1 = 1
  · rw [kv_cat2 G e, e]; rfl
  · rw [kv_cat1 G h e, beq_false_of_ne e]; rfl
theorem kkeep2 (G : rGm) (h : ∀ i : Nat, G.2.2.2.1 i = .null ∨ ∃ a, G.2.2.2.1 i = .ref a) (i : Nat) (ls : qLS) : (ls.filter (keepV i true)).map (kLv G) = (ls.map (kLv G)).filter (fun q => !(q.1 == i) && (!(q.1 == i + 1) && !(q.1 + 1 == i && q.2.category == 2))) := by
  rw [List.filter_map]
  congr 1
  apply List.filter_congr
  intro q _
  show (!(q.1 == i) && (!(true && q.1 == i + 1) && !(q.1 + 1 == i && q.2.1 == 1))) = (!(q.1 == i) && (!(q.1 == i + 1) && !(q.1 + 1 == i && (kv G q.2).category == 2)))
  rw [Bool.true_and]
  by_cases e : q.2.1 = 1
  · rw [kv_cat2 G e, e]; rfl
  · rw [kv_cat1 G h e, beq_false_of_ne e]; rfl
section KR
variable {g : qG} {L : kLay} {cl : List vw_C} {fo : List rCC} {zs : List (String × String × String × rCV)} {rs : List (String × Nat × String × Nat)} {ns : List Cond} {Ts : List Cond} {G : rGm}
variable {l : Launch} {cc : ByteArray} {nL n : Nat} {own : String} {pc : Nat} {ret : Option FieldType} {fr lo : Nat}
abbrev kQf : Type := (Room → Prop) × ((Nat × Nat) × (List Frame → Array Value → State → State → Prop))
/-- the reading: from such a state the machine comes to the end Qf tells -/
def kW (g : qG) (L : kLay) (cl : List vw_C) (fo : List rCC) (zs : List (String × String × String × rCV)) (rs : List (String × Nat × String × Nat)) (ns : List Cond) (Ts : List Cond) (G : rGm) (l : Launch) (cc : ByteArray) (nL : Nat) (own : String) (ret : Option FieldType) (fr lo n : Nat) (Qf : kQf) (pc : Nat) : qP := fun ls st s =>
  ∀ (p : Program) (e : Env) (R : Room) (s0 : State) (m : MethodId) (args : Array Value) (below : List Frame) (meth : Method) (c : Code), rCx cl fo zs rs ns Ts G p R s0 m args meth c cc nL own ret false fr lo → (Qf.1 R ∧ (Qf.2.1.1 ≤ R.cells ∧ Qf.2.1.2 ≤ R.slots)) →
  ∀ (rl : Array Slot) (H : Heap) (locs : List Loc), lv_has rl nL (ls.map (kLv G)) → kPic g L cl fo G s n H → (∀ x ∈ locs, G.2.2.1 ≤ x.base) →
    W p l e R s0 m args below meth c H locs Qf.2.1.1 Qf.2.1.2 (Qf.2.2 below args s0) (F0 m pc rl (st.map (kv G)))
variable {Qf : kQf}
theorem kLv_mem {ls : qLS} {rl : Array Slot} {i : Nat} {v : qV} (hl : lv_has rl nL (ls.map (kLv G))) (h : (i, v) ∈ ls) : rl[i]? = some (.val (kv G v)) := hl.2.2 (i, kv G v) (List.mem_map.mpr ⟨(i, v), h, rfl⟩)
/-- V at a place follows from V behind the instruction -/
def kI (g : qG) (V : Nat → qP) (pc pc' : Nat) (d : qD) : Prop := ∀ ls st s, wD g d (V pc') ls st s → V pc ls st s
theorem k_iconst {z : Int} (hd : decode cc pc = .ok (.iconst z, 1)) : kI g (kW g L cl fo zs rs ns Ts G l cc nL own ret fr lo n Qf) pc (pc + 1) (0, z, 0, 0) := fun ls st s hV p e R s0 m args below meth c X hq9 rl H locs hl hP hL => lv_iconst X.1 X.2.1 hd rfl (hV p e R s0 m args below meth c X hq9 rl H locs hl hP hL)
theorem k_bipush {z : Int} (hz : (Int8.ofInt z).toInt32 = Int32.ofInt z) (hd : decode cc pc = .ok (.bipush z, 2)) : kI g (kW g L cl fo zs rs ns Ts G l cc nL own ret fr lo n Qf) pc (pc + 2) (0, z, 0, 0) := fun ls st s hV p e R s0 m args below meth c X hq9 rl H locs hl hP hL => lv_bipush X.1 X.2.1 hd hz (hV p e R s0 m args below meth c X hq9 rl H locs hl hP hL)
theorem k_sipush {z : Int} (hz : (Int16.ofInt z).toInt32 = Int32.ofInt z) (hd : decode cc pc = .ok (.sipush z, 3)) : kI g (kW g L cl fo zs rs ns Ts G l cc nL own ret fr lo n Qf) pc (pc + 3) (0, z, 0, 0) := fun ls st s hV p e R s0 m args below meth c X hq9 rl H locs hl hP hL => lv_sipush X.1 X.2.1 hd hz (hV p e R s0 m args below meth c X hq9 rl H locs hl hP hL)
theorem k_lconst {z : Int} {k : Fin 2} (hz : Int64.ofNat k = Int64.ofInt z) (hd : decode cc pc = .ok (.lconst k, 1)) : kI g (kW g L cl fo zs rs ns Ts G l cc nL own ret fr lo n Qf) pc (pc + 1) (1, z, 0, 0) := fun ls st s hV p e R s0 m args below meth c X hq9 rl H locs hl hP hL => lv_lconst X.1 X.2.1 hd hz (hV p e R s0 m args below meth c X hq9 rl H locs hl hP hL)
theorem k_iadd (b : Int × Int) (hd : decode cc pc = .ok (.iadd, 1)) : kI g (kW g L cl fo zs rs ns Ts G l cc nL own ret fr lo n Qf) pc (pc + 1) (14, 0, b) := by
  rintro ls st s ⟨x, y, st', rfl, hV⟩ p e R s0 m args below meth c X hq9 rl H locs hl hP hL
  refine lv_iadd X.1 X.2.1 hd ?_
  rw [← Int32.ofInt_add]
  exact hV p e R s0 m args below meth c X hq9 rl H locs hl hP hL
end KR
