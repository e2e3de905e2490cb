/-! THE RUNNER'S READING: G: classes' numbers and slots; the arrays' classes by their types; the base; what is there from the start; the heap at the base. -/
abbrev rGm : Type := va_G × ((Nat → ClassId) × (Nat × ((Nat → Value) × Heap)))
def rTy (t : Nat) : FieldType := match t with
  | 0 => .int
  | 1 => .long
  | 2 => .byte
  | 3 => .boolean
  | 4 => .object "java/lang/String"
  | 5 => .array .int
  | _ => .array .byte
def rv (G : rGm) (v : rCV) : Value := match v with
  | .inl a => .int (nI a)
  | .inr (.inl a) => .long (lN a)
  | .inr (.inr r) => if r = 0 then .null else if r % 2 = 1 then .ref (G.2.2.1 + r / 2) else G.2.2.2.1 (r / 2 - 1)
def rLv (G : rGm) (q : Nat × rCV) : Nat × Value := (q.1, rv G q.2)
def rTys (G : rGm) : List (ClassId × FieldType) := (List.range 7).map (fun t => (G.2.1 t, rTy t))
/-- rows that were made together and not touched since: N arrays of M elements, of type t; with the array that names them (of type t2) ahead of them -/
def rRl (fs : List rCV) : Nat := match fs with
  | [.inl N, _, _] => N
  | [.inl N, _, _, _] => N + 1
  | _ => 1
def rDf (t : Nat) : rCV := if t = 1 then .inr (.inl 0) else .inl 0
def rRg (G : rGm) (fs : List rCV) (H : Heap) (a : Nat) : Prop := match fs with
  | [.inl N, .inl M, .inl t] => t < 4 ∧ M ≤ 60000000 ∧ ∀ w : Nat, w < N → H[a + w]? = some (arrV (G.2.1 t) M (fun _ => rv G (rDf t)))
  | [.inl N, .inl M, .inl t, .inl t2] => t < 4 ∧ M ≤ 60000000 ∧ N ≤ 60000000 ∧ 4 ≤ t2 ∧ t2 < 7 ∧ H[a]? = some (arrV (G.2.1 t2) N (fun j => .ref (a + 1 + j))) ∧ ∀ w : Nat, w < N → H[a + 1 + w]? = some (arrV (G.2.1 t) M (fun _ => rv G (rDf t)))
  | _ => True
/-- a cell at address a -/
def rCell (cl : List vw_C) (G : rGm) (x : rCC) (H : Heap) (a : Nat) : Prop := match x with
  | .inl (ci, fs) => (∃ r : vw_C, cl[ci]? = some r ∧ t_OB a (G.1.1 ci) r.2.2 (G.1.2 ci) H (vp_V (fs.map (rv G)))) ∨ (cl[ci]? = none ∧ rRg G fs H a)
  | .inr (t, N, d, m) => t < 7 ∧ N ≤ 60000000 ∧ H[a]? = some (arrV (G.2.1 t) N (fun j => rv G (rL d m j)))
/-- how many cells it speaks of -/
def rLen (cl : List vw_C) (x : rCC) : Nat := match x with
  | .inl (ci, fs) => match cl[ci]? with
    | some _ => 1
    | none => rRl fs
  | .inr _ => 1
def rPic (cl : List vw_C) (G : rGm) (w : rWd) (n : Nat) (H : Heap) : Prop := H.size = G.2.2.1 + n ∧ (∀ q : Nat, q < G.2.2.1 → H[q]? = G.2.2.2.2[q]?) ∧ ∀ (i : Nat) (x : rCC), wGet i w = some x → i < n ∧ rCell cl G x H (G.2.2.1 + i) ∧ i + rLen cl x ≤ n ∧ ∀ (j : Nat) (y : rCC), wGet j w = some y → j ≠ i → j < i ∨ i + rLen cl x ≤ j
/-- a thing that is there from the start -/
def rFx (cl : List vw_C) (G : rGm) (i : Nat) (x : rCC) (U : State) : Prop := match x with
  | .inl (ci, fs) => ∃ (a : Nat) (cell : Cell) (r : vw_C), G.2.2.2.1 i = .ref a ∧ a < G.2.2.1 ∧ G.2.2.2.2[a]? = some cell ∧ cl[ci]? = some r ∧ cell.cls = G.1.1 ci ∧ (cell.vm.isStatics = false ∧ cell.vm ≠ .unknown) ∧ ∀ (j : Nat) (v : rCV), fs[j]? = some v → cell.slots[G.1.2 ci j]? = some (rv G v)
  | .inr (t, N, d, m) => ∃ a : Nat, G.2.2.2.1 i = .ref a ∧ a < G.2.2.1 ∧ t < 4 ∧ N ≤ 60000000 ∧ va_T (rTy t) a N (fun j => rv G (rL d m j)) (fun q => G.2.2.1 ≤ q) U G.2.2.2.2
/-- where two statics of Throwable lie -/
def rZx (G : rGm) (U : State) : Prop := vx_Zq Bundle.tN "UNASSIGNED_STACK" Bundle.steD (fun a => G.2.2.1 ≤ a) U G.2.2.2.2 ∧ vx_Zq Bundle.tN "SUPPRESSED_SENTINEL" Bundle.listD (fun a => G.2.2.1 ≤ a) U G.2.2.2.2
/-- what the tables and the heap below the base say, at any time -/
def rKK (cl : List vw_C) (fo : List rCC) (zs : List (String × String × String × rCV)) (rs : List (String × Nat × String × Nat)) (ns : List Cond) (G : rGm) (U : State) : Prop :=
  va_K G.1 cl (rTys G) U ∧ ((G.2.2.2.2.size = G.2.2.1 ∧ rZx G U) ∧ ∀ w ∈ ns, va_Nw w U ∧ ∀ s1 s2 : State, s1.WarmedH s2.vm → va_Nw w s1 → va_Nw w s2) ∧ (∀ i : Nat, G.2.2.2.1 i = .null ∨ ∃ a, G.2.2.2.1 i = .ref a) ∧
  (∀ q ∈ zs, va_Z q.1 q.2.1 q.2.2.1 (rv G q.2.2.2) (fun a => G.2.2.1 ≤ a) U G.2.2.2.2) ∧
  (∀ q ∈ rs, ∃ a, G.2.2.2.1 q.2.2.2 = .ref a ∧ vk_R q.1 q.2.1 q.2.2.1 a U) ∧
  ∀ (i : Nat) (x : rCC), fo[i]? = some x → rFx cl G i x U
/-- a method's end -/
def rQ (cl : List vw_C) (fo : List rCC) (zs : List (String × String × String × rCV)) (rs : List (String × Nat × String × Nat)) (ns : List Cond) (G : rGm) (o : rOut) : Array Value → State → Outcome → State → Prop := fun _ _ oc t => oc = .returned (o.1.map (rv G)) ∧ rPic cl G o.2.1 o.2.2.1 t.heap ∧ rKK cl fo zs rs ns G t
theorem rv_r (G : rGm) (h : ∀ i : Nat, G.2.2.2.1 i = .null ∨ ∃ a, G.2.2.2.1 i = .ref a) (r : Nat) : rv G (.inr (.inr r)) = .null ∨ ∃ a, rv G (.inr (.inr r)) = .ref a := by
  show (if r = 0 then Value.null else if r % 2 = 1 then .ref (G.2.2.1 + r / 2) else G.2.2.2.1 (r / 2 - 1)) = .null ∨ ∃ a, (if r = 0 then Value.null else if r % 2 = 1 then .ref (G.2.2.1 + r / 2) else G.2.2.2.1 (r / 2 - 1)) = .ref a
  by_cases h0 : r = 0
  · rw [if_pos h0]; exact Or.inl rfl
  · rw [if_neg h0]
    by_cases h1 : r % 2 = 1
    · rw [if_pos h1]; exact Or.inr ⟨_, rfl⟩
    · rw [if_neg h1]; exact h _
theorem rv_own (G : rGm) {r : Nat} (h : r % 2 = 1) : rv G (.inr (.inr r)) = .ref (G.2.2.1 + r / 2) := by
  show (if r = 0 then Value.null else if r % 2 = 1 then .ref (G.2.2.1 + r / 2) else G.2.2.2.1 (r / 2 - 1)) = _
  rw [if_neg (by omega), if_pos h]
theorem rv_ext (G : rGm) {r : Nat} (h : ¬ r % 2 = 1) (h0 : ¬ r = 0) : rv G (.inr (.inr r)) = G.2.2.2.1 (r / 2 - 1) := by
  show (if r = 0 then Value.null else if r % 2 = 1 then .ref (G.2.2.1 + r / 2) else G.2.2.2.1 (r / 2 - 1)) = _
  rw [if_neg h0, if_neg h]
theorem rv_cat1 (G : rGm) (h : ∀ i : Nat, G.2.2.2.1 i = .null ∨ ∃ a, G.2.2.2.1 i = .ref a) {v : rCV} (hv : rLong v = false) : (rv G v).category = 1 := by
  rcases v with a | a | a
  · rfl
  · cases hv
  · rcases rv_r G h a with e | ⟨x, e⟩ <;> rw [e] <;> rfl
theorem rv_cat2 (G : rGm) {v : rCV} (hv : rLong v = true) : (rv G v).category = 2 := by
  rcases v with a | a | a
  · cases hv
  · rfl
  · cases hv
theorem rv_cat (G : rGm) (h : ∀ i : Nat, G.2.2.2.1 i = .null ∨ ∃ a, G.2.2.2.1 i = .ref a) (v : rCV) : (rv G v).category = rCat v := by
  cases e : rLong v
  · rw [rv_cat1 G h e]; show 1 = rB (rLong v) 2 1; rw [e]; rfl
  · rw [rv_cat2 G e]; show 2 = rB (rLong v) 2 1; rw [e]; rfl
theorem rKeep1_eq (G : rGm) (h : ∀ i : Nat, G.2.2.2.1 i = .null ∨ ∃ a, G.2.2.2.1 i = .ref a) (i : Nat) (ls : rLs) : (ls.filter (rKeep1 i)).map (rLv G) = (ls.map (rLv G)).filter (fun q => !(q.1 == i) && !(q.1 + 1 == i && q.2.category == 2)) := by
  rw [List.filter_map]
  congr 1
  apply List.filter_congr
  intro q _
  show rB (Nat.beq q.1 i) false (rB (Nat.beq (Nat.succ q.1) i) (rB (rLong q.2) false true) true) = (!(q.1 == i) && !(q.1 + 1 == i && (rv G q.2).category == 2))
  have e1 : (q.1 == i) = Nat.beq q.1 i := r_beq _ _
  have e2 : (q.1 + 1 == i) = Nat.beq (Nat.succ q.1) i := r_beq _ _
  rw [e1, e2]
  cases Nat.beq q.1 i <;> cases Nat.beq (Nat.succ q.1) i <;> cases e3 : rLong q.2 <;> simp [rB, rv_cat1 G h, rv_cat2 G, e3]
theorem rKeep2_eq (G : rGm) (h : ∀ i : Nat, G.2.2.2.1 i = .null ∨ ∃ a, G.2.2.2.1 i = .ref a) (i : Nat) (ls : rLs) : (ls.filter (rKeep2 i)).map (rLv G) = (ls.map (rLv G)).filter (fun q => !(q.1 == i) && (!(q.1 == i + 1) && !(q.1 + 1 == i && q.2.category == 2))) := by
  rw [List.filter_map]
  congr 1
  apply List.filter_congr
  intro q _
  show rB (Nat.beq q.1 i) false (rB (Nat.beq q.1 (Nat.succ i)) false (rB (Nat.beq (Nat.succ q.1) i) (rB (rLong q.2) false true) true)) = (!(q.1 == i) && (!(q.1 == i + 1) && !(q.1 + 1 == i && (rv G q.2).category == 2)))
  have e1 : (q.1 == i) = Nat.beq q.1 i := r_beq _ _
  have e2 : (q.1 + 1 == i) = Nat.beq (Nat.succ q.1) i := r_beq _ _
  have e4 : (q.1 == i + 1) = Nat.beq q.1 (Nat.succ i) := r_beq _ _
  rw [e1, e2, e4]
  cases Nat.beq q.1 i <;> cases Nat.beq q.1 (Nat.succ i) <;> cases Nat.beq (Nat.succ q.1) i <;> cases e3 : rLong q.2 <;> simp [rB, rv_cat1 G h, rv_cat2 G, e3]
section RR
variable {cl : List vw_C} {fo : List rCC} {zs : List (String × String × String × rCV)} {rs : List (String × Nat × String × Nat)} {ns : List Cond} {Ts : List Cond} {G : rGm}
variable {l : Launch} {cc : ByteArray} {nL n0 : Nat} {own : String} {pc : Nat} {ret : Option FieldType} {ini : Bool} {fr lo : Nat}
/-- what holds inside a method -/
def rCx (cl : List vw_C) (fo : List rCC) (zs : List (String × String × String × rCV)) (rs : List (String × Nat × String × Nat)) (ns : List Cond) (Ts : List Cond) (G : rGm) (p : Program) (R : Room) (s : State) (m : MethodId) (args : Array Value) (meth : Method) (c : Code) (cc : ByteArray) (nL : Nat) (own : String) (ret : Option FieldType) (ini : Bool) (fr lo : Nat) : Prop :=
  p.tables.exec = Jvm.exec ∧ c.code = cc ∧ c.maxLocals = nL ∧ s.vm.findClass own = some m.cls ∧ (∀ w ∈ Ts, w.before args s = true) ∧ rKK cl fo zs rs ns G s ∧ meth.locks = false ∧ (G.2.2.1 ≤ s.heap.size ∧ (∀ q : Nat, q < G.2.2.1 → s.heap[q]? = G.2.2.2.2[q]?) ∧ (own ≠ "NativeWorksLaw" → ∀ x ∈ c.exceptionTable.toList, False)) ∧ meth.sig.returnType = ret ∧ (ini = true → meth.name = "<init>") ∧ R.frames = fr ∧ R.locals = lo
abbrev rQf : Type := List Frame → Array Value → State → rOut → State → Prop
/-- what a method owes at its end -/
abbrev rMQ (cl : List vw_C) (fo : List rCC) (zs : List (String × String × String × rCV)) (rs : List (String × Nat × String × Nat)) (ns : List Cond) (G : rGm) (n0 : Nat) : rQf := fun below args s o => MQ below (rQ cl fo zs rs ns G o) args s (o.2.2.1 - n0) o.2.2.2 (fun q => G.2.2.1 ≤ q)
/-- the reading: from such a state, in any such method, the machine comes to the end that the runner tells -/
def rW (cl : List vw_C) (fo : List rCC) (zs : List (String × String × String × rCV)) (rs : List (String × Nat × String × Nat)) (ns : List Cond) (Ts : List Cond) (G : rGm) (l : Launch) (cc : ByteArray) (nL : Nat) (own : String) (ret : Option FieldType) (ini : Bool) (fr lo n0 : Nat) (Qf : rQf) : rPr := fun o pc ls st w n k =>
  ∀ (p : Program) (e : Env) (R : Room) (s : State) (m : MethodId) (args : Array Value) (below : List Frame) (meth : Method) (c : Code), rCx cl fo zs rs ns Ts G p R s m args meth c cc nL own ret ini fr lo →
  o.2.2.1 - n0 ≤ R.cells → o.2.2.2 ≤ R.slots → n0 ≤ n → ∀ (rl : Array Slot) (H : Heap) (locs : List Loc), lv_has rl nL (ls.map (rLv G)) → rPic cl G w n H → (∀ x ∈ locs, G.2.2.1 ≤ x.base) →
    W p l e R s m args below meth c H locs (n - n0) k (Qf below args s o) (F0 m pc rl (st.map (rv G)))
variable {Qf : rQf}
theorem rLv_mem {ls : rLs} {rl : Array Slot} {i : Nat} {v : rCV} (hl : lv_has rl nL (ls.map (rLv G))) (h : (i, v) ∈ ls) : rl[i]? = some (.val (rv G v)) := hl.2.2 (i, rv G v) (List.mem_map.mpr ⟨(i, v), h, rfl⟩)
/-- one row of the kit that changes the stack alone -/
theorem s_row {pc' : Nat} {h : rK → rK} (hh : ∀ (k : rK) (ls : rLs) (st : List rCV) (w : rWd) (n k0 : Nat) (o : rOut), h k ls st w n k0 = some o → ∃ st', k ls st' w n k0 = some o ∧ ∀ (p : Program) (e : Env) (R : Room) (s : State) (m : MethodId) (args : Array Value) (below : List Frame) (meth : Method) (c : Code), rCx cl fo zs rs ns Ts G p R s m args meth c cc nL own ret ini fr lo → ∀ (rl : Array Slot) (H : Heap) (locs : List Loc) (cells slots : Nat) (Q : State → Prop), lv_has rl nL (ls.map (rLv G)) → W p l e R s m args below meth c H locs cells slots Q (F0 m pc' rl (st'.map (rv G))) → W p l e R s m args below meth c H locs cells slots Q (F0 m pc rl (st.map (rv G)))) :
    HS (rW cl fo zs rs ns Ts G l cc nL own ret ini fr lo n0 Qf) pc pc' h := by
  apply HS.same
  intro k ls st w n k0 o e0
  obtain ⟨st', e1, hr⟩ := hh k ls st w n k0 o e0
  refine ⟨ls, st', e1, fun hV p e R s m args below meth c X r1 r2 r3 rl H locs hl hP hL => ?_⟩
  exact hr p e R s m args below meth c X rl H locs _ _ _ hl (hV p e R s m args below meth c X r1 r2 r3 rl H locs hl hP hL)
theorem s_iload_n {k : Fin 4} (i : Nat) (hi : (k : Nat) = i) (hd : decode cc pc = .ok (.iload_n k, 1)) : HS (rW cl fo zs rs ns Ts G l cc nL own ret ini fr lo n0 Qf) pc (pc + 1) (h_ld isI i) := by
  apply s_row
  intro k0 ls st w n kk o e0
  obtain ⟨v, h1, h2⟩ := rA_some ls e0
  obtain ⟨h3, h4⟩ := rB_yes h2
  obtain ⟨a, rfl⟩ := isI_e h3
  exact ⟨_, h4, fun p e R s m args below meth c X rl H locs cells slots Q hl hk => lv_iload_n X.1 X.2.1 hd hi (rLv_mem hl h1) hk⟩
theorem s_iload (i : Nat) (hd : decode cc pc = .ok (.iload i, 2)) : HS (rW cl fo zs rs ns Ts G l cc nL own ret ini fr lo n0 Qf) pc (pc + 2) (h_ld isI i) := by
  apply s_row
  intro k0 ls st w n kk o e0
  obtain ⟨v, h1, h2⟩ := rA_some ls e0
  obtain ⟨h3, h4⟩ := rB_yes h2
  obtain ⟨a, rfl⟩ := isI_e h3
  exact ⟨_, h4, fun p e R s m args below meth c X rl H locs cells slots Q hl hk => lv_iload X.1 X.2.1 hd (rLv_mem hl h1) hk⟩
theorem s_lload_n {k : Fin 4} (i : Nat) (hi : (k : Nat) = i) (hd : decode cc pc = .ok (.lload_n k, 1)) : HS (rW cl fo zs rs ns Ts G l cc nL own ret ini fr lo n0 Qf) pc (pc + 1) (h_ld isJ i) := by
  apply s_row
  intro k0 ls st w n kk o e0
  obtain ⟨v, h1, h2⟩ := rA_some ls e0
  obtain ⟨h3, h4⟩ := rB_yes h2
  obtain ⟨a, rfl⟩ := isJ_e h3
  exact ⟨_, h4, fun p e R s m args below meth c X rl H locs cells slots Q hl hk => lv_lload_n X.1 X.2.1 hd hi (rLv_mem hl h1) hk⟩
theorem s_lload (i : Nat) (hd : decode cc pc = .ok (.lload i, 2)) : HS (rW cl fo zs rs ns Ts G l cc nL own ret ini fr lo n0 Qf) pc (pc + 2) (h_ld isJ i) := by
  apply s_row
  intro k0 ls st w n kk o e0
  obtain ⟨v, h1, h2⟩ := rA_some ls e0
  obtain ⟨h3, h4⟩ := rB_yes h2
  obtain ⟨a, rfl⟩ := isJ_e h3
  exact ⟨_, h4, fun p e R s m args below meth c X rl H locs cells slots Q hl hk => lv_lload X.1 X.2.1 hd (rLv_mem hl h1) hk⟩
theorem s_aload_n {k : Fin 4} (i : Nat) (hi : (k : Nat) = i) (hd : decode cc pc = .ok (.aload_n k, 1)) : HS (rW cl fo zs rs ns Ts G l cc nL own ret ini fr lo n0 Qf) pc (pc + 1) (h_ld isR i) := by
  apply s_row
  intro k0 ls st w n kk o e0
  obtain ⟨v, h1, h2⟩ := rA_some ls e0
  obtain ⟨h3, h4⟩ := rB_yes h2
  obtain ⟨a, rfl⟩ := isR_e h3
  refine ⟨_, h4, fun p e R s m args below meth c X rl H locs cells slots Q hl hk => ?_⟩
  have hm := rLv_mem hl h1
  rw [List.map_cons] at hk
  rcases rv_r G X.2.2.2.2.2.1.2.2.1 a with q | ⟨x, q⟩
  · rw [q] at hm hk
    exact lv_aload_nN X.1 X.2.1 hd hi hm hk
  · rw [q] at hm hk
    exact lv_aload_n X.1 X.2.1 hd hi hm hk
theorem s_aload (i : Nat) (hd : decode cc pc = .ok (.aload i, 2)) : HS (rW cl fo zs rs ns Ts G l cc nL own ret ini fr lo n0 Qf) pc (pc + 2) (h_ld isR i) := by
  apply s_row
  intro k0 ls st w n kk o e0
  obtain ⟨v, h1, h2⟩ := rA_some ls e0
  obtain ⟨h3, h4⟩ := rB_yes h2
  obtain ⟨a, rfl⟩ := isR_e h3
  refine ⟨_, h4, fun p e R s m args below meth c X rl H locs cells slots Q hl hk => ?_⟩
  have hm := rLv_mem hl h1
  rw [List.map_cons] at hk
  rcases rv_r G X.2.2.2.2.2.1.2.2.1 a with q | ⟨x, q⟩
  · rw [q] at hm hk
    exact lv_aloadN X.1 X.2.1 hd hm hk
  · rw [q] at hm hk
    exact lv_aload X.1 X.2.1 hd hm hk
theorem s_istore_n {k : Fin 4} (i : Nat) (hi : (k : Nat) = i) (hi2 : i < nL) (hd : decode cc pc = .ok (.istore_n k, 1)) : HS (rW cl fo zs rs ns Ts G l cc nL own ret ini fr lo n0 Qf) pc (pc + 1) (h_st isI i) := by
  apply HS.same
  intro k0 ls st w n kk o e0
  obtain ⟨v, st', rfl, h2⟩ := rP_some e0
  obtain ⟨h3, h4⟩ := rB_yes h2
  obtain ⟨a, rfl⟩ := isI_e h3
  rw [rF_eq] at h4
  refine ⟨_, _, h4, fun hV p e R s m args below meth c X r1 r2 r3 rl H locs hl hP hL => ?_⟩
  refine lv_istore_n X.1 X.2.1 hd hi hl hi2 rfl (fun ls' hl' => ?_)
  refine hV p e R s m args below meth c X r1 r2 r3 ls' H locs ?_ hP hL
  rw [List.map_cons, rKeep1_eq G X.2.2.2.2.2.1.2.2.1]
  exact hl'
theorem s_istore (i : Nat) (hi2 : i < nL) (hd : decode cc pc = .ok (.istore i, 2)) : HS (rW cl fo zs rs ns Ts G l cc nL own ret ini fr lo n0 Qf) pc (pc + 2) (h_st isI i) := by
  apply HS.same
  intro k0 ls st w n kk o e0
  obtain ⟨v, st', rfl, h2⟩ := rP_some e0
  obtain ⟨h3, h4⟩ := rB_yes h2
  obtain ⟨a, rfl⟩ := isI_e h3
  rw [rF_eq] at h4
  refine ⟨_, _, h4, fun hV p e R s m args below meth c X r1 r2 r3 rl H locs hl hP hL => ?_⟩
  refine lv_istore X.1 X.2.1 hd hl hi2 rfl (fun ls' hl' => ?_)
  refine hV p e R s m args below meth c X r1 r2 r3 ls' H locs ?_ hP hL
  rw [List.map_cons, rKeep1_eq G X.2.2.2.2.2.1.2.2.1]
  exact hl'
theorem s_astore_n {k : Fin 4} (i : Nat) (hi : (k : Nat) = i) (hi2 : i < nL) (hd : decode cc pc = .ok (.astore_n k, 1)) : HS (rW cl fo zs rs ns Ts G l cc nL own ret ini fr lo n0 Qf) pc (pc + 1) (h_st isR i) := by
  apply HS.same
  intro k0 ls st w n kk o e0
  obtain ⟨v, st', rfl, h2⟩ := rP_some e0
  obtain ⟨h3, h4⟩ := rB_yes h2
  obtain ⟨a, rfl⟩ := isR_e h3
  rw [rF_eq] at h4
  refine ⟨_, _, h4, fun hV p e R s m args below meth c X r1 r2 r3 rl H locs hl hP hL => ?_⟩
  have key : ∀ rl', lv_has rl' nL ((i, rv G (.inr (.inr a))) :: (ls.map (rLv G)).filter (fun q => !(q.1 == i) && !(q.1 + 1 == i && q.2.category == 2))) → W p l e R s m args below meth c H locs (n - n0) kk (Qf below args s o) (F0 m (pc + 1) rl' (st'.map (rv G))) := fun rl' hl' => by
    refine hV p e R s m args below meth c X r1 r2 r3 rl' H locs ?_ hP hL
    rw [List.map_cons, rKeep1_eq G X.2.2.2.2.2.1.2.2.1]
    exact hl'
  rw [List.map_cons]
  rcases rv_r G X.2.2.2.2.2.1.2.2.1 a with q | ⟨x, q⟩
  · rw [q] at key ⊢
    exact lv_astore_nN X.1 X.2.1 hd hi hl hi2 rfl key
  · rw [q] at key ⊢
    exact lv_astore_n X.1 X.2.1 hd hi hl hi2 rfl key
theorem s_astore (i : Nat) (hi2 : i < nL) (hd : decode cc pc = .ok (.astore i, 2)) : HS (rW cl fo zs rs ns Ts G l cc nL own ret ini fr lo n0 Qf) pc (pc + 2) (h_st isR i) := by
  apply HS.same
  intro k0 ls st w n kk o e0
  obtain ⟨v, st', rfl, h2⟩ := rP_some e0
  obtain ⟨h3, h4⟩ := rB_yes h2
  obtain ⟨a, rfl⟩ := isR_e h3
  rw [rF_eq] at h4
  refine ⟨_, _, h4, fun hV p e R s m args below meth c X r1 r2 r3 rl H locs hl hP hL => ?_⟩
  have key : ∀ rl', lv_has rl' nL ((i, rv G (.inr (.inr a))) :: (ls.map (rLv G)).filter (fun q => !(q.1 == i) && !(q.1 + 1 == i && q.2.category == 2))) → W p l e R s m args below meth c H locs (n - n0) kk (Qf below args s o) (F0 m (pc + 2) rl' (st'.map (rv G))) := fun rl' hl' => by
    refine hV p e R s m args below meth c X r1 r2 r3 rl' H locs ?_ hP hL
    rw [List.map_cons, rKeep1_eq G X.2.2.2.2.2.1.2.2.1]
    exact hl'
  rw [List.map_cons]
  rcases rv_r G X.2.2.2.2.2.1.2.2.1 a with q | ⟨x, q⟩
  · rw [q] at key ⊢
    exact lv_astoreN X.1 X.2.1 hd hl hi2 rfl key
  · rw [q] at key ⊢
    exact lv_astore X.1 X.2.1 hd hl hi2 rfl key
theorem s_lstore_n {k : Fin 4} (i : Nat) (hi : (k : Nat) = i) (hi2 : i + 1 < nL) (hd : decode cc pc = .ok (.lstore_n k, 1)) : HS (rW cl fo zs rs ns Ts G l cc nL own ret ini fr lo n0 Qf) pc (pc + 1) (h_st2 i) := by
  apply HS.same
  intro k0 ls st w n kk o e0
  obtain ⟨v, st', rfl, h2⟩ := rP_some e0
  obtain ⟨h3, h4⟩ := rB_yes h2
  obtain ⟨a, rfl⟩ := isJ_e h3
  rw [rF_eq] at h4
  refine ⟨_, _, h4, fun hV p e R s m args below meth c X r1 r2 r3 rl H locs hl hP hL => ?_⟩
  refine lv_lstore_n X.1 X.2.1 hd hi hl hi2 rfl (fun ls' hl' => ?_)
  refine hV p e R s m args below meth c X r1 r2 r3 ls' H locs ?_ hP hL
  rw [List.map_cons, rKeep2_eq G X.2.2.2.2.2.1.2.2.1]
  exact hl'
theorem s_lstore (i : Nat) (hi2 : i + 1 < nL) (hd : decode cc pc = .ok (.lstore i, 2)) : HS (rW cl fo zs rs ns Ts G l cc nL own ret ini fr lo n0 Qf) pc (pc + 2) (h_st2 i) := by
  apply HS.same
  intro k0 ls st w n kk o e0
  obtain ⟨v, st', rfl, h2⟩ := rP_some e0
  obtain ⟨h3, h4⟩ := rB_yes h2
  obtain ⟨a, rfl⟩ := isJ_e h3
  rw [rF_eq] at h4
  refine ⟨_, _, h4, fun hV p e R s m args below meth c X r1 r2 r3 rl H locs hl hP hL => ?_⟩
  refine lv_lstore X.1 X.2.1 hd hl hi2 rfl (fun ls' hl' => ?_)
  refine hV p e R s m args below meth c X r1 r2 r3 ls' H locs ?_ hP hL
  rw [List.map_cons, rKeep2_eq G X.2.2.2.2.2.1.2.2.1]
  exact hl'
theorem s_iinc (i d : Nat) (z : Int) (hz : Int32.ofInt z = nI d) (hi2 : i < nL) (hd : decode cc pc = .ok (.iinc i z, 3)) : HS (rW cl fo zs rs ns Ts G l cc nL own ret ini fr lo n0 Qf) pc (pc + 3) (h_inc i d) := by
  apply HS.same
  intro k0 ls st w n kk o e0
  obtain ⟨v, h1, h2⟩ := rA_some ls e0
  obtain ⟨a, rfl, h3⟩ := rI_some h2
  rw [rN_eq, rF_eq] at h3
  refine ⟨_, _, h3, fun hV p e R s m args below meth c X r1 r2 r3 rl H locs hl hP hL => ?_⟩
  have hm : (i, rv G (.inl a)) ∈ ls.map (rLv G) := List.mem_map.mpr ⟨_, h1, rfl⟩
  obtain ⟨q, hq⟩ := List.getElem?_of_mem hm
  refine lv_iinc (k := q) X.1 X.2.1 hd hl hq (v := nI (rAdd a d)) (by rw [hz]; exact n_add a d) hi2 rfl (fun ls' hl' => ?_)
  refine hV p e R s m args below meth c X r1 r2 r3 ls' H locs ?_ hP hL
  rw [List.map_cons, rKeep1_eq G X.2.2.2.2.2.1.2.2.1]
  exact hl'
theorem s_iconst (a : Nat) {z : Int} (hz : Int32.ofInt z = nI a) (hd : decode cc pc = .ok (.iconst z, 1)) : HS (rW cl fo zs rs ns Ts G l cc nL own ret ini fr lo n0 Qf) pc (pc + 1) (h_v (.inl a)) := by
  apply s_row
  intro k0 ls st w n kk o e0
  exact ⟨_, e0, fun p e R s m args below meth c X rl H locs cells slots Q hl hk => lv_iconst X.1 X.2.1 hd hz hk⟩
theorem s_bipush (a : Nat) {z : Int} (hz : (Int8.ofInt z).toInt32 = nI a) (hd : decode cc pc = .ok (.bipush z, 2)) : HS (rW cl fo zs rs ns Ts G l cc nL own ret ini fr lo n0 Qf) pc (pc + 2) (h_v (.inl a)) := by
  apply s_row
  intro k0 ls st w n kk o e0
  exact ⟨_, e0, fun p e R s m args below meth c X rl H locs cells slots Q hl hk => lv_bipush X.1 X.2.1 hd hz hk⟩
theorem s_sipush (a : Nat) {z : Int} (hz : (Int16.ofInt z).toInt32 = nI a) (hd : decode cc pc = .ok (.sipush z, 3)) : HS (rW cl fo zs rs ns Ts G l cc nL own ret ini fr lo n0 Qf) pc (pc + 3) (h_v (.inl a)) := by
  apply s_row
  intro k0 ls st w n kk o e0
  exact ⟨_, e0, fun p e R s m args below meth c X rl H locs cells slots Q hl hk => lv_sipush X.1 X.2.1 hd hz hk⟩
theorem s_ldc (a : Nat) {ix : Nat} (hw : Cond.constant own ix (nI a) ∈ Ts) (hd : decode cc pc = .ok (.ldc ix, 2)) : HS (rW cl fo zs rs ns Ts G l cc nL own ret ini fr lo n0 Qf) pc (pc + 2) (h_v (.inl a)) := by
  apply s_row
  intro k0 ls st w n kk o e0
  exact ⟨_, e0, fun p e R s m args below meth c X rl H locs cells slots Q hl hk => lv_ldc X.1 X.2.1 X.2.2.2.1 (X.2.2.2.2.1 _ hw) hd hk⟩
theorem s_ldcw (a : Nat) {ix : Nat} (hw : Cond.constant own ix (nI a) ∈ Ts) (hd : decode cc pc = .ok (.ldc_w ix, 3)) : HS (rW cl fo zs rs ns Ts G l cc nL own ret ini fr lo n0 Qf) pc (pc + 3) (h_v (.inl a)) := by
  apply s_row
  intro k0 ls st w n kk o e0
  exact ⟨_, e0, fun p e R s m args below meth c X rl H locs cells slots Q hl hk => lv_ldcw X.1 X.2.1 X.2.2.2.1 (X.2.2.2.2.1 _ hw) hd hk⟩
theorem s_ldc2 (a : Nat) {ix : Nat} (hw : Cond.constantLong own ix (lN a) ∈ Ts) (hd : decode cc pc = .ok (.ldc2_w ix, 3)) : HS (rW cl fo zs rs ns Ts G l cc nL own ret ini fr lo n0 Qf) pc (pc + 3) (h_v (.inr (.inl a))) := by
  apply s_row
  intro k0 ls st w n kk o e0
  exact ⟨_, e0, fun p e R s m args below meth c X rl H locs cells slots Q hl hk => lv_ldc2 X.1 X.2.1 X.2.2.2.1 (X.2.2.2.2.1 _ hw) hd hk⟩
theorem s_lconst (a : Nat) {z : Fin 2} (hz : Int64.ofNat (z : Nat) = lN a) (hd : decode cc pc = .ok (.lconst z, 1)) : HS (rW cl fo zs rs ns Ts G l cc nL own ret ini fr lo n0 Qf) pc (pc + 1) (h_v (.inr (.inl a))) := by
  apply s_row
  intro k0 ls st w n kk o e0
  exact ⟨_, e0, fun p e R s m args below meth c X rl H locs cells slots Q hl hk => lv_lconst X.1 X.2.1 hd hz hk⟩
theorem s_null  (hd : decode cc pc = .ok (.aconst_null, 1)) : HS (rW cl fo zs rs ns Ts G l cc nL own ret ini fr lo n0 Qf) pc (pc + 1) (h_v (.inr (.inr 0))) := by
  apply s_row
  intro k0 ls st w n kk o e0
  exact ⟨_, e0, fun p e R s m args below meth c X rl H locs cells slots Q hl hk => lv_null X.1 X.2.1 hd hk⟩
theorem s_ldcS (i : Nat) {ix : Nat} {tx : String} (hw : (own, ix, tx, i) ∈ rs) (hd : decode cc pc = .ok (.ldc ix, 2)) : HS (rW cl fo zs rs ns Ts G l cc nL own ret ini fr lo n0 Qf) pc (pc + 2) (h_v (.inr (.inr (2 * i + 2)))) := by
  apply s_row
  intro k0 ls st w n kk o e0
  refine ⟨_, e0, fun p e R s m args below meth c X rl H locs cells slots Q hl hk => ?_⟩
  obtain ⟨a, h1, h2⟩ := X.2.2.2.2.2.1.2.2.2.2.1 _ hw
  rw [List.map_cons, rv_ext G (by omega) (by omega), show (2 * i + 2) / 2 - 1 = i by omega, h1] at hk
  exact va_ldcS X.1 X.2.1 X.2.2.2.1 h2 hd hk
theorem s_dup (hd : decode cc pc = .ok (.dup, 1)) : HS (rW cl fo zs rs ns Ts G l cc nL own ret ini fr lo n0 Qf) pc (pc + 1) h_dup := by
  apply s_row
  intro k0 ls st w n kk o e0
  obtain ⟨v, st', rfl, h2⟩ := rP_some e0
  obtain ⟨h3, h4⟩ := rB_no h2
  exact ⟨_, h4, fun p e R s m args below meth c X rl H locs cells slots Q hl hk => lv_dup X.1 X.2.1 hd (rv_cat1 G X.2.2.2.2.2.1.2.2.1 h3) hk⟩
theorem s_pop (hd : decode cc pc = .ok (.pop, 1)) : HS (rW cl fo zs rs ns Ts G l cc nL own ret ini fr lo n0 Qf) pc (pc + 1) h_pop := by
  apply s_row
  intro k0 ls st w n kk o e0
  obtain ⟨v, st', rfl, h2⟩ := rP_some e0
  obtain ⟨h3, h4⟩ := rB_no h2
  exact ⟨_, h4, fun p e R s m args below meth c X rl H locs cells slots Q hl hk => lv_pop X.1 X.2.1 hd (rv_cat1 G X.2.2.2.2.2.1.2.2.1 h3) hk⟩
theorem s_dupx1 (hd : decode cc pc = .ok (.dup_x1, 1)) : HS (rW cl fo zs rs ns Ts G l cc nL own ret ini fr lo n0 Qf) pc (pc + 1) h_dupx1 := by
  apply s_row
  intro k0 ls st w n kk o e0
  obtain ⟨v, st', rfl, h2⟩ := rP_some e0
  obtain ⟨v2, st2, rfl, h21⟩ := rP_some h2
  obtain ⟨h3, h4⟩ := rB_no h21
  obtain ⟨h5, h6⟩ := rB_no h4
  exact ⟨_, h6, fun p e R s m args below meth c X rl H locs cells slots Q hl hk => lv_dup_x1 X.1 X.2.1 hd (rv_cat1 G X.2.2.2.2.2.1.2.2.1 h3) (rv_cat1 G X.2.2.2.2.2.1.2.2.1 h5) hk⟩
theorem s_iadd (hd : decode cc pc = .ok (.iadd, 1)) : HS (rW cl fo zs rs ns Ts G l cc nL own ret ini fr lo n0 Qf) pc (pc + 1) (h_bin (fun _ _ => true) rAdd) := by
  apply s_row
  intro k0 ls st w n kk o e0
  obtain ⟨y, st', rfl, h2⟩ := rP_some e0
  obtain ⟨x, st2, rfl, h3⟩ := rP_some h2
  obtain ⟨b, rfl, h31⟩ := rI_some h3
  obtain ⟨a, rfl, h4⟩ := rI_some h31
  obtain ⟨h5, h6⟩ := rB_yes h4
  rw [rN_eq] at h6
  refine ⟨_, h6, fun p e R s m args below meth c X rl H locs cells slots Q hl hk => lv_iadd X.1 X.2.1 hd ?_⟩
  rw [show nI a + nI b = nI (rAdd a b) from n_add a b]
  exact hk
theorem s_isub (hd : decode cc pc = .ok (.isub, 1)) : HS (rW cl fo zs rs ns Ts G l cc nL own ret ini fr lo n0 Qf) pc (pc + 1) (h_bin (fun _ _ => true) rSub) := by
  apply s_row
  intro k0 ls st w n kk o e0
  obtain ⟨y, st', rfl, h2⟩ := rP_some e0
  obtain ⟨x, st2, rfl, h3⟩ := rP_some h2
  obtain ⟨b, rfl, h31⟩ := rI_some h3
  obtain ⟨a, rfl, h4⟩ := rI_some h31
  obtain ⟨h5, h6⟩ := rB_yes h4
  rw [rN_eq] at h6
  refine ⟨_, h6, fun p e R s m args below meth c X rl H locs cells slots Q hl hk => lv_isub X.1 X.2.1 hd ?_⟩
  rw [show nI a - nI b = nI (rSub a b) from n_sub a b]
  exact hk
theorem s_imul (hd : decode cc pc = .ok (.imul, 1)) : HS (rW cl fo zs rs ns Ts G l cc nL own ret ini fr lo n0 Qf) pc (pc + 1) (h_bin (fun _ _ => true) rMul) := by
  apply s_row
  intro k0 ls st w n kk o e0
  obtain ⟨y, st', rfl, h2⟩ := rP_some e0
  obtain ⟨x, st2, rfl, h3⟩ := rP_some h2
  obtain ⟨b, rfl, h31⟩ := rI_some h3
  obtain ⟨a, rfl, h4⟩ := rI_some h31
  obtain ⟨h5, h6⟩ := rB_yes h4
  rw [rN_eq] at h6
  refine ⟨_, h6, fun p e R s m args below meth c X rl H locs cells slots Q hl hk => lv_imul X.1 X.2.1 hd ?_⟩
  rw [show nI a * nI b = nI (rMul a b) from n_mul a b]
  exact hk
theorem s_iand (hd : decode cc pc = .ok (.iand, 1)) : HS (rW cl fo zs rs ns Ts G l cc nL own ret ini fr lo n0 Qf) pc (pc + 1) (h_bin (fun _ _ => true) Nat.land) := by
  apply s_row
  intro k0 ls st w n kk o e0
  obtain ⟨y, st', rfl, h2⟩ := rP_some e0
  obtain ⟨x, st2, rfl, h3⟩ := rP_some h2
  obtain ⟨b, rfl, h31⟩ := rI_some h3
  obtain ⟨a, rfl, h4⟩ := rI_some h31
  obtain ⟨h5, h6⟩ := rB_yes h4
  rw [rN_eq] at h6
  refine ⟨_, h6, fun p e R s m args below meth c X rl H locs cells slots Q hl hk => lv_iand X.1 X.2.1 hd ?_⟩
  rw [show nI a &&& nI b = nI (Nat.land a b) from n_land a b]
  exact hk
theorem s_ior (hd : decode cc pc = .ok (.ior, 1)) : HS (rW cl fo zs rs ns Ts G l cc nL own ret ini fr lo n0 Qf) pc (pc + 1) (h_bin (fun _ _ => true) Nat.lor) := by
  apply s_row
  intro k0 ls st w n kk o e0
  obtain ⟨y, st', rfl, h2⟩ := rP_some e0
  obtain ⟨x, st2, rfl, h3⟩ := rP_some h2
  obtain ⟨b, rfl, h31⟩ := rI_some h3
  obtain ⟨a, rfl, h4⟩ := rI_some h31
  obtain ⟨h5, h6⟩ := rB_yes h4
  rw [rN_eq] at h6
  refine ⟨_, h6, fun p e R s m args below meth c X rl H locs cells slots Q hl hk => lv_ior X.1 X.2.1 hd ?_⟩
  rw [show nI a ||| nI b = nI (Nat.lor a b) from n_lor a b]
  exact hk
theorem s_ishl (hd : decode cc pc = .ok (.ishl, 1)) : HS (rW cl fo zs rs ns Ts G l cc nL own ret ini fr lo n0 Qf) pc (pc + 1) (h_bin okSh rShl) := by
  apply s_row
  intro k0 ls st w n kk o e0
  obtain ⟨y, st', rfl, h2⟩ := rP_some e0
  obtain ⟨x, st2, rfl, h3⟩ := rP_some h2
  obtain ⟨b, rfl, h31⟩ := rI_some h3
  obtain ⟨a, rfl, h4⟩ := rI_some h31
  obtain ⟨h5, h6⟩ := rB_yes h4
  rw [rN_eq] at h6
  refine ⟨_, h6, fun p e R s m args below meth c X rl H locs cells slots Q hl hk => lv_ishl X.1 X.2.1 hd ?_⟩
  rw [show nI a <<< (nI b &&& 31) = nI (rShl a b) from n_shl (Nat.blt_eq.mp h5)]
  exact hk
theorem s_ishr (hd : decode cc pc = .ok (.ishr, 1)) : HS (rW cl fo zs rs ns Ts G l cc nL own ret ini fr lo n0 Qf) pc (pc + 1) (h_bin okShr rShr) := by
  apply s_row
  intro k0 ls st w n kk o e0
  obtain ⟨y, st', rfl, h2⟩ := rP_some e0
  obtain ⟨x, st2, rfl, h3⟩ := rP_some h2
  obtain ⟨b, rfl, h31⟩ := rI_some h3
  obtain ⟨a, rfl, h4⟩ := rI_some h31
  obtain ⟨h5, h6⟩ := rB_yes h4
  rw [rN_eq] at h6
  refine ⟨_, h6, fun p e R s m args below meth c X rl H locs cells slots Q hl hk => lv_ishr X.1 X.2.1 hd ?_⟩
  rw [show nI a >>> (nI b &&& 31) = nI (rShr a b) from n_shr (Nat.blt_eq.mp (rB_and h5).1) (Nat.blt_eq.mp (rB_and h5).2)]
  exact hk
theorem s_idiv (hd : decode cc pc = .ok (.idiv, 1)) : HS (rW cl fo zs rs ns Ts G l cc nL own ret ini fr lo n0 Qf) pc (pc + 1) (h_bin rDok Nat.div) := by
  apply s_row
  intro k0 ls st w n kk o e0
  obtain ⟨y, st', rfl, h2⟩ := rP_some e0
  obtain ⟨x, st2, rfl, h3⟩ := rP_some h2
  obtain ⟨b, rfl, h31⟩ := rI_some h3
  obtain ⟨a, rfl, h4⟩ := rI_some h31
  obtain ⟨h5, h6⟩ := rB_yes h4
  rw [rN_eq] at h6
  obtain ⟨q0, q1, q2⟩ := rDok_e h5
  refine ⟨_, h6, fun p e R s m args below meth c X rl H locs cells slots Q hl hk => lv_idiv X.1 X.2.1 hd (fun q => ?_) ?_⟩
  · have := (nI_eq (b := 0) q2 (by decide)).mp q
    omega
  · rw [show nI a / nI b = nI (Nat.div a b) from pk_div q1 q0 q2]
    exact hk
theorem s_irem (hd : decode cc pc = .ok (.irem, 1)) : HS (rW cl fo zs rs ns Ts G l cc nL own ret ini fr lo n0 Qf) pc (pc + 1) (h_bin rDok Nat.mod) := by
  apply s_row
  intro k0 ls st w n kk o e0
  obtain ⟨y, st', rfl, h2⟩ := rP_some e0
  obtain ⟨x, st2, rfl, h3⟩ := rP_some h2
  obtain ⟨b, rfl, h31⟩ := rI_some h3
  obtain ⟨a, rfl, h4⟩ := rI_some h31
  obtain ⟨h5, h6⟩ := rB_yes h4
  rw [rN_eq] at h6
  obtain ⟨q0, q1, q2⟩ := rDok_e h5
  refine ⟨_, h6, fun p e R s m args below meth c X rl H locs cells slots Q hl hk => lv_irem X.1 X.2.1 hd (fun q => ?_) ?_⟩
  · have := (nI_eq (b := 0) q2 (by decide)).mp q
    omega
  · rw [show nI a - nI a / nI b * nI b = nI (Nat.mod a b) from pk_rem q1 q0 q2]
    exact hk
theorem s_ineg (hd : decode cc pc = .ok (.ineg, 1)) : HS (rW cl fo zs rs ns Ts G l cc nL own ret ini fr lo n0 Qf) pc (pc + 1) (h_un (fun _ => true) rNeg) := by
  apply s_row
  intro k0 ls st w n kk o e0
  obtain ⟨x, st', rfl, h2⟩ := rP_some e0
  obtain ⟨a, rfl, h4⟩ := rI_some h2
  obtain ⟨h5, h6⟩ := rB_yes h4
  rw [rN_eq] at h6
  exact ⟨_, h6, fun p e R s m args below meth c X rl H locs cells slots Q hl hk => lv_ineg X.1 X.2.1 hd (by rw [n_neg]; exact hk)⟩
theorem s_i2b (hd : decode cc pc = .ok (.i2b, 1)) : HS (rW cl fo zs rs ns Ts G l cc nL own ret ini fr lo n0 Qf) pc (pc + 1) (h_un (fun a => Nat.ble a 127) (fun a => a)) := by
  apply s_row
  intro k0 ls st w n kk o e0
  obtain ⟨x, st', rfl, h2⟩ := rP_some e0
  obtain ⟨a, rfl, h4⟩ := rI_some h2
  obtain ⟨h5, h6⟩ := rB_yes h4
  rw [rN_eq] at h6
  exact ⟨_, h6, fun p e R s m args below meth c X rl H locs cells slots Q hl hk => lv_i2b X.1 X.2.1 hd (n_i2b a (by have := Nat.ble_eq.mp h5; omega)) hk⟩
theorem s_i2c (hd : decode cc pc = .ok (.i2c, 1)) : HS (rW cl fo zs rs ns Ts G l cc nL own ret ini fr lo n0 Qf) pc (pc + 1) (h_un (fun a => Nat.ble a 65535) (fun a => a)) := by
  apply s_row
  intro k0 ls st w n kk o e0
  obtain ⟨x, st', rfl, h2⟩ := rP_some e0
  obtain ⟨a, rfl, h4⟩ := rI_some h2
  obtain ⟨h5, h6⟩ := rB_yes h4
  rw [rN_eq] at h6
  exact ⟨_, h6, fun p e R s m args below meth c X rl H locs cells slots Q hl hk => lv_i2c X.1 X.2.1 hd (n_i2c (Nat.ble_eq.mp h5)) hk⟩
theorem s_i2l (hd : decode cc pc = .ok (.i2l, 1)) : HS (rW cl fo zs rs ns Ts G l cc nL own ret ini fr lo n0 Qf) pc (pc + 1) h_i2l := by
  apply s_row
  intro k0 ls st w n kk o e0
  obtain ⟨x, st', rfl, h2⟩ := rP_some e0
  obtain ⟨a, rfl, h4⟩ := rI_some h2
  obtain ⟨h5, h6⟩ := rB_no h4
  have ha : a < 2 ^ 31 := by
    rcases Nat.lt_or_ge a (2 ^ 31) with q | q
    · exact q
    · rw [Nat.ble_eq.mpr q] at h5; cases h5
  exact ⟨_, h6, fun p e R s m args below meth c X rl H locs cells slots Q hl hk => lv_i2l X.1 X.2.1 hd (nI_l ha) hk⟩
theorem s_lor (hd : decode cc pc = .ok (.lor, 1)) : HS (rW cl fo zs rs ns Ts G l cc nL own ret ini fr lo n0 Qf) pc (pc + 1) (h_lbin Nat.lor) := by
  apply s_row
  intro k0 ls st w n kk o e0
  obtain ⟨y, st', rfl, h2⟩ := rP_some e0
  obtain ⟨x, st2, rfl, h3⟩ := rP_some h2
  obtain ⟨b, rfl, h31⟩ := rJ_some h3
  obtain ⟨a, rfl, h4⟩ := rJ_some h31
  rw [rN_eq] at h4
  refine ⟨_, h4, fun p e R s m args below meth c X rl H locs cells slots Q hl hk => lv_lor X.1 X.2.1 hd ?_⟩
  rw [n_lorL]
  exact hk
theorem s_lshl (hd : decode cc pc = .ok (.lshl, 1)) : HS (rW cl fo zs rs ns Ts G l cc nL own ret ini fr lo n0 Qf) pc (pc + 1) (h_lsh rShlL) := by
  apply s_row
  intro k0 ls st w n kk o e0
  obtain ⟨y, st', rfl, h2⟩ := rP_some e0
  obtain ⟨x, st2, rfl, h3⟩ := rP_some h2
  obtain ⟨b, rfl, h31⟩ := rI_some h3
  obtain ⟨a, rfl, h4⟩ := rJ_some h31
  obtain ⟨h5, h6⟩ := rB_yes h4
  rw [rN_eq] at h6
  exact ⟨_, h6, fun p e R s m args below meth c X rl H locs cells slots Q hl hk => lv_lshl X.1 X.2.1 hd (n_shlL (Nat.blt_eq.mp h5)) hk⟩
theorem s_goto {pcs : List Nat} {b tgt : Nat} {off : Int} (hb : pcs[b]? = some tgt) (ht : (pc : Int) + off = (tgt : Int)) (hd : decode cc pc = .ok (.goto off, 3)) : BS (rW cl fo zs rs ns Ts G l cc nL own ret ini fr lo n0 Qf) pcs pc (t_go b) :=
  BS.via (BS.go hb) fun o ls st w n k hV p e R s m args below meth c X r1 r2 r3 rl H locs hl hP hL => lv_goto X.1 X.2.1 hd ht (hV p e R s m args below meth c X r1 r2 r3 rl H locs hl hP hL)
theorem s_icmp_eq {pcs : List Nat} {b1 b2 tgt : Nat} {off : Int} (hb1 : pcs[b1]? = some tgt) (hb2 : pcs[b2]? = some (pc + 3)) (ht : (pc : Int) + off = (tgt : Int)) (hd : decode cc pc = .ok (.if_icmp .eq off, 3)) : BS (rW cl fo zs rs ns Ts G l cc nL own ret ini fr lo n0 Qf) pcs pc (t_icmp rEq b1 b2) := by
  intro J hJ ls st w n k o e0
  obtain ⟨y, st', rfl, h2⟩ := rP_some e0
  obtain ⟨x, st2, rfl, h3⟩ := rP_some h2
  obtain ⟨b, rfl, h31⟩ := rI_some h3
  obtain ⟨a, rfl, h4⟩ := rI_some h31
  have h4 : rB (rEq a b) (J b1 ls st2 w n k) (J b2 ls st2 w n k) = some o := h4
  rcases rB_some h4 with ⟨h5, h6⟩ | ⟨h5, h6⟩
  · obtain ⟨q1, hV⟩ := hJ b1 _ hb1 _ _ _ _ _ _ h6
    exact ⟨q1, fun p e R s m args below meth c X r1 r2 r3 rl H locs hl hP hL => lv_icmp_eq X.1 X.2.1 hd ht (fun _ => hV p e R s m args below meth c X r1 r2 r3 rl H locs hl hP hL) (fun z => absurd ((n_eq a b).mpr h5) z)⟩
  · obtain ⟨q1, hV⟩ := hJ b2 _ hb2 _ _ _ _ _ _ h6
    exact ⟨q1, fun p e R s m args below meth c X r1 r2 r3 rl H locs hl hP hL => lv_icmp_eq X.1 X.2.1 hd ht (fun z => by rw [(n_eq a b).mp z] at h5; cases h5) (fun _ => hV p e R s m args below meth c X r1 r2 r3 rl H locs hl hP hL)⟩
theorem s_if_eq {pcs : List Nat} {b1 b2 tgt : Nat} {off : Int} (hb1 : pcs[b1]? = some tgt) (hb2 : pcs[b2]? = some (pc + 3)) (ht : (pc : Int) + off = (tgt : Int)) (hd : decode cc pc = .ok (.ifCond .eq off, 3)) : BS (rW cl fo zs rs ns Ts G l cc nL own ret ini fr lo n0 Qf) pcs pc (t_if (fun a => rEq a 0) b1 b2) := by
  intro J hJ ls st w n k o e0
  obtain ⟨x, st2, rfl, h3⟩ := rP_some e0
  obtain ⟨a, rfl, h4⟩ := rI_some h3
  have h4 : rB (rEq a 0) (J b1 ls st2 w n k) (J b2 ls st2 w n k) = some o := h4
  rcases rB_some h4 with ⟨h5, h6⟩ | ⟨h5, h6⟩
  · obtain ⟨q1, hV⟩ := hJ b1 _ hb1 _ _ _ _ _ _ h6
    exact ⟨q1, fun p e R s m args below meth c X r1 r2 r3 rl H locs hl hP hL => lv_if_eq X.1 X.2.1 hd ht (fun _ => hV p e R s m args below meth c X r1 r2 r3 rl H locs hl hP hL) (fun z => absurd ((n_eq a 0).mpr h5) z)⟩
  · obtain ⟨q1, hV⟩ := hJ b2 _ hb2 _ _ _ _ _ _ h6
    exact ⟨q1, fun p e R s m args below meth c X r1 r2 r3 rl H locs hl hP hL => lv_if_eq X.1 X.2.1 hd ht (fun z => by rw [(n_eq a 0).mp z] at h5; cases h5) (fun _ => hV p e R s m args below meth c X r1 r2 r3 rl H locs hl hP hL)⟩
theorem s_icmp_ne {pcs : List Nat} {b1 b2 tgt : Nat} {off : Int} (hb1 : pcs[b1]? = some tgt) (hb2 : pcs[b2]? = some (pc + 3)) (ht : (pc : Int) + off = (tgt : Int)) (hd : decode cc pc = .ok (.if_icmp .ne off, 3)) : BS (rW cl fo zs rs ns Ts G l cc nL own ret ini fr lo n0 Qf) pcs pc (t_icmp (fun a b => rNot (rEq a b)) b1 b2) := by
  intro J hJ ls st w n k o e0
  obtain ⟨y, st', rfl, h2⟩ := rP_some e0
  obtain ⟨x, st2, rfl, h3⟩ := rP_some h2
  obtain ⟨b, rfl, h31⟩ := rI_some h3
  obtain ⟨a, rfl, h4⟩ := rI_some h31
  have h4 : rB (rNot (rEq a b)) (J b1 ls st2 w n k) (J b2 ls st2 w n k) = some o := h4
  rcases rB_some h4 with ⟨h5, h6⟩ | ⟨h5, h6⟩
  · obtain ⟨q1, hV⟩ := hJ b1 _ hb1 _ _ _ _ _ _ h6
    exact ⟨q1, fun p e R s m args below meth c X r1 r2 r3 rl H locs hl hP hL => lv_icmp_ne X.1 X.2.1 hd ht (fun _ => hV p e R s m args below meth c X r1 r2 r3 rl H locs hl hP hL) (fun z => absurd z ((n_ne a b).mpr h5))⟩
  · obtain ⟨q1, hV⟩ := hJ b2 _ hb2 _ _ _ _ _ _ h6
    exact ⟨q1, fun p e R s m args below meth c X r1 r2 r3 rl H locs hl hP hL => lv_icmp_ne X.1 X.2.1 hd ht (fun z => by rw [(n_ne a b).mp z] at h5; cases h5) (fun _ => hV p e R s m args below meth c X r1 r2 r3 rl H locs hl hP hL)⟩
theorem s_if_ne {pcs : List Nat} {b1 b2 tgt : Nat} {off : Int} (hb1 : pcs[b1]? = some tgt) (hb2 : pcs[b2]? = some (pc + 3)) (ht : (pc : Int) + off = (tgt : Int)) (hd : decode cc pc = .ok (.ifCond .ne off, 3)) : BS (rW cl fo zs rs ns Ts G l cc nL own ret ini fr lo n0 Qf) pcs pc (t_if (fun a => rNot (rEq a 0)) b1 b2) := by
  intro J hJ ls st w n k o e0
  obtain ⟨x, st2, rfl, h3⟩ := rP_some e0
  obtain ⟨a, rfl, h4⟩ := rI_some h3
  have h4 : rB (rNot (rEq a 0)) (J b1 ls st2 w n k) (J b2 ls st2 w n k) = some o := h4
  rcases rB_some h4 with ⟨h5, h6⟩ | ⟨h5, h6⟩
  · obtain ⟨q1, hV⟩ := hJ b1 _ hb1 _ _ _ _ _ _ h6
    exact ⟨q1, fun p e R s m args below meth c X r1 r2 r3 rl H locs hl hP hL => lv_if_ne X.1 X.2.1 hd ht (fun _ => hV p e R s m args below meth c X r1 r2 r3 rl H locs hl hP hL) (fun z => absurd z ((n_ne a 0).mpr h5))⟩
  · obtain ⟨q1, hV⟩ := hJ b2 _ hb2 _ _ _ _ _ _ h6
    exact ⟨q1, fun p e R s m args below meth c X r1 r2 r3 rl H locs hl hP hL => lv_if_ne X.1 X.2.1 hd ht (fun z => by rw [(n_ne a 0).mp z] at h5; cases h5) (fun _ => hV p e R s m args below meth c X r1 r2 r3 rl H locs hl hP hL)⟩
theorem s_icmp_lt {pcs : List Nat} {b1 b2 tgt : Nat} {off : Int} (hb1 : pcs[b1]? = some tgt) (hb2 : pcs[b2]? = some (pc + 3)) (ht : (pc : Int) + off = (tgt : Int)) (hd : decode cc pc = .ok (.if_icmp .lt off, 3)) : BS (rW cl fo zs rs ns Ts G l cc nL own ret ini fr lo n0 Qf) pcs pc (t_icmp rLt b1 b2) := by
  intro J hJ ls st w n k o e0
  obtain ⟨y, st', rfl, h2⟩ := rP_some e0
  obtain ⟨x, st2, rfl, h3⟩ := rP_some h2
  obtain ⟨b, rfl, h31⟩ := rI_some h3
  obtain ⟨a, rfl, h4⟩ := rI_some h31
  have h4 : rB (rLt a b) (J b1 ls st2 w n k) (J b2 ls st2 w n k) = some o := h4
  rcases rB_some h4 with ⟨h5, h6⟩ | ⟨h5, h6⟩
  · obtain ⟨q1, hV⟩ := hJ b1 _ hb1 _ _ _ _ _ _ h6
    exact ⟨q1, fun p e R s m args below meth c X r1 r2 r3 rl H locs hl hP hL => lv_icmp_lt X.1 X.2.1 hd ht (fun _ => hV p e R s m args below meth c X r1 r2 r3 rl H locs hl hP hL) (fun z => absurd ((n_lt a b).mpr h5) z)⟩
  · obtain ⟨q1, hV⟩ := hJ b2 _ hb2 _ _ _ _ _ _ h6
    exact ⟨q1, fun p e R s m args below meth c X r1 r2 r3 rl H locs hl hP hL => lv_icmp_lt X.1 X.2.1 hd ht (fun z => by rw [(n_lt a b).mp z] at h5; cases h5) (fun _ => hV p e R s m args below meth c X r1 r2 r3 rl H locs hl hP hL)⟩
theorem s_if_lt {pcs : List Nat} {b1 b2 tgt : Nat} {off : Int} (hb1 : pcs[b1]? = some tgt) (hb2 : pcs[b2]? = some (pc + 3)) (ht : (pc : Int) + off = (tgt : Int)) (hd : decode cc pc = .ok (.ifCond .lt off, 3)) : BS (rW cl fo zs rs ns Ts G l cc nL own ret ini fr lo n0 Qf) pcs pc (t_if (fun a => rLt a 0) b1 b2) := by
  intro J hJ ls st w n k o e0
  obtain ⟨x, st2, rfl, h3⟩ := rP_some e0
  obtain ⟨a, rfl, h4⟩ := rI_some h3
  have h4 : rB (rLt a 0) (J b1 ls st2 w n k) (J b2 ls st2 w n k) = some o := h4
  rcases rB_some h4 with ⟨h5, h6⟩ | ⟨h5, h6⟩
  · obtain ⟨q1, hV⟩ := hJ b1 _ hb1 _ _ _ _ _ _ h6
    exact ⟨q1, fun p e R s m args below meth c X r1 r2 r3 rl H locs hl hP hL => lv_if_lt X.1 X.2.1 hd ht (fun _ => hV p e R s m args below meth c X r1 r2 r3 rl H locs hl hP hL) (fun z => absurd ((n_lt a 0).mpr h5) z)⟩
  · obtain ⟨q1, hV⟩ := hJ b2 _ hb2 _ _ _ _ _ _ h6
    exact ⟨q1, fun p e R s m args below meth c X r1 r2 r3 rl H locs hl hP hL => lv_if_lt X.1 X.2.1 hd ht (fun z => by rw [(n_lt a 0).mp z] at h5; cases h5) (fun _ => hV p e R s m args below meth c X r1 r2 r3 rl H locs hl hP hL)⟩
theorem s_icmp_ge {pcs : List Nat} {b1 b2 tgt : Nat} {off : Int} (hb1 : pcs[b1]? = some tgt) (hb2 : pcs[b2]? = some (pc + 3)) (ht : (pc : Int) + off = (tgt : Int)) (hd : decode cc pc = .ok (.if_icmp .ge off, 3)) : BS (rW cl fo zs rs ns Ts G l cc nL own ret ini fr lo n0 Qf) pcs pc (t_icmp (fun a b => rNot (rLt a b)) b1 b2) := by
  intro J hJ ls st w n k o e0
  obtain ⟨y, st', rfl, h2⟩ := rP_some e0
  obtain ⟨x, st2, rfl, h3⟩ := rP_some h2
  obtain ⟨b, rfl, h31⟩ := rI_some h3
  obtain ⟨a, rfl, h4⟩ := rI_some h31
  have h4 : rB (rNot (rLt a b)) (J b1 ls st2 w n k) (J b2 ls st2 w n k) = some o := h4
  rcases rB_some h4 with ⟨h5, h6⟩ | ⟨h5, h6⟩
  · obtain ⟨q1, hV⟩ := hJ b1 _ hb1 _ _ _ _ _ _ h6
    exact ⟨q1, fun p e R s m args below meth c X r1 r2 r3 rl H locs hl hP hL => lv_icmp_ge X.1 X.2.1 hd ht (fun _ => hV p e R s m args below meth c X r1 r2 r3 rl H locs hl hP hL) (fun z => absurd ((n_ge a b).mpr h5) z)⟩
  · obtain ⟨q1, hV⟩ := hJ b2 _ hb2 _ _ _ _ _ _ h6
    exact ⟨q1, fun p e R s m args below meth c X r1 r2 r3 rl H locs hl hP hL => lv_icmp_ge X.1 X.2.1 hd ht (fun z => by rw [(n_ge a b).mp z] at h5; cases h5) (fun _ => hV p e R s m args below meth c X r1 r2 r3 rl H locs hl hP hL)⟩
theorem s_if_ge {pcs : List Nat} {b1 b2 tgt : Nat} {off : Int} (hb1 : pcs[b1]? = some tgt) (hb2 : pcs[b2]? = some (pc + 3)) (ht : (pc : Int) + off = (tgt : Int)) (hd : decode cc pc = .ok (.ifCond .ge off, 3)) : BS (rW cl fo zs rs ns Ts G l cc nL own ret ini fr lo n0 Qf) pcs pc (t_if (fun a => rNot (rLt a 0)) b1 b2) := by
  intro J hJ ls st w n k o e0
  obtain ⟨x, st2, rfl, h3⟩ := rP_some e0
  obtain ⟨a, rfl, h4⟩ := rI_some h3
  have h4 : rB (rNot (rLt a 0)) (J b1 ls st2 w n k) (J b2 ls st2 w n k) = some o := h4
  rcases rB_some h4 with ⟨h5, h6⟩ | ⟨h5, h6⟩
  · obtain ⟨q1, hV⟩ := hJ b1 _ hb1 _ _ _ _ _ _ h6
    exact ⟨q1, fun p e R s m args below meth c X r1 r2 r3 rl H locs hl hP hL => lv_if_ge X.1 X.2.1 hd ht (fun _ => hV p e R s m args below meth c X r1 r2 r3 rl H locs hl hP hL) (fun z => absurd ((n_ge a 0).mpr h5) z)⟩
  · obtain ⟨q1, hV⟩ := hJ b2 _ hb2 _ _ _ _ _ _ h6
    exact ⟨q1, fun p e R s m args below meth c X r1 r2 r3 rl H locs hl hP hL => lv_if_ge X.1 X.2.1 hd ht (fun z => by rw [(n_ge a 0).mp z] at h5; cases h5) (fun _ => hV p e R s m args below meth c X r1 r2 r3 rl H locs hl hP hL)⟩
theorem s_icmp_gt {pcs : List Nat} {b1 b2 tgt : Nat} {off : Int} (hb1 : pcs[b1]? = some tgt) (hb2 : pcs[b2]? = some (pc + 3)) (ht : (pc : Int) + off = (tgt : Int)) (hd : decode cc pc = .ok (.if_icmp .gt off, 3)) : BS (rW cl fo zs rs ns Ts G l cc nL own ret ini fr lo n0 Qf) pcs pc (t_icmp (fun a b => rNot (rLe a b)) b1 b2) := by
  intro J hJ ls st w n k o e0
  obtain ⟨y, st', rfl, h2⟩ := rP_some e0
  obtain ⟨x, st2, rfl, h3⟩ := rP_some h2
  obtain ⟨b, rfl, h31⟩ := rI_some h3
  obtain ⟨a, rfl, h4⟩ := rI_some h31
  have h4 : rB (rNot (rLe a b)) (J b1 ls st2 w n k) (J b2 ls st2 w n k) = some o := h4
  rcases rB_some h4 with ⟨h5, h6⟩ | ⟨h5, h6⟩
  · obtain ⟨q1, hV⟩ := hJ b1 _ hb1 _ _ _ _ _ _ h6
    exact ⟨q1, fun p e R s m args below meth c X r1 r2 r3 rl H locs hl hP hL => lv_icmp_gt X.1 X.2.1 hd ht (fun _ => hV p e R s m args below meth c X r1 r2 r3 rl H locs hl hP hL) (fun z => absurd ((n_gt a b).mpr h5) z)⟩
  · obtain ⟨q1, hV⟩ := hJ b2 _ hb2 _ _ _ _ _ _ h6
    exact ⟨q1, fun p e R s m args below meth c X r1 r2 r3 rl H locs hl hP hL => lv_icmp_gt X.1 X.2.1 hd ht (fun z => by rw [(n_gt a b).mp z] at h5; cases h5) (fun _ => hV p e R s m args below meth c X r1 r2 r3 rl H locs hl hP hL)⟩
theorem s_if_gt {pcs : List Nat} {b1 b2 tgt : Nat} {off : Int} (hb1 : pcs[b1]? = some tgt) (hb2 : pcs[b2]? = some (pc + 3)) (ht : (pc : Int) + off = (tgt : Int)) (hd : decode cc pc = .ok (.ifCond .gt off, 3)) : BS (rW cl fo zs rs ns Ts G l cc nL own ret ini fr lo n0 Qf) pcs pc (t_if (fun a => rNot (rLe a 0)) b1 b2) := by
  intro J hJ ls st w n k o e0
  obtain ⟨x, st2, rfl, h3⟩ := rP_some e0
  obtain ⟨a, rfl, h4⟩ := rI_some h3
  have h4 : rB (rNot (rLe a 0)) (J b1 ls st2 w n k) (J b2 ls st2 w n k) = some o := h4
  rcases rB_some h4 with ⟨h5, h6⟩ | ⟨h5, h6⟩
  · obtain ⟨q1, hV⟩ := hJ b1 _ hb1 _ _ _ _ _ _ h6
    exact ⟨q1, fun p e R s m args below meth c X r1 r2 r3 rl H locs hl hP hL => lv_if_gt X.1 X.2.1 hd ht (fun _ => hV p e R s m args below meth c X r1 r2 r3 rl H locs hl hP hL) (fun z => absurd ((n_gt a 0).mpr h5) z)⟩
  · obtain ⟨q1, hV⟩ := hJ b2 _ hb2 _ _ _ _ _ _ h6
    exact ⟨q1, fun p e R s m args below meth c X r1 r2 r3 rl H locs hl hP hL => lv_if_gt X.1 X.2.1 hd ht (fun z => by rw [(n_gt a 0).mp z] at h5; cases h5) (fun _ => hV p e R s m args below meth c X r1 r2 r3 rl H locs hl hP hL)⟩
theorem s_icmp_le {pcs : List Nat} {b1 b2 tgt : Nat} {off : Int} (hb1 : pcs[b1]? = some tgt) (hb2 : pcs[b2]? = some (pc + 3)) (ht : (pc : Int) + off = (tgt : Int)) (hd : decode cc pc = .ok (.if_icmp .le off, 3)) : BS (rW cl fo zs rs ns Ts G l cc nL own ret ini fr lo n0 Qf) pcs pc (t_icmp rLe b1 b2) := by
  intro J hJ ls st w n k o e0
  obtain ⟨y, st', rfl, h2⟩ := rP_some e0
  obtain ⟨x, st2, rfl, h3⟩ := rP_some h2
  obtain ⟨b, rfl, h31⟩ := rI_some h3
  obtain ⟨a, rfl, h4⟩ := rI_some h31
  have h4 : rB (rLe a b) (J b1 ls st2 w n k) (J b2 ls st2 w n k) = some o := h4
  rcases rB_some h4 with ⟨h5, h6⟩ | ⟨h5, h6⟩
  · obtain ⟨q1, hV⟩ := hJ b1 _ hb1 _ _ _ _ _ _ h6
    exact ⟨q1, fun p e R s m args below meth c X r1 r2 r3 rl H locs hl hP hL => lv_icmp_le X.1 X.2.1 hd ht (fun _ => hV p e R s m args below meth c X r1 r2 r3 rl H locs hl hP hL) (fun z => absurd ((n_le a b).mpr h5) z)⟩
  · obtain ⟨q1, hV⟩ := hJ b2 _ hb2 _ _ _ _ _ _ h6
    exact ⟨q1, fun p e R s m args below meth c X r1 r2 r3 rl H locs hl hP hL => lv_icmp_le X.1 X.2.1 hd ht (fun z => by rw [(n_le a b).mp z] at h5; cases h5) (fun _ => hV p e R s m args below meth c X r1 r2 r3 rl H locs hl hP hL)⟩
theorem s_if_le {pcs : List Nat} {b1 b2 tgt : Nat} {off : Int} (hb1 : pcs[b1]? = some tgt) (hb2 : pcs[b2]? = some (pc + 3)) (ht : (pc : Int) + off = (tgt : Int)) (hd : decode cc pc = .ok (.ifCond .le off, 3)) : BS (rW cl fo zs rs ns Ts G l cc nL own ret ini fr lo n0 Qf) pcs pc (t_if (fun a => rLe a 0) b1 b2) := by
  intro J hJ ls st w n k o e0
  obtain ⟨x, st2, rfl, h3⟩ := rP_some e0
  obtain ⟨a, rfl, h4⟩ := rI_some h3
  have h4 : rB (rLe a 0) (J b1 ls st2 w n k) (J b2 ls st2 w n k) = some o := h4
  rcases rB_some h4 with ⟨h5, h6⟩ | ⟨h5, h6⟩
  · obtain ⟨q1, hV⟩ := hJ b1 _ hb1 _ _ _ _ _ _ h6
    exact ⟨q1, fun p e R s m args below meth c X r1 r2 r3 rl H locs hl hP hL => lv_if_le X.1 X.2.1 hd ht (fun _ => hV p e R s m args below meth c X r1 r2 r3 rl H locs hl hP hL) (fun z => absurd ((n_le a 0).mpr h5) z)⟩
  · obtain ⟨q1, hV⟩ := hJ b2 _ hb2 _ _ _ _ _ _ h6
    exact ⟨q1, fun p e R s m args below meth c X r1 r2 r3 rl H locs hl hP hL => lv_if_le X.1 X.2.1 hd ht (fun z => by rw [(n_le a 0).mp z] at h5; cases h5) (fun _ => hV p e R s m args below meth c X r1 r2 r3 rl H locs hl hP hL)⟩
theorem s_ifnull {pcs : List Nat} {b1 b2 tgt : Nat} {off : Int} (hb1 : pcs[b1]? = some tgt) (hb2 : pcs[b2]? = some (pc + 3)) (ht : (pc : Int) + off = (tgt : Int)) (hd : decode cc pc = .ok (.ifnull off, 3)) : BS (rW cl fo zs rs ns Ts G l cc nL own ret ini fr lo n0 Qf) pcs pc (t_nul fo b1 b2) := by
  intro J hJ ls st w n k o e0
  obtain ⟨x, st2, rfl, h3⟩ := rP_some e0
  obtain ⟨a, rfl, h4⟩ := rR_some h3
  rcases rB_some h4 with ⟨h5, h6⟩ | ⟨h5, h6⟩
  · obtain ⟨q1, hV⟩ := hJ b1 _ hb1 _ _ _ _ _ _ h6
    have ha : a = 0 := Nat.eq_of_beq_eq_true h5
    subst ha
    exact ⟨q1, fun p e R s m args below meth c X r1 r2 r3 rl H locs hl hP hL => lv_ifnullN X.1 X.2.1 hd ht (hV p e R s m args below meth c X r1 r2 r3 rl H locs hl hP hL)⟩
  · rcases rB_some h6 with ⟨h7, h6⟩ | ⟨h7, h6⟩
    · obtain ⟨q1, hV⟩ := hJ b2 _ hb2 _ _ _ _ _ _ h6
      refine ⟨q1, fun p e R s m args below meth c X r1 r2 r3 rl H locs hl hP hL => ?_⟩
      rw [List.map_cons, rv_own G (Nat.eq_of_beq_eq_true h7)]
      exact lv_ifnull X.1 X.2.1 hd (hV p e R s m args below meth c X r1 r2 r3 rl H locs hl hP hL)
    · rw [rN_eq] at h6
      obtain ⟨xx, h8, h9⟩ := rG_some _ _ h6
      obtain ⟨q1, hV⟩ := hJ b2 _ hb2 _ _ _ _ _ _ h9
      refine ⟨q1, fun p e R s m args below meth c X r1 r2 r3 rl H locs hl hP hL => ?_⟩
      have ha : ¬ a % 2 = 1 := fun z => by
        have h7' : Nat.beq (a % 2) 1 = false := h7
        rw [z] at h7'; cases h7'
      have h0 : ¬ a = 0 := fun z => by subst z; cases h5
      obtain ⟨bb, hbb⟩ : ∃ bb, G.2.2.2.1 (a / 2 - 1) = .ref bb := by
        have hf := X.2.2.2.2.2.1.2.2.2.2.2 _ _ h8
        rcases xx with ⟨ci, fs⟩ | ⟨t, N, d, mm⟩
        · obtain ⟨bb, _, _, hb, _⟩ := hf
          exact ⟨bb, hb⟩
        · obtain ⟨bb, hb, _⟩ := hf
          exact ⟨bb, hb⟩
      rw [List.map_cons, rv_ext G ha h0, hbb]
      exact lv_ifnull X.1 X.2.1 hd (hV p e R s m args below meth c X r1 r2 r3 rl H locs hl hP hL)
theorem s_ifnonnull {pcs : List Nat} {b1 b2 tgt : Nat} {off : Int} (hb1 : pcs[b1]? = some (pc + 3)) (hb2 : pcs[b2]? = some tgt) (ht : (pc : Int) + off = (tgt : Int)) (hd : decode cc pc = .ok (.ifnonnull off, 3)) : BS (rW cl fo zs rs ns Ts G l cc nL own ret ini fr lo n0 Qf) pcs pc (t_nul fo b1 b2) := by
  intro J hJ ls st w n k o e0
  obtain ⟨x, st2, rfl, h3⟩ := rP_some e0
  obtain ⟨a, rfl, h4⟩ := rR_some h3
  rcases rB_some h4 with ⟨h5, h6⟩ | ⟨h5, h6⟩
  · obtain ⟨q1, hV⟩ := hJ b1 _ hb1 _ _ _ _ _ _ h6
    have ha : a = 0 := Nat.eq_of_beq_eq_true h5
    subst ha
    exact ⟨q1, fun p e R s m args below meth c X r1 r2 r3 rl H locs hl hP hL => lv_ifnonnullN X.1 X.2.1 hd (hV p e R s m args below meth c X r1 r2 r3 rl H locs hl hP hL)⟩
  · rcases rB_some h6 with ⟨h7, h6⟩ | ⟨h7, h6⟩
    · obtain ⟨q1, hV⟩ := hJ b2 _ hb2 _ _ _ _ _ _ h6
      refine ⟨q1, fun p e R s m args below meth c X r1 r2 r3 rl H locs hl hP hL => ?_⟩
      rw [List.map_cons, rv_own G (Nat.eq_of_beq_eq_true h7)]
      exact lv_ifnonnull X.1 X.2.1 hd ht (hV p e R s m args below meth c X r1 r2 r3 rl H locs hl hP hL)
    · rw [rN_eq] at h6
      obtain ⟨xx, h8, h9⟩ := rG_some _ _ h6
      obtain ⟨q1, hV⟩ := hJ b2 _ hb2 _ _ _ _ _ _ h9
      refine ⟨q1, fun p e R s m args below meth c X r1 r2 r3 rl H locs hl hP hL => ?_⟩
      have ha : ¬ a % 2 = 1 := fun z => by
        have h7' : Nat.beq (a % 2) 1 = false := h7
        rw [z] at h7'; cases h7'
      have h0 : ¬ a = 0 := fun z => by subst z; cases h5
      obtain ⟨bb, hbb⟩ : ∃ bb, G.2.2.2.1 (a / 2 - 1) = .ref bb := by
        have hf := X.2.2.2.2.2.1.2.2.2.2.2 _ _ h8
        rcases xx with ⟨ci, fs⟩ | ⟨t, N, d, mm⟩
        · obtain ⟨bb, _, _, hb, _⟩ := hf
          exact ⟨bb, hb⟩
        · obtain ⟨bb, hb, _⟩ := hf
          exact ⟨bb, hb⟩
      rw [List.map_cons, rv_ext G ha h0, hbb]
      exact lv_ifnonnull X.1 X.2.1 hd ht (hV p e R s m args below meth c X r1 r2 r3 rl H locs hl hP hL)
end RR
