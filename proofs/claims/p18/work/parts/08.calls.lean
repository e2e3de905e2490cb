/-! METHODS AND CALLS -/
section RM
variable {cl : List vw_C} {fo : List rCC} {zs : List (String × String × String × rCV)} {rs : List (String × Nat × String × Nat)} {ns : List Cond} {Ts : List Cond} {G : rGm} {l : Launch}
/-- the method does what F computes -/
def rMet (cl : List vw_C) (fo : List rCC) (zs : List (String × String × String × rCV)) (rs : List (String × Nat × String × Nat)) (ns : List Cond) (Ts : List Cond) (l : Launch) (y : MethodName) (bytes : ByteArray) (maxL : Nat) (ret : Option FieldType) (fr lo : Nat) (F : rEv) : Prop :=
  ∀ (G : rGm) (as : List rCV) (w : rWd) (n : Nat) (o : rOut), F as w n = some o → n ≤ o.2.2.1 ∧
    Met l y (.code y bytes maxL ret :: Ts) { frames := fr, cells := o.2.2.1 - n, slots := o.2.2.2, locals := lo } (va_Pc (as.map (rv G)) (fun U => rPic cl G w n U.heap ∧ rKK cl fo zs rs ns G U)) (rQ cl fo zs rs ns G o) (o.2.2.1 - n) o.2.2.2 (fun q => G.2.2.1 ≤ q)
theorem rKK.same {u U : State} (hv : U.vm = u.vm) (h : rKK cl fo zs rs ns G u) : rKK cl fo zs rs ns G U := h.warm (by rw [hv]; exact State.WarmedH.refl u)
theorem rBlind (as : List Value) (w : rWd) (n : Nat) : FrameBlind (va_Pc as (fun U => rPic cl G w n U.heap ∧ rKK cl fo zs rs ns G U)) := fun a U g mk q => ⟨q.1, q.2.1, rKK.same (u := U) rfl q.2.2⟩
theorem rIni_go (hx : ∀ i : Nat, G.2.2.2.1 i = .null ∨ ∃ a, G.2.2.2.1 i = .ref a) {nL : Nat} {o : rOut} : ∀ (as : List rCV) (pos : Nat) (k : rLs → Option rOut), (List.rec (motive := fun _ => Nat → (rLs → Option rOut) → Option rOut) (fun pos k => rB (Nat.ble pos nL) (k []) none) (fun v _ ih pos k => rB (rLong v) (ih (Nat.succ (Nat.succ pos)) (fun l => k ((pos, v) :: l))) (ih (Nat.succ pos) (fun l => k ((pos, v) :: l)))) as pos k) = some o → ∃ ls, k ls = some o ∧ ls.map (rLv G) = lv_args pos (as.map (rv G)) ∧ pos + (lg_sl (as.map (rv G))).length ≤ nL := by
  intro as
  induction as with
  | nil =>
    intro pos k h
    obtain ⟨h1, h2⟩ := rB_yes (b := Nat.ble pos nL) (x := k []) h
    exact ⟨[], h2, rfl, Nat.ble_eq.mp h1⟩
  | cons v as ih =>
    intro pos k h
    rcases rB_some (b := rLong v) h with ⟨h1, h2⟩ | ⟨h1, h2⟩
    · obtain ⟨ls, g1, g2, g3⟩ := ih _ _ h2
      refine ⟨_, g1, ?_, ?_⟩
      · rw [List.map_cons, g2, List.map_cons]
        show _ = (pos, rv G v) :: lv_args (if (rv G v).category = 2 then pos + 2 else pos + 1) _
        rw [if_pos (rv_cat2 G h1)]
        rfl
      · rw [List.map_cons]
        show pos + (lg_sl (rv G v :: as.map (rv G))).length ≤ nL
        unfold lg_sl at g3 ⊢
        rw [List.flatMap_cons, if_pos (rv_cat2 G h1), List.length_append]
        have : pos.succ.succ = pos + 2 := rfl
        simp only [List.length_cons, List.length_nil] at g3 ⊢
        omega
    · obtain ⟨ls, g1, g2, g3⟩ := ih _ _ h2
      have hc : ¬ (rv G v).category = 2 := by rw [rv_cat1 G hx h1]; decide
      refine ⟨_, g1, ?_, ?_⟩
      · rw [List.map_cons, g2, List.map_cons]
        show _ = (pos, rv G v) :: lv_args (if (rv G v).category = 2 then pos + 2 else pos + 1) _
        rw [if_neg hc]
        rfl
      · rw [List.map_cons]
        show pos + (lg_sl (rv G v :: as.map (rv G))).length ≤ nL
        unfold lg_sl at g3 ⊢
        rw [List.flatMap_cons, if_neg hc, List.length_append]
        simp only [List.length_cons, List.length_nil] at g3 ⊢
        omega
theorem rIni_k {nL : Nat} {o : rOut} : ∀ (as : List rCV) (pos : Nat) (k : rLs → Option rOut), (List.rec (motive := fun _ => Nat → (rLs → Option rOut) → Option rOut) (fun pos k => rB (Nat.ble pos nL) (k []) none) (fun v _ ih pos k => rB (rLong v) (ih (Nat.succ (Nat.succ pos)) (fun l => k ((pos, v) :: l))) (ih (Nat.succ pos) (fun l => k ((pos, v) :: l)))) as pos k) = some o → ∃ ls, k ls = some o := by
  intro as
  induction as with
  | nil =>
    intro pos k h
    obtain ⟨h1, h2⟩ := rB_yes (b := Nat.ble pos nL) (x := k []) h
    exact ⟨[], h2⟩
  | cons v as ih =>
    intro pos k h
    rcases rB_some (b := rLong v) h with ⟨h1, h2⟩ | ⟨h1, h2⟩
    · obtain ⟨ls, g1⟩ := ih _ _ h2
      exact ⟨_, g1⟩
    · obtain ⟨ls, g1⟩ := ih _ _ h2
      exact ⟨_, g1⟩
/-- a method whose blocks are proved -/
theorem met_of {y : MethodName} {bytes : ByteArray} {maxL : Nat} {ret : Option FieldType} {fr lo fuel : Nat} {bs : List rBl} {pcs : List Nat} (hy : plainName y.cls = true) (hps : pcs[0]? = some 0)
    (hbody : ∀ (G : rGm) (n0 : Nat), AllB (rW cl fo zs rs ns Ts G l bytes maxL y.cls ret (decide (y.name = "<init>")) fr lo n0 (rMQ cl fo zs rs ns G n0)) pcs pcs bs) : rMet cl fo zs rs ns Ts l y bytes maxL ret fr lo (fun as w n => rIni maxL as (fun ls => rRun bs fuel 0 ls [] w n 0)) := by
  intro G as w n o e0
  obtain ⟨ls0, hls0⟩ := rIni_k as 0 _ e0
  obtain ⟨⟨a1, a2⟩, -⟩ := run_ok (hbody G n) fuel 0 0 hps ls0 [] w n 0 o hls0
  refine ⟨a1, ?_⟩
  refine Met.ofW (cc := bytes) (maxL := maxL) (ret := ret) hy rfl ?_
  intro p e s m args below meth c s₁ B hml hv
  obtain ⟨rfl, hP, hKK⟩ := hv
  have hts := atoms_spec (ws := .code y bytes maxL ret :: Ts) B.pre
  have ht : ∀ x ∈ c.exceptionTable.toList, False := by
    obtain ⟨meth9, c9, h1, h2, -, -, -, -, h7, -⟩ := Cond.code_spec B.named (hts _ List.mem_cons_self)
    cases Option.some.inj (h1.symm.trans B.method)
    cases Option.some.inj (h2.symm.trans (Stand.of_body B).code)
    intro x hx
    rw [Array.isEmpty_iff.mp h7] at hx
    cases hx
  obtain ⟨ls, h1, h2, h3⟩ := rIni_go (G := G) hKK.2.2.1 as 0 _ e0
  obtain ⟨-, hV⟩ := run_ok (hbody G n) fuel 0 0 hps ls [] w n 0 o h1
  rw [Nat.zero_add] at h3
  have hl := lv_entry (as.map (rv G)) (n := maxL) h3
  rw [lg_entry_eq]
  rw [← h2] at hl
  have hW := hV p e { frames := fr, cells := o.2.2.1 - n, slots := o.2.2.2, locals := lo } s m (as.map (rv G)).toArray below meth c ⟨B.exec, B.bytes, hml, findClass_of_methodNamed B.named, fun q hq => hts q (List.mem_cons_of_mem _ hq), hKK, B.notSynchronized, ⟨by rw [hP.1]; exact Nat.le_add_right _ _, hP.2.1, fun _ => ht⟩, B.returns, fun hi => by rw [(name_of_methodNamed B.named B.method).1]; exact of_decide_eq_true hi, rfl, rfl⟩ (Nat.le_refl _) (Nat.le_refl _) (Nat.le_refl _) _ s.heap [] hl hP (fun x hx => by cases hx)
  rw [Nat.sub_self] at hW
  exact hW
theorem rArg_go {o : rOut} {k : List rCV → List rCV → Option rOut} : ∀ (m : Nat) (as st : List rCV), (Nat.rec (motive := fun _ => List rCV → List rCV → Option rOut) (fun as st => k as st) (fun _ ih as st => rP st (fun v st => ih (v :: as) st)) m as st) = some o → ∃ bs st', st = bs.reverse ++ st' ∧ bs.length = m ∧ k (bs ++ as) st' = some o := by
  intro m
  induction m with
  | zero => intro as st h; exact ⟨[], st, rfl, rfl, h⟩
  | succ m ih =>
    intro as st h
    obtain ⟨v, st', rfl, h2⟩ := rP_some (st := st) h
    obtain ⟨bs, st2, h3, h4, h5⟩ := ih (v :: as) st' h2
    refine ⟨bs ++ [v], st2, ?_, ?_, ?_⟩
    · rw [h3, List.reverse_append]; rfl
    · rw [List.length_append, h4]; rfl
    · rw [List.append_assoc]; exact h5
theorem rArg_some {m : Nat} {st : List rCV} {o : rOut} {k : List rCV → List rCV → Option rOut} (h : rArg m st k = some o) : ∃ as st', st = as.reverse ++ st' ∧ as.length = m ∧ k as st' = some o := by
  obtain ⟨bs, st', h1, h2, h3⟩ := rArg_go m [] st h
  rw [List.append_nil] at h3
  exact ⟨bs, st', h1, h2, h3⟩
theorem rRes_some {β : Type} {r : Option rOut} {k : Option rCV → rWd → Nat → Nat → Option β} {o : β} (h : rRes r k = some o) : ∃ q : rOut, r = some q ∧ k q.1 q.2.1 q.2.2.1 q.2.2.2 = some o := by
  cases r with
  | none => cases h
  | some q => obtain ⟨v, w, n, c⟩ := q; exact ⟨_, rfl, h⟩
/-- what a call computes -/
theorem call_some {nargs : Nat} {ok : List rCV → rWd → Nat → Option Unit} {F : rEv} {k : rK} {ls : rLs} {st : List rCV} {w : rWd} {n c : Nat} {o : rOut} (h : h_call nargs ok F k ls st w n c = some o) : ∃ as st' q, st = as.reverse ++ st' ∧ as.length = nargs ∧ rSum st' ≤ 8 ∧ (ok as w n = some ()) ∧ F as w n = some q ∧ k ls (q.1.toList ++ st') q.2.1 q.2.2.1 (c + q.2.2.2) = some o := by
  obtain ⟨as, st', h1, h2, h3⟩ := rArg_some h
  obtain ⟨h4, h5⟩ := rB_yes h3
  cases e : ok as w n with
  | none => rw [e] at h5; cases h5
  | some u =>
    rw [e] at h5
    obtain ⟨q, h6, h7⟩ := rRes_some h5
    rw [rN_eq] at h7
    refine ⟨as, st', q, h1, h2, Nat.ble_eq.mp h4, e, h6, ?_⟩
    cases e2 : q.1 with
    | none => rw [e2] at h7; exact h7
    | some v => rw [e2] at h7; exact h7
theorem map_opt (f : rCV → Value) (v : Option rCV) (st : List rCV) : (v.map f).toList ++ st.map f = (v.toList ++ st).map f := by
  cases v <;> rfl
variable {cc : ByteArray} {nL n0 : Nat} {own : String} {pc : Nat} {ret : Option FieldType} {ini : Bool} {fr lo : Nat} {Qf : rQf}
/-- a call, from what the kit's rows of calls give -/
theorem s_call {nargs : Nat} {ok : List rCV → rWd → Nat → Option Unit} {F : rEv} {y : MethodName} {bytes : ByteArray} {maxL : Nat} {rt : Option FieldType} {fr' lo' : Nat} (hM : rMet cl fo zs rs ns Ts l y bytes maxL rt fr' lo' F)
    (hrun : ∀ (as st' : List rCV) (w : rWd) (n kk : Nat) (q : rOut), as.length = nargs → rSum st' ≤ 8 → ok as w n = some () → F as w n = some q → ∀ (p : Program) (e : Env) (R : Room) (s : State) (m : MethodId) (args : Array Value) (below : List Frame) (meth : Method) (c : Code), rCx cl fo zs rs ns Ts G p R s m args meth c cc nL own ret ini fr lo → ∀ (rl : Array Slot) (H : Heap) (locs : List Loc) (cells slots : Nat), rl.size = nL → rPic cl G w n H → cells + (q.2.2.1 - n) ≤ R.cells → slots + q.2.2.2 ≤ R.slots →
      Met l y (.code y bytes maxL rt :: Ts) { frames := fr', cells := q.2.2.1 - n, slots := q.2.2.2, locals := lo' } (va_Pc (as.map (rv G)) (fun U => rPic cl G w n U.heap ∧ rKK cl fo zs rs ns G U)) (rQ cl fo zs rs ns G q) (q.2.2.1 - n) q.2.2.2 (fun a => G.2.2.1 ≤ a) →
      va_Run p l e R s m args below meth c H locs cells slots (q.2.2.1 - n) q.2.2.2 (F0 m pc rl ((as.reverse ++ st').map (rv G))) (st'.map (rv G)) (rQ cl fo zs rs ns G q (as.map (rv G)).toArray) (fun a => G.2.2.1 ≤ a)) :
    HS (rW cl fo zs rs ns Ts G l cc nL own ret ini fr lo n0 Qf) pc (pc + 3) (h_call nargs ok F) := by
  intro k ls st w n kk o e0
  obtain ⟨as, st', q, rfl, h2, h3, h4, h5, h6⟩ := call_some e0
  obtain ⟨b1, hMet⟩ := hM G as w n q h5
  refine ⟨_, _, _, _, _, h6, b1, Nat.le_add_right _ _, fun ho1 ho2 hV p e R s m args below meth c X r1 r2 r3 rl H locs hl hP hL => ?_⟩
  have hr := hrun as st' w n kk q h2 h3 h4 h5 p e R s m args below meth c X rl H locs (n - n0) kk hl.1 hP (by omega) (by omega) hMet
  intro T hT Xs
  obtain ⟨v, st₀, t, T', L, k0, X', hL', e1, e2, ⟨g1, g2, g3⟩, st⟩ := hr T hT Xs
  cases g1
  have hW := hV p e R s m args below meth c X r1 r2 (by omega) rl T'.heap (locs ++ L) hl (by rw [e1]; exact g2) (fun x hx => by
    rcases List.mem_append.mp hx with z | z
    · exact hL x z
    · exact hL' x z)
  rw [show q.2.2.1 - n0 = n - n0 + (q.2.2.1 - n) by omega] at hW
  obtain ⟨t2, a1, b3⟩ := hW T' rfl X'
  rw [map_opt] at st
  exact ⟨t2, st t2 a1, b3⟩
theorem good_in {ws : List Cond} (hg : ∀ w ∈ Ts, goodWord w = true) (h : ∀ w ∈ ws, w ∈ Ts) : GoodIn Ts ws := fun w hw => ⟨h w hw, good_of_word (hg w (h w hw))⟩
/-- the receiver's cell -/
theorem recv_some {ci : Nat} {as : List rCV} {w : rWd} {n : Nat} (h : rRecv fo ci as w n = some ()) {s : State} {H : Heap} (hK : rKK cl fo zs rs ns G s) (hP : rPic cl G w n H) {C : String} {T : u_T} {N : Nat} (hc : cl[ci]? = some (C, T, N)) : ∃ (v : rCV) (as' : List rCV) (b : Nat), as = v :: as' ∧ rv G v = .ref b ∧ ∃ cellB : Cell, H[b]? = some cellB ∧ cellB.vm.isStatics = false ∧ s.vm.findClass C = some cellB.cls := by
  obtain ⟨v, as', rfl, h1⟩ := rP_some h
  obtain ⟨r, rfl, h2⟩ := rR_some h1
  rcases rOF_some h2 with ⟨a, x, f, h3⟩ | ⟨a, b, x, f, h3⟩
  · obtain ⟨ci', fs, rfl, h4⟩ := rCO_some h3
    obtain ⟨h5, -⟩ := rB_yes h4
    have e1 : ci' = ci := Nat.eq_of_beq_eq_true h5
    subst e1
    obtain ⟨r0, hr0, cell, d1, d2, d3, d4⟩ := pic_obj hP f hc
    exact ⟨_, _, _, rfl, rv_own G a, cell, d1, by rw [d3]; rfl, by rw [d2]; exact (hK.1.1 ci' _ hc).2.1⟩
  · obtain ⟨ci', fs, rfl, h4⟩ := rCO_some h3
    obtain ⟨h5, -⟩ := rB_yes h4
    have e1 : ci' = ci := Nat.eq_of_beq_eq_true h5
    subst e1
    obtain ⟨q, cell, r0, g1, g2, g3, g4, g5, g6, g7⟩ := hK.2.2.2.2.2 _ _ f
    exact ⟨_, _, q, rfl, by rw [rv_ext G a b, g1], cell, by rw [hP.2.1 q g2]; exact g3, g6.1, by rw [g5]; exact (hK.1.1 ci' _ hc).2.1⟩
theorem s_callV {F : rEv} {y : MethodName} {bytes : ByteArray} {maxL : Nat} {rt : Option FieldType} {fr' lo' ix : Nat} (na ci : Nat) {C : String} {T : u_T} {N : Nat} (hc : cl[ci]? = some (C, T, N)) (hM : rMet cl fo zs rs ns Ts l y bytes maxL rt fr' lo' F) (hg : ∀ w ∈ Ts, goodWord w = true)
    (w1 : Cond.methodLink own ix y ∈ Ts) (w2 : Cond.instanceMethod y ∈ Ts) (w3 : Cond.selects C y y ∈ Ts) (w4 : Cond.initialized C ∈ Ts) (w5 : Cond.code y bytes maxL rt ∈ Ts) (hd0 : y.cls = C ∧ y.cls ≠ "java/lang/invoke/MethodHandle" ∧ y.cls ≠ "java/lang/invoke/VarHandle" ∧ (parseMethodDescriptor y.desc).map (fun d => d.parameters.length) = some na) (hf : fr' + 1 ≤ fr) (hlo : 8 + (maxL + 11) + lo' ≤ lo)
    (hd : decode cc pc = .ok (.invokevirtual ix, 3)) : HS (rW cl fo zs rs ns Ts G l cc nL own ret ini fr lo n0 Qf) pc (pc + 3) (h_call (na + 1) (rRecv fo ci) F) := by
  apply s_call hM
  intro as st' w n kk q h1 h2 h3 h4 p e R s m args below meth c X rl H locs cells slots hsz hP q1 q2 hMet
  obtain ⟨v, as', b, rfl, hb, cellB, g1, g2, g3⟩ := recv_some h3 X.2.2.2.2.2.1 hP hc
  have hG : GoodIn Ts (wsV own ix C y (.code y bytes maxL rt :: Ts)) := good_in hg (fun z hz => by
    unfold wsV at hz
    simp only [List.mem_append, List.mem_cons, List.not_mem_nil, or_false] at hz
    rcases hz with (rfl | rfl | rfl | rfl) | rfl | hz
    · exact w1
    · exact w2
    · exact w3
    · exact w4
    · exact w5
    · exact hz)
  have hS : CallFix p m c cc nL s args Ts own := ⟨X.1, X.2.1, X.2.2.1, X.2.2.2.1, X.2.2.2.2.1⟩
  have hR1 := X.2.2.2.2.2.2.2.2.2.2.1
  have hR2 := X.2.2.2.2.2.2.2.2.2.2.2
  have e1 : (as'.map (rv G)).length = na := by rw [List.length_map]; simpa using h1
  have e2 : ((v :: as').reverse ++ st').map (rv G) = (as'.map (rv G)).reverse ++ .ref b :: st'.map (rv G) := by simp [hb]
  have e3 : (v :: as').map (rv G) = .ref b :: as'.map (rv G) := by simp [hb]
  rw [e3] at hMet ⊢
  rw [e2]
  exact va_runV (As := as'.map (rv G)) (rest := st'.map (rv G)) hS hMet (cwV na X.2.2.2.2.1 hG rfl rfl rfl hd0 ⟨by rw [hR1]; exact hf, by rw [hR2]; exact hlo⟩) ⟨rBlind _ _ _, ⟨cellB, g1, g2, g3⟩, fun U hU hW => ⟨rfl, by rw [hU]; exact hP, X.2.2.2.2.2.1.warm hW⟩⟩ rfl e1 hsz rfl (lv_room (by rw [rSum_eq G X.2.2.2.2.2.1.2.2.1]; exact h2)) hd ⟨q1, q2⟩
theorem s_callS {F : rEv} {y : MethodName} {bytes : ByteArray} {maxL : Nat} {rt : Option FieldType} {fr' lo' ix : Nat} (na : Nat) (hM : rMet cl fo zs rs ns Ts l y bytes maxL rt fr' lo' F) (hg : ∀ w ∈ Ts, goodWord w = true)
    (w1 : Cond.methodLink own ix y ∈ Ts) (w2 : Cond.static y ∈ Ts) (w4 : Cond.initialized y.cls ∈ Ts) (w5 : Cond.code y bytes maxL rt ∈ Ts) (hd0 : y.cls ≠ "java/lang/invoke/MethodHandle" ∧ y.cls ≠ "java/lang/invoke/VarHandle" ∧ (parseMethodDescriptor y.desc).map (fun d => d.parameters.length) = some na) (hf : fr' + 1 ≤ fr) (hlo : 8 + (maxL + 11) + lo' ≤ lo)
    (hd : decode cc pc = .ok (.invokestatic ix, 3)) : HS (rW cl fo zs rs ns Ts G l cc nL own ret ini fr lo n0 Qf) pc (pc + 3) (h_call na rAny F) := by
  apply s_call hM
  intro as st' w n kk q h1 h2 h3 h4 p e R s m args below meth c X rl H locs cells slots hsz hP q1 q2 hMet
  have hG : GoodIn Ts (.code y bytes maxL rt :: Ts) := good_in hg (fun z hz => by
    rcases List.mem_cons.mp hz with rfl | hz
    · exact w5
    · exact hz)
  have hS : CallFix p m c cc nL s args Ts own := ⟨X.1, X.2.1, X.2.2.1, X.2.2.2.1, X.2.2.2.2.1⟩
  have hR1 := X.2.2.2.2.2.2.2.2.2.2.1
  have hR2 := X.2.2.2.2.2.2.2.2.2.2.2
  have e2 : (as.reverse ++ st').map (rv G) = (as.map (rv G)).reverse ++ st'.map (rv G) := by simp
  rw [e2]
  exact va_runS (As := as.map (rv G)) (rest := st'.map (rv G)) hS hMet ⟨callB_of na X.2.2.2.2.1 hG rfl rfl rfl (X.2.2.2.2.1 _ w4) (X.2.2.2.2.1 _ w1) hd0 ⟨by rw [hR1]; exact hf, by rw [hR2]; exact hlo⟩, X.2.2.2.2.1 _ w2⟩ ⟨rBlind _ _ _, fun U hU hW => ⟨rfl, by rw [hU]; exact hP, X.2.2.2.2.2.1.warm hW⟩⟩ rfl (by rw [List.length_map]; exact h1) hsz rfl (lv_room (by rw [rSum_eq G X.2.2.2.2.2.1.2.2.1]; exact h2)) hd ⟨q1, q2⟩
theorem s_callI {F : rEv} {y : MethodName} {bytes : ByteArray} {maxL : Nat} {fr' lo' ix : Nat} (na ci : Nat) {C : String} {T : u_T} {N : Nat} (hc : cl[ci]? = some (C, T, N)) (hM : rMet cl fo zs rs ns Ts l y bytes maxL none fr' lo' F) (hg : ∀ w ∈ Ts, goodWord w = true)
    (w1 : Cond.methodLink own ix y ∈ Ts) (w2 : Cond.instanceMethod y ∈ Ts) (w4 : Cond.initialized y.cls ∈ Ts) (w5 : Cond.code y bytes maxL none ∈ Ts) (hy1 : y.name = "<init>") (hd0 : y.cls ≠ "java/lang/invoke/MethodHandle" ∧ y.cls ≠ "java/lang/invoke/VarHandle" ∧ (parseMethodDescriptor y.desc).map (fun d => d.parameters.length) = some na) (hf : fr' + 1 ≤ fr) (hlo : 8 + (maxL + 11) + lo' ≤ lo)
    (hd : decode cc pc = .ok (.invokespecial ix, 3)) : HS (rW cl fo zs rs ns Ts G l cc nL own ret ini fr lo n0 Qf) pc (pc + 3) (h_call (na + 1) (rRecv fo ci) F) := by
  apply s_call hM
  intro as st' w n kk q h1 h2 h3 h4 p e R s m args below meth c X rl H locs cells slots hsz hP q1 q2 hMet
  obtain ⟨v, as', b, rfl, hb, cellB, g1, g2, g3⟩ := recv_some h3 X.2.2.2.2.2.1 hP hc
  have hG : GoodIn Ts (.code y bytes maxL none :: Ts) := good_in hg (fun z hz => by
    rcases List.mem_cons.mp hz with rfl | hz
    · exact w5
    · exact hz)
  have hS : CallFix p m c cc nL s args Ts own := ⟨X.1, X.2.1, X.2.2.1, X.2.2.2.1, X.2.2.2.2.1⟩
  have hR1 := X.2.2.2.2.2.2.2.2.2.2.1
  have hR2 := X.2.2.2.2.2.2.2.2.2.2.2
  have e1 : (as'.map (rv G)).length = na := by rw [List.length_map]; simpa using h1
  have e2 : ((v :: as').reverse ++ st').map (rv G) = (as'.map (rv G)).reverse ++ .ref b :: st'.map (rv G) := by simp [hb]
  have e3 : (v :: as').map (rv G) = .ref b :: as'.map (rv G) := by simp [hb]
  rw [e3] at hMet ⊢
  rw [e2]
  exact va_runI (As := as'.map (rv G)) (rest := st'.map (rv G)) hS hMet (cwI na X.2.2.2.2.1 hG rfl rfl rfl (X.2.2.2.2.1 _ w4) (X.2.2.2.2.1 _ w1) (X.2.2.2.2.1 _ w2) hy1 hd0 ⟨by rw [hR1]; exact hf, by rw [hR2]; exact hlo⟩) ⟨rBlind _ _ _, fun U hU hW => ⟨rfl, by rw [hU]; exact hP, X.2.2.2.2.2.1.warm hW⟩⟩ rfl e1 hsz rfl (lv_room (by rw [rSum_eq G X.2.2.2.2.2.1.2.2.1]; exact h2)) hd ⟨q1, q2⟩
theorem s_callU {F : rEv} {x y : MethodName} {bytes : ByteArray} {maxL : Nat} {rt : Option FieldType} {fr' lo' ix : Nat} (na ci : Nat) {C owner : String} {T : u_T} {N : Nat} (hc : cl[ci]? = some (C, T, N)) (hM : rMet cl fo zs rs ns Ts l y bytes maxL rt fr' lo' F) (hg : ∀ w ∈ Ts, goodWord w = true)
    (w1 : Cond.methodLink own ix x ∈ Ts) (w2 : Cond.sameMethod x.cls owner x.name x.desc ∈ Ts) (w3 : Cond.selects C x y ∈ Ts) (w4 : Cond.instanceMethod y ∈ Ts) (w6 : Cond.initialized y.cls ∈ Ts) (w5 : Cond.code y bytes maxL rt ∈ Ts) (hyx : y = ⟨owner, x.name, x.desc⟩) (hd0 : owner ≠ "java/lang/invoke/MethodHandle" ∧ owner ≠ "java/lang/invoke/VarHandle" ∧ (parseMethodDescriptor x.desc).map (fun d => d.parameters.length) = some na) (hf : fr' + 1 ≤ fr) (hlo : 8 + (maxL + 11) + lo' ≤ lo)
    (hd : decode cc pc = .ok (.invokevirtual ix, 3)) : HS (rW cl fo zs rs ns Ts G l cc nL own ret ini fr lo n0 Qf) pc (pc + 3) (h_call (na + 1) (rRecv fo ci) F) := by
  apply s_call hM
  intro as st' w n kk q h1 h2 h3 h4 p e R s m args below meth c X rl H locs cells slots hsz hP q1 q2 hMet
  obtain ⟨v, as', b, rfl, hb, cellB, g1, g2, g3⟩ := recv_some h3 X.2.2.2.2.2.1 hP hc
  have hG : GoodIn Ts (va_wsU own ix C owner x y (.code y bytes maxL rt :: Ts)) := good_in hg (fun z hz => by
    unfold va_wsU at hz
    simp only [List.mem_append, List.mem_cons, List.not_mem_nil, or_false] at hz
    rcases hz with (rfl | rfl | rfl | rfl | rfl) | rfl | hz
    · exact w1
    · exact w2
    · exact w3
    · exact w4
    · exact w6
    · exact w5
    · exact hz)
  have hS : CallFix p m c cc nL s args Ts own := ⟨X.1, X.2.1, X.2.2.1, X.2.2.2.1, X.2.2.2.2.1⟩
  have hR1 := X.2.2.2.2.2.2.2.2.2.2.1
  have hR2 := X.2.2.2.2.2.2.2.2.2.2.2
  have e1 : (as'.map (rv G)).length = na := by rw [List.length_map]; simpa using h1
  have e2 : ((v :: as').reverse ++ st').map (rv G) = (as'.map (rv G)).reverse ++ .ref b :: st'.map (rv G) := by simp [hb]
  have e3 : (v :: as').map (rv G) = .ref b :: as'.map (rv G) := by simp [hb]
  rw [e3] at hMet ⊢
  rw [e2]
  exact va_runU (As := as'.map (rv G)) (rest := st'.map (rv G)) hS hMet (va_cwU na X.2.2.2.2.1 hG rfl rfl rfl hyx hd0 ⟨by rw [hR1]; exact hf, by rw [hR2]; exact hlo⟩) ⟨rBlind _ _ _, ⟨cellB, g1, g2, g3⟩, fun U hU hW => ⟨rfl, by rw [hU]; exact hP, X.2.2.2.2.2.1.warm hW⟩⟩ rfl e1 hsz rfl (lv_room (by rw [rSum_eq G X.2.2.2.2.2.1.2.2.1]; exact h2)) hd ⟨q1, q2⟩
theorem s_callO {F : rEv} {x y : MethodName} {bytes : ByteArray} {maxL : Nat} {rt : Option FieldType} {fr' lo' ix : Nat} (na ci : Nat) {C owner : String} {T : u_T} {N : Nat} (hc : cl[ci]? = some (C, T, N)) (hM : rMet cl fo zs rs ns Ts l y bytes maxL rt fr' lo' F) (hg : ∀ w ∈ Ts, goodWord w = true)
    (w1 : Cond.methodLink own ix x ∈ Ts) (w2 : Cond.sameMethod x.cls owner x.name x.desc ∈ Ts) (w7 : Cond.instanceMethod ⟨owner, x.name, x.desc⟩ ∈ Ts) (w3 : Cond.selects C x y ∈ Ts) (w4 : Cond.instanceMethod y ∈ Ts) (w6 : Cond.initialized y.cls ∈ Ts) (w5 : Cond.code y bytes maxL rt ∈ Ts) {b0 : ByteArray} {m0 : Nat} {r0 : Option FieldType} (h0 : Cond.code ⟨owner, x.name, x.desc⟩ b0 m0 r0 ∈ Ts) (hd0 : owner ≠ "java/lang/invoke/MethodHandle" ∧ owner ≠ "java/lang/invoke/VarHandle" ∧ (parseMethodDescriptor x.desc).map (fun d => d.parameters.length) = some na) (hf : fr' + 1 ≤ fr) (hlo : 8 + (maxL + 11) + lo' ≤ lo)
    (hd : decode cc pc = .ok (.invokevirtual ix, 3)) : HS (rW cl fo zs rs ns Ts G l cc nL own ret ini fr lo n0 Qf) pc (pc + 3) (h_call (na + 1) (rRecv fo ci) F) := by
  apply s_call hM
  intro as st' w n kk q h1 h2 h3 h4 p e R s m args below meth c X rl H locs cells slots hsz hP q1 q2 hMet
  obtain ⟨v, as', b, rfl, hb, cellB, g1, g2, g3⟩ := recv_some h3 X.2.2.2.2.2.1 hP hc
  have hG : GoodIn Ts (va_wsO own ix C owner x y (.code y bytes maxL rt :: Ts)) := good_in hg (fun z hz => by
    unfold va_wsO at hz
    simp only [List.mem_append, List.mem_cons, List.not_mem_nil, or_false] at hz
    rcases hz with (rfl | rfl | rfl | rfl | rfl | rfl) | rfl | hz
    · exact w1
    · exact w2
    · exact w7
    · exact w3
    · exact w4
    · exact w6
    · exact w5
    · exact hz)
  have hS : CallFix p m c cc nL s args Ts own := ⟨X.1, X.2.1, X.2.2.1, X.2.2.2.1, X.2.2.2.2.1⟩
  have hR1 := X.2.2.2.2.2.2.2.2.2.2.1
  have hR2 := X.2.2.2.2.2.2.2.2.2.2.2
  have e1 : (as'.map (rv G)).length = na := by rw [List.length_map]; simpa using h1
  have e2 : ((v :: as').reverse ++ st').map (rv G) = (as'.map (rv G)).reverse ++ .ref b :: st'.map (rv G) := by simp [hb]
  have e3 : (v :: as').map (rv G) = .ref b :: as'.map (rv G) := by simp [hb]
  rw [e3] at hMet ⊢
  rw [e2]
  exact va_runU (As := as'.map (rv G)) (rest := st'.map (rv G)) hS hMet (va_cwO na X.2.2.2.2.1 hG rfl rfl rfl h0 hd0 ⟨by rw [hR1]; exact hf, by rw [hR2]; exact hlo⟩) ⟨rBlind _ _ _, ⟨cellB, g1, g2, g3⟩, fun U hU hW => ⟨rfl, by rw [hU]; exact hP, X.2.2.2.2.2.1.warm hW⟩⟩ rfl e1 hsz rfl (lv_room (by rw [rSum_eq G X.2.2.2.2.2.1.2.2.1]; exact h2)) hd ⟨q1, q2⟩
theorem s_callSU {F : rEv} {y : MethodName} {bytes : ByteArray} {maxL : Nat} {rt : Option FieldType} {fr' lo' ix : Nat} (na ci : Nat) {C : String} {T : u_T} {N : Nat} (hc : cl[ci]? = some (C, T, N)) (hM : rMet cl fo zs rs ns Ts l y bytes maxL rt fr' lo' F) (hg : ∀ w ∈ Ts, goodWord w = true)
    (w1 : Cond.methodLink own ix y ∈ Ts) (w2 : Cond.sameMethod y.cls y.cls y.name y.desc ∈ Ts) (w3 : Cond.superclass own y.cls ∈ Ts) (w4 : Cond.instanceMethod y ∈ Ts) (w6 : Cond.initialized y.cls ∈ Ts) (w5 : Cond.code y bytes maxL rt ∈ Ts) (hd0 : y.name ≠ "<init>" ∧ (parseMethodDescriptor y.desc).map (fun d => d.parameters.length) = some na) (hf : fr' + 1 ≤ fr) (hlo : 8 + (maxL + 11) + lo' ≤ lo)
    (hd : decode cc pc = .ok (.invokespecial ix, 3)) : HS (rW cl fo zs rs ns Ts G l cc nL own ret ini fr lo n0 Qf) pc (pc + 3) (h_call (na + 1) (rRecv fo ci) F) := by
  apply s_call hM
  intro as st' w n kk q h1 h2 h3 h4 p e R s m args below meth c X rl H locs cells slots hsz hP q1 q2 hMet
  obtain ⟨v, as', b, rfl, hb, cellB, g1, g2, g3⟩ := recv_some h3 X.2.2.2.2.2.1 hP hc
  have hG : GoodIn Ts (va_wsSU own ix y (.code y bytes maxL rt :: Ts)) := good_in hg (fun z hz => by
    unfold va_wsSU at hz
    simp only [List.mem_append, List.mem_cons, List.not_mem_nil, or_false] at hz
    rcases hz with (rfl | rfl | rfl | rfl | rfl) | rfl | hz
    · exact w1
    · exact w2
    · exact w3
    · exact w4
    · exact w6
    · exact w5
    · exact hz)
  have hS : CallFix p m c cc nL s args Ts own := ⟨X.1, X.2.1, X.2.2.1, X.2.2.2.1, X.2.2.2.2.1⟩
  have hR1 := X.2.2.2.2.2.2.2.2.2.2.1
  have hR2 := X.2.2.2.2.2.2.2.2.2.2.2
  have e1 : (as'.map (rv G)).length = na := by rw [List.length_map]; simpa using h1
  have e2 : ((v :: as').reverse ++ st').map (rv G) = (as'.map (rv G)).reverse ++ .ref b :: st'.map (rv G) := by simp [hb]
  have e3 : (v :: as').map (rv G) = .ref b :: as'.map (rv G) := by simp [hb]
  rw [e3] at hMet ⊢
  rw [e2]
  exact va_runSU (As := as'.map (rv G)) (rest := st'.map (rv G)) (X.2.2.2.2.2.1.1.1 ci _ hc).2 hS hMet (va_cwSU na X.2.2.2.2.1 hG rfl rfl rfl hd0 ⟨by rw [hR1]; exact hf, by rw [hR2]; exact hlo⟩) ⟨rBlind _ _ _, ⟨cellB, g1, g2, g3⟩, fun U hU hW => ⟨rfl, by rw [hU]; exact hP, X.2.2.2.2.2.1.warm hW⟩⟩ rfl e1 hsz rfl (lv_room (by rw [rSum_eq G X.2.2.2.2.2.1.2.2.1]; exact h2)) hd ⟨q1, q2⟩
theorem s_callIN {F : rEv} {y : MethodName} {bytes : ByteArray} {maxL : Nat} {fr' lo' ix : Nat} {host : String} (na ci : Nat) {C : String} {T : u_T} {N : Nat} (hc : cl[ci]? = some (C, T, N)) (hM : rMet cl fo zs rs ns Ts l y bytes maxL none fr' lo' F) (hg : ∀ w ∈ Ts, goodWord w = true)
    (w1 : Cond.methodLinkNest own ix y host ∈ ns) (w2 : Cond.instanceMethod y ∈ Ts) (w4 : Cond.initialized y.cls ∈ Ts) (w5 : Cond.code y bytes maxL none ∈ Ts) (hy1 : y.name = "<init>") (hd0 : y.cls ≠ "java/lang/invoke/MethodHandle" ∧ y.cls ≠ "java/lang/invoke/VarHandle" ∧ (parseMethodDescriptor y.desc).map (fun d => d.parameters.length) = some na) (hf : fr' + 1 ≤ fr) (hlo : 8 + (maxL + 11) + lo' ≤ lo)
    (hd : decode cc pc = .ok (.invokespecial ix, 3)) : HS (rW cl fo zs rs ns Ts G l cc nL own ret ini fr lo n0 Qf) pc (pc + 3) (h_call (na + 1) (rRecv fo ci) F) := by
  apply s_call hM
  intro as st' w n kk q h1 h2 h3 h4 p e R s m args below meth c X rl H locs cells slots hsz hP q1 q2 hMet
  obtain ⟨v, as', b, rfl, hb, cellB, g1, g2, g3⟩ := recv_some h3 X.2.2.2.2.2.1 hP hc
  have hG : GoodIn Ts (.code y bytes maxL none :: Ts) := good_in hg (fun z hz => by
    rcases List.mem_cons.mp hz with rfl | hz
    · exact w5
    · exact hz)
  have hS : CallFix p m c cc nL s args Ts own := ⟨X.1, X.2.1, X.2.2.1, X.2.2.2.1, X.2.2.2.2.1⟩
  have hR1 := X.2.2.2.2.2.2.2.2.2.2.1
  have hR2 := X.2.2.2.2.2.2.2.2.2.2.2
  have e1 : (as'.map (rv G)).length = na := by rw [List.length_map]; simpa using h1
  have e2 : ((v :: as').reverse ++ st').map (rv G) = (as'.map (rv G)).reverse ++ .ref b :: st'.map (rv G) := by simp [hb]
  have e3 : (v :: as').map (rv G) = .ref b :: as'.map (rv G) := by simp [hb]
  rw [e3] at hMet ⊢
  rw [e2]
  exact va_runIN (As := as'.map (rv G)) (rest := st'.map (rv G)) hS hMet ⟨va_cnB na X.2.2.2.2.1 hG rfl rfl rfl (X.2.2.2.2.2.1.2.1.2 _ w1).1 (X.2.2.2.2.1 _ w4) hd0 ⟨by rw [hR1]; exact hf, by rw [hR2]; exact hlo⟩, hy1, X.2.2.2.2.1 _ w2⟩ ⟨rBlind _ _ _, fun U hU hW => ⟨rfl, by rw [hU]; exact hP, X.2.2.2.2.2.1.warm hW⟩⟩ rfl e1 hsz rfl (lv_room (by rw [rSum_eq G X.2.2.2.2.2.1.2.2.1]; exact h2)) hd ⟨q1, q2⟩
end RM
/-- a private method of the superclass of a class that can be made is what it selects -/
theorem rSelSup {y : MethodName} {C Z : String} {s : State} {args : Array Value} {n : Nat} (hy : y.cls ≠ "java/lang/invoke/MethodHandle" ∧ y.cls ≠ "java/lang/invoke/VarHandle") (hins : (Cond.instantiable C n).before args s = true) (hsup : (Cond.superclass y.cls Z).before args s = true) (hpriv : (Cond.privateMethod y).before args s = true) (hinst : (Cond.instanceMethod y).before args s = true) : (Cond.selects C y y).before args s = true := by
  obtain ⟨c, k, hc, hk, -⟩ := Cond.instantiable_spec hins
  obtain ⟨mk, methM, hnamed, hmethM, -, -⟩ := Cond.instanceMethod_spec hinst
  have hfound : s.methodFound? y.cls y.name y.desc = some mk := State.methodFound?_of_named hnamed hy
  have hsel : selectMethod {} s.vm c mk = .method mk := selectMethod_private hmethM (Cond.privateMethod_at hpriv mk methM hnamed hmethM)
  obtain ⟨p, k2, kp, -, hk2, -, -, -, -, hni⟩ := Cond.superclass_spec (findClass_of_methodNamed hnamed) hsup
  simp only [Cond.before, Cond.holds, Cond.value, hc, hfound, hnamed, hsel, hk2]
  simp [hni]
