/-! METHODS THAT THROW -/
def exN : Option rCV → String
  | some (.inl 0) => "java/lang/IllegalStateException"
  | some (.inl 1) => "java/util/NoSuchElementException"
  | _ => "java/lang/IllegalArgumentException"
def rXC (cl : List vw_C) (G : rGm) (o : rOut) : String → State → State → Prop := fun E _ t => E = exN o.1 ∧ ∃ n' : Nat, o.2.2.1 ≤ n' ∧ rPic cl G o.2.1 n' t.heap
abbrev rXQ (cl : List vw_C) (G : rGm) (n0 : Nat) : rQf := fun below args s o => vx_MQ below (fun _ _ _ _ => False) (rXC cl G o) args s (o.2.2.1 - n0) o.2.2.2 (fun q => G.2.2.1 ≤ q)
section UX
variable {p : Program} {l : Launch} {e : Env} {R : Room} {s : State} {m : MethodId} {args : Array Value} {below : List Frame} {meth : Method} {c : Code} {H : Heap} {locs : List Loc} {cells slots : Nat}
variable {free : Addr → Prop} {ls : Array Slot} {rest : List Value} {Qc : Array Value → State → Outcome → State → Prop} {XC : String → State → State → Prop}
set_option maxHeartbeats 1000000 in
/-- vx_throwS of kit/laws, with one word more: the new cell lies in the heap -/
theorem ux_throwS {cc : ByteArray} {pc : Nat} (hexec : p.tables.exec = Jvm.exec) (hb : c.code = cc) (hl : l.stackTraces = false) {own cls text : String} {names : List String} {ik is ic mc ms sa : Nat} {A : Nat → Prop}
    (hown : s.vm.findClass own = some m.cls) (hcls : Bundle.fit cls = true) (hnames : ∀ n ∈ names, Bundle.fit n = true)
    (hk : (Cond.classLink own ik cls).before args s = true) (hini : (Cond.initialized cls).before args s = true) (hstr : vk_R own is text sa s) (hat : ∀ w ∈ vx_atS own ic cls names, w.before args s = true)
    (hgood : ∀ w ∈ Cond.classLink own ik cls :: Cond.initialized cls :: vx_atS own ic cls names, vx_ot w = true)
    (hU : vx_Zq Bundle.tN "UNASSIGNED_STACK" Bundle.steD A s s.heap) (hN : vx_Zq Bundle.tN "SUPPRESSED_SENTINEL" Bundle.listD A s s.heap) (hS : va_S A s.heap H locs) (hsize : ls.size = c.maxLocals)
    (d0 : decode cc pc = .ok (.new ik, 3)) (d3 : decode cc (pc + 3) = .ok (.dup, 1)) (d4 : decode cc (pc + 4) = .ok (.ldc is, 2)) (d6 : decode cc (pc + 6) = .ok (.invokespecial ic, 3)) (d9 : decode cc (pc + 9) = .ok (.athrow, 1))
    (hout : ∀ x ∈ c.exceptionTable.toList, covers x (pc + 9) = false)
    (hRframes : names.length + 3 < R.frames) (hRlocals : (rest.map fun v => v.category).sum + (13 * (names.length + 1) + 43) ≤ R.locals) (hRcells : cells + 1 ≤ R.cells) (hRslots : slots + 6 ≤ R.slots) (hlocks : meth.locks = false)
    (hx : ∀ t : State, s.vm.Alike t.vm → H.size < t.heap.size → (∀ q : Nat, q < H.size → t.heap[q]? = H[q]?) → XC cls s t)
    (hf : ∀ z ∈ locs, free z.base) (hc : cells + 1 ≤ mc) (hs : slots + 6 ≤ ms) :
    W p l e R s m args below meth c H locs cells slots (vx_MQ below Qc XC args s mc ms free) (F0 m pc ls rest) := by
  intro T hT X
  have htr : e.platform.stackTraces = false := (show e.platform.stackTraces = l.stackTraces by rw [X.admits.platform]).trans hl
  have Y := vx_rebase X (R' := { frames := R.frames, locals := R.locals, cells := 1, slots := 6 }) (Nat.le_refl _) (Nat.le_refl _) hRcells hRslots
  obtain ⟨s', hA⟩ : ∃ z, z = (T.setVm s.vm).setFrames (.invoking m args :: below) := ⟨_, rfl⟩
  rw [← hA] at Y
  have hvm : s'.vm = s.vm := by rw [hA]; rfl
  have hhp : s'.heap = H := by rw [hA]; exact hT
  have hW0 : s.WarmedH s'.vm := by rw [hvm]; exact State.WarmedH.refl s
  have hat' : ∀ w ∈ vx_atS own ic cls names, w.before args s' = true := fun w hw => vx_ot_at hW0 hvm.symm (hgood w (List.mem_cons_of_mem _ (List.mem_cons_of_mem _ hw))) (hat w hw)
  have hk' : (Cond.classLink own ik cls).before args s' = true := vx_ot_at hW0 hvm.symm (hgood _ List.mem_cons_self) hk
  have hini' : (Cond.initialized cls).before args s' = true := vx_ot_at hW0 hvm.symm (hgood _ (List.mem_cons_of_mem _ List.mem_cons_self)) hini
  have hU' : vx_Zq Bundle.tN "UNASSIGNED_STACK" Bundle.steD A s' s'.heap := by rw [hhp]; exact vx_Zq.moved hW0.alike (hU.kept hS.2.1)
  have hN' : vx_Zq Bundle.tN "SUPPRESSED_SENTINEL" Bundle.listD A s' s'.heap := by rw [hhp]; exact vx_Zq.moved hW0.alike (hN.kept hS.2.1)
  have h : ∀ w ∈ Bundle.ownAtoms own ic cls names, w.before args s' = true := vx_own hat' (vx_isRefq hU'.1) (vx_isRefq hN'.1) hU'.2.word hN'.2.word
  have hown' : s'.vm.findClass own = some m.cls := by rw [hvm]; exact hown
  have hins : (Cond.instantiable cls 6).before args s' = true := h _ (by simp [Bundle.ownAtoms])
  obtain ⟨vm₁, cX, kX, hfX, hkX, -, -, X₁, st1⟩ := Y.newCold hexec (own := own) (C := cls) (index := ik) (n := 6) hown' hk' hins hini'
    (g := F0 m pc ls rest) rfl (by rw [hb]; exact d0) (Nat.le_refl _) (Nat.le_refl _)
  generalize hT1 : (T.setVm vm₁).pushCell { cls := cX, slots := kX.instanceTypes.map defaultValue, vm := .none } = T1 at X₁ st1
  have hcat : (Value.ref T.heap.size).category = 1 := rfl
  have hcellA : T1.heap[T.heap.size]? = some (freshCell cX kX) := by rw [← hT1]; exact State.heap_pushCell_size _ _
  have d3' : decode c.code (pc + 3) = .ok (.dup, 1) := by rw [hb]; exact d3
  have d4' : decode c.code (pc + 4) = .ok (.ldc is, 2) := by rw [hb]; exact d4
  have hstr' : vk_R own is text sa s' := vk_R.warm hW0 hstr
  obtain ⟨U, hsteps, hrun, hend, hW, hsame, ce, hce, hO⟩ := X₁.ctorThrowS hexec htr (own := own) (cls := cls) (names := names) (ic := ic) hown' hcls hnames h (fun x hx => nomatch hx) hfX hkX hcellA (by rw [hhp, hT]; exact Nat.le_refl _) (msg := .ref sa) rfl
    (g := { method := m, pc := pc + 6, locals := ls, stack := .ref sa :: .ref T.heap.size :: .ref T.heap.size :: rest, locked := none }) rfl hsize rfl rfl (rest := rest) rfl
    (by rw [hb]; exact d6) (by rw [hb]; exact d9) hout hRframes (by simp only [List.map_cons, List.sum_cons, hcat]; omega) hlocks
  obtain ⟨f1, f2⟩ := vx_frame hsame
  rw [hhp] at f1 f2
  have hWs : s.WarmedH U.vm := State.WarmedH.trans hW0 hW
  have hcl : s.vm.findClass cls = some ce.cls := by
    have h9 := hO.cls
    rw [hvm] at h9
    exact h9
  have hall : s.sameButNew ({ U with vm := s.vm } : State) locs mc ms := by
    subst hA
    obtain ⟨e1, e2⟩ := hsame
    rw [State.setFrames_setFrames] at e1
    have h2 : (T.setVm s.vm).sameButNew ({ U with vm := s.vm } : State) [] (0 + 1) (0 + 6) := ⟨e1, e2⟩
    have h3 := X.same.trans h2
    rw [List.append_nil] at h3
    exact h3.mono hc hs
  refine ⟨U, ?_, .threw T.heap.size, hrun, hend, Or.inr ⟨T.heap.size, rfl, cls, ce, locs, hx U hWs.alike (by rw [← hT]; exact (Array.getElem?_eq_some_iff.mp hce).1) (fun q hq => f2 q hq (fun z hz => nomatch hz)), hce, hO.vm, hcl, hWs, hall, hf⟩⟩
  refine st1 _ ?_
  show Steps p.tables e below (T1.setTop { method := m, pc := pc + 3, locals := ls, stack := .ref T.heap.size :: rest, locked := none }) _
  jvm_step X₁.here [X₁.here.top, hexec, d3', Value.category]
  exact X₁.ldcString hexec (own := own) (text := text) (index := is) (a := sa) hown' hstr'.1 hstr'.2
    (g := { method := m, pc := pc + 4, locals := ls, stack := .ref T.heap.size :: .ref T.heap.size :: rest, locked := none }) rfl d4' _ hsteps
end UX
/-- 'throw new E(text)' -/
noncomputable def t_thr (e : Nat) : rBl := fun _ _ st w n c => List.rec (some (some (.inl e), w, Nat.succ n, Nat.add c 6)) (fun _ _ _ => none) st
section RT
variable {cl : List vw_C} {fo : List rCC} {zs : List (String × String × String × rCV)} {rs : List (String × Nat × String × Nat)} {ns : List Cond} {Ts : List Cond} {G : rGm}
variable {l : Launch} {cc : ByteArray} {nL n0 : Nat} {own : String} {pc : Nat} {ret : Option FieldType} {ini : Bool} {fr lo : Nat}
theorem s_thr (e i : Nat) {ik is ic : Nat} {cls text : String} (names : List String) (hl : l.stackTraces = false) (hown : own ≠ "NativeWorksLaw") (hnm : exN (some (.inl e)) = cls) (hcls : Bundle.fit cls = true) (hnames : ∀ n ∈ names, Bundle.fit n = true)
    (w1 : Cond.classLink own ik cls ∈ Ts) (w2 : Cond.initialized cls ∈ Ts) (hstr : (own, is, text, i) ∈ rs) (hat : ∀ w ∈ vx_atS own ic cls names, w ∈ Ts ∨ (w ∈ ns ∧ w.onTables = true)) (hgood : ∀ w ∈ Cond.classLink own ik cls :: Cond.initialized cls :: vx_atS own ic cls names, vx_ot w = true)
    (d0 : decode cc pc = .ok (.new ik, 3)) (d3 : decode cc (pc + 3) = .ok (.dup, 1)) (d4 : decode cc (pc + 4) = .ok (.ldc is, 2)) (d6 : decode cc (pc + 6) = .ok (.invokespecial ic, 3)) (d9 : decode cc (pc + 9) = .ok (.athrow, 1))
    (hf : names.length + 3 < fr) (hlo : 13 * (names.length + 1) + 43 ≤ lo) {pcs : List Nat} : BS (rW cl fo zs rs ns Ts G l cc nL own ret ini fr lo n0 (rXQ cl G n0)) pcs pc (t_thr e) := by
  intro J hJ ls st w n k o e0
  cases st with
  | cons v st => cases e0
  | nil =>
    cases e0
    refine ⟨⟨Nat.le_succ _, Nat.le_add_right _ _⟩, fun p e R s m args below meth c X r1 r2 r3 rl H locs hL0 hP hL => ?_⟩
    obtain ⟨a, h1, h2⟩ := X.2.2.2.2.2.1.2.2.2.2.1 _ hstr
    have hR1 := X.2.2.2.2.2.2.2.2.2.2.1
    have hR2 := X.2.2.2.2.2.2.2.2.2.2.2
    have h8 := X.2.2.2.2.2.2.2.1
    have hz := X.2.2.2.2.2.1.2.1.1
    have r1 : Nat.succ n - n0 ≤ R.cells := r1
    have r2 : k + 6 ≤ R.slots := r2
    have hq : ∀ a : Nat, a < G.2.2.2.2.size → ¬ G.2.2.1 ≤ a → s.heap[a]? = G.2.2.2.2[a]? := fun a _ ha => h8.2.1 a (by omega)
    intro T hT Xs
    have hge : s.heap.size ≤ H.size := by
      have h9 := Xs.same.2.1
      rw [← hT]; exact h9
    refine (ux_throwS (A := fun q => G.2.2.1 ≤ q) X.1 X.2.1 hl X.2.2.2.1 hcls hnames (X.2.2.2.2.1 _ w1) (X.2.2.2.2.1 _ w2) h2 (fun w hw => ?_) hgood (vx_Zq.kept hz.2.1 hq) (vx_Zq.kept hz.2.2 hq) ⟨?_, fun q hq hA => ?_, hL⟩ (by rw [X.2.2.1]; exact hL0.1) d0 d3 d4 d6 d9 (fun x hx => (h8.2.2 hown x hx).elim) (by rw [hR1]; exact hf) (by rw [hR2]; show 0 + _ ≤ _; omega) (by omega) (by omega) X.2.2.2.2.2.2.1 (fun t hvm hs hk => ?_) hL (by show n - n0 + 1 ≤ Nat.succ n - n0; omega) (Nat.le_refl _)) T hT Xs
    · rcases hat w hw with q | ⟨q, q2⟩
      · exact X.2.2.2.2.1 _ q
      · exact va_Nw.use q2 (X.2.2.2.2.2.1.2.1.2 _ q).1
    · exact hge
    · rw [hP.2.1 q (by omega)]
      exact (h8.2.1 q (by omega)).symm
    · refine ⟨hnm.symm, t.heap.size - G.2.2.1, ?_, ?_, fun q hq => ?_, fun i x hx => ?_⟩
      · show Nat.succ n ≤ _
        have := hP.1
        omega
      · have := hP.1
        omega
      · have := hP.1
        rw [hk q (by omega)]
        exact hP.2.1 q hq
      · have h1 := hP.2.2 i x hx
        have := hP.1
        exact ⟨by omega, h1.2.1.kept (fun q q1 q2 => hk _ (by have := h1.2.2.1; omega)), by have := h1.2.2.1; omega, h1.2.2.2⟩
/-- the method throws what F tells -/
def rMetX (cl : List vw_C) (fo : List rCC) (zs : List (String × String × String × rCV)) (rs : List (String × Nat × String × Nat)) (ns : List Cond) (Ts : List Cond) (l : Launch) (y : MethodName) (bytes : ByteArray) (maxL : Nat) (ret : Option FieldType) (fr lo : Nat) (F : rEv) : Prop :=
  ∀ (G : rGm) (as : List rCV) (w : rWd) (n : Nat) (o : rOut), F as w n = some o → n ≤ o.2.2.1 ∧
    vx_Met l y (.code y bytes maxL ret :: Ts) { frames := fr, cells := o.2.2.1 - n, slots := o.2.2.2, locals := lo } (va_Pc (as.map (rv G)) (fun U => rPic cl G w n U.heap ∧ rKK cl fo zs rs ns G U)) (fun _ _ _ _ => False) (rXC cl G o) (o.2.2.1 - n) o.2.2.2 (fun q => G.2.2.1 ≤ q)
theorem metx_of {y : MethodName} {bytes : ByteArray} {maxL : Nat} {ret : Option FieldType} {fr lo fuel : Nat} {bs : List rBl} {pcs : List Nat} (hy : plainName y.cls = true) (hps : pcs[0]? = some 0)
    (hbody : ∀ (G : rGm) (n0 : Nat), AllB (rW cl fo zs rs ns Ts G l bytes maxL y.cls ret (decide (y.name = "<init>")) fr lo n0 (rXQ cl G n0)) pcs pcs bs) : rMetX cl fo zs rs ns Ts l y bytes maxL ret fr lo (fun as w n => rIni maxL as (fun ls => rRun bs fuel 0 ls [] w n 0)) := by
  intro G as w n o e0
  obtain ⟨ls0, hls0⟩ := rIni_k as 0 _ e0
  obtain ⟨⟨a1, a2⟩, -⟩ := run_ok (hbody G n) fuel 0 0 hps ls0 [] w n 0 o hls0
  refine ⟨a1, ?_⟩
  refine vx_ofW (cc := bytes) (maxL := maxL) (ret := ret) hy rfl ?_
  intro p e s m args below meth c s₁ B hml ht hv
  obtain ⟨rfl, hP, hKK⟩ := hv
  have hts := atoms_spec (ws := .code y bytes maxL ret :: Ts) B.pre
  obtain ⟨ls, h1, h2, h3⟩ := rIni_go (G := G) hKK.2.2.1 as 0 _ e0
  obtain ⟨-, hV⟩ := run_ok (hbody G n) fuel 0 0 hps ls [] w n 0 o h1
  rw [Nat.zero_add] at h3
  have hl := lv_entry (as.map (rv G)) (n := maxL) h3
  rw [lg_entry_eq]
  rw [← h2] at hl
  have hW := hV p e { frames := fr, cells := o.2.2.1 - n, slots := o.2.2.2, locals := lo } s m (as.map (rv G)).toArray below meth c ⟨B.exec, B.bytes, hml, findClass_of_methodNamed B.named, fun q hq => hts q (List.mem_cons_of_mem _ hq), hKK, B.notSynchronized, ⟨by rw [hP.1]; exact Nat.le_add_right _ _, hP.2.1, fun _ => ht⟩, B.returns, fun hi => by rw [(name_of_methodNamed B.named B.method).1]; exact of_decide_eq_true hi, rfl, rfl⟩ (Nat.le_refl _) (Nat.le_refl _) (Nat.le_refl _) _ s.heap [] hl hP (fun x hx => by cases hx)
  rw [Nat.sub_self] at hW
  exact hW
end RT
/-- a body with a table of its own, that returns -/
theorem r_ofWH {l : Launch} {y : MethodName} {ws ws' : List Cond} {rm : Room} {Pc : Array Value → State → Prop} {Qc : Array Value → State → Outcome → State → Prop} {mc ms : Nat} {free : Addr → Prop} {cc : ByteArray} {maxL : Nat} {ret : Option FieldType} {hh : List (Nat × Nat × Nat × Nat)}
    (hy : plainName y.cls = true) (hw : ws = Cond.codeWith y cc maxL ret hh :: ws')
    (body : ∀ p e s m args below meth c s₁, BodyLoose p l y (headSpec ws rm) cc maxL ret e s m args below meth c s₁ → c.maxLocals = maxL → Pc args s →
      W p l e (headSpec ws rm).room s m args below meth c s.heap [] 0 0 (MQ below Qc args s mc ms free) (entryFrame m args maxL)) : Met l y ws rm Pc Qc mc ms free := by
  refine MetFree.of_bodyS (code := cc) (maxLocals := maxL) (ret := ret) hy ?_ ?_
  · intro args s m h hn
    obtain ⟨m9, meth, c, hn9, h1, h2, h3, h4, -, h5, h6, -⟩ := Cond.codeWith_spec (atoms_spec (ws := ws) h _ (by rw [hw]; exact List.mem_cons_self))
    cases hn.symm.trans hn9
    exact ⟨meth, c, h1, h2, h3, h4, h5, h6⟩
  · intro p e s m args below meth c s₁ B hml hP _
    have hh0 : s₁.heap = s.heap := by rw [B.state]; rfl
    obtain ⟨t, a1, o, b1, b2, b3⟩ := body p e s m args below meth c s₁ B hml hP s₁ hh0 (Stand.of_body B)
    exact ⟨t, o, a1, b1, b2, ⟨b3.1, b3.2⟩⟩
