/-! A METHOD CHECKED PIECE BY PIECE; CONTRACTS FROM ANY RUN -/
/-- the check of a method, its pieces each over a stream of its own -/
def zPc (g : qG) (cts : List qCt) (rI rJ : qRt) (rL : Nat → Option qRl) (code : qCd) (cuts : qCu) (C : qCt) (fuel : Nat) : Prop :=
  (∃ s o, zblk g C.2.2.2 cts rI rJ rL code C (zrun g C.2.2.2 cts rI rJ rL code cuts C none fuel) 0 C.2.1 s = some o) ∧ ∀ x ∈ cuts, ∃ s o, zfrom g C.2.2.2 cts rI rJ rL code cuts C fuel x s = some o
noncomputable def zsm (x : qR) : Bool := Option.rec (motive := fun _ => Bool) false (fun _ => true) x
theorem zsm_t {x : qR} (h : zsm x = true) : ∃ o, x = some o := by
  cases x with
  | none => cases h
  | some o => exact ⟨o, rfl⟩
theorem zsm_e {f : List Nat → qR} (s : List Nat) (h : zsm (f s) = true) : ∃ s o, f s = some o := ⟨s, zsm_t h⟩
section
variable {g : qG} {cts : List qCt} {rI rJ : qRt} {rL : Nat → Option qRl} {code : qCd} {cuts : qCu} {C : qCt}
/-- what a method's run owes: wherever it begins as C tells, it comes to an end that C tells -/
def yRun (g : qG) (cts : List qCt) (code : qCd) (C : qCt) : Prop := ∀ (s : qSg) (r : qW) (a : qX) (as : List qV), Typed g s → CtBeg g C as s r a → ∀ V : Nat → qP, VRule g cts code (CtEnd g C r a s) V → V 0 (lsArgs 0 as) [] s
theorem yRun_z (hg : gTags g) (hI : RtI rI) (hJ : RtJ rJ) (hL : ∀ n R, rL n = some R → RlOk R) {fuel : Nat} {str : List Nat} (h : zchk g cts rI rJ rL code cuts C fuel str = true) : yRun g cts code C := fun s r a as hT hB V hV => zchk_ok hg hI hJ hL h hV hT hB
theorem yRun_p (hg : gTags g) (hI : RtI rI) (hJ : RtJ rJ) (hL : ∀ n R, rL n = some R → RlOk R) {fuel : Nat} (h : zPc g cts rI rJ rL code cuts C fuel) : yRun g cts code C := by
  intro se r0 a0 as hT hS V hV
  obtain ⟨⟨s1, o1, h2⟩, hz⟩ := h
  obtain ⟨-, ls, h4, h5⟩ := hS
  have hC : HCut g C.2.2.2 se cuts C V r0 a0 none r0 := by
    intro b' T' hb' r' a' ls' st' s' hT' hS' hr' ha' q1 q2 q3 _
    obtain ⟨m1, f1⟩ := Int.eq_ofNat_of_zero_le q1
    obtain ⟨m2, f2⟩ := Int.eq_ofNat_of_zero_le q2
    obtain ⟨m3, f3⟩ := Int.eq_ofNat_of_zero_le q3
    exact zcut_V hg hI hJ hL hV hz m1 m2 m3 b' T' hb' r' a' ls' st' s' hT' hS' hr' ha' f1 f2 f3
  refine hV.2 0 (lsArgs 0 as) ls [] se h4 ?_
  exact zblk_ok hg hI hJ hL hV (fun _ q => q) (γ := (C.2.1.2.2.2.1, r0, C.2.1.2.2.2.2.2.2.1, a0)) (Nat.le_refl _) (Nat.le_refl _) (fun _ _ => rfl) (fun _ _ => rfl) h2
    (fun b' S' str' o' h' r' a' ls' st' s' hT' hS' => zrun_ok hg hI hJ hL hV (fun _ q => q) (γ := (C.2.1.2.2.2.1, r0, C.2.1.2.2.2.2.2.2.1, a0)) (Nat.le_refl _) (Nat.le_refl _) (fun _ _ => rfl) (fun _ _ => rfl) (fun m em => by cases em) hC fuel b' S' str' o' h' r' a' ls' st' s' hT' hS') r0 a0 ls [] se ⟨hT, fun _ _ => rfl⟩ h5.gh
end
/-- a body of a method that no entry stands in for: her class plainly named, or no row for her -/
theorem m_ofF {l : Launch} {y : MethodName} {ws ws' : List Cond} {rm : Room} {Pc : Array Value → State → Prop} {Qc : Array Value → State → Outcome → State → Prop} {mc ms : Nat} {free : Addr → Prop} {cc : ByteArray} {maxL : Nat} {ret : Option FieldType}
    (hy : plainFor y = true) (hw : ws = Cond.code y cc maxL ret :: ws')
    (body : ∀ p e s m args below meth c s₁, BodyLoose p l y (headSpec ws rm) cc maxL ret e s m args below meth c s₁ → c.maxLocals = maxL → Pc args s →
      W p l e (headSpec ws rm).room s m args below meth c s.heap [] 0 0 (MQ below Qc args s mc ms free) (entryFrame m args maxL)) : Met l y ws rm Pc Qc mc ms free := by
  refine MetFree.of_bodySF (code := cc) (maxLocals := maxL) (ret := ret) hy ?_ ?_
  · intro args s m h hn
    obtain ⟨meth, c, h1, h2, h3, h4, h5, h6, -, -⟩ := Cond.code_spec hn (atoms_spec (ws := ws) h _ (by rw [hw]; exact List.mem_cons_self))
    exact ⟨meth, c, h1, h2, h3, h4, h5, h6⟩
  · intro p e s m args below meth c s₁ B hml hP _
    have hh0 : s₁.heap = s.heap := by rw [B.state]; rfl
    obtain ⟨t, a1, o, b1, b2, b3⟩ := body p e s m args below meth c s₁ B hml hP s₁ hh0 (Stand.of_body B)
    exact ⟨t, o, a1, b1, b2, ⟨b3.1, b3.2⟩⟩
section KR
variable {g : qG} {L : kLay} {cl : List vw_C} {fo : List rCC} {zs : List (String × String × String × rCV)} {rs : List (String × Nat × String × Nat)} {ns : List Cond} {Ts : List Cond}
variable {l : Launch} {ret : Option FieldType} {fr lo : Nat}
theorem kmet_run {y : MethodName} {bytes : ByteArray} {maxL : Nat} {C : qCt} {cts : List qCt} {code : qCd} (hy : plainFor y = true) (h : yRun g cts code C) (hw : zwid C.2.1.1 C.1 0 maxL = true)
    (hbody : ∀ (G : rGm) (n : Nat) (Rr : List qV → qSg → Prop), ∃ V : Nat → qP, VRule g cts code Rr V ∧ ∀ ls st s, V 0 ls st s → kW g L cl fo zs rs ns Ts G l bytes maxL y.cls ret fr lo n (kMQ g L cl fo zs rs ns G n Rr) 0 ls st s) : kMet g L cl fo zs rs ns Ts l y bytes maxL ret fr lo C := by
  intro G n s r a as hT hB
  refine m_ofF (cc := bytes) (maxL := maxL) (ret := ret) hy rfl ?_
  intro p e s0 m args below meth c s₁ B hml hv
  obtain ⟨rfl, hP, hKK⟩ := hv
  have hts := atoms_spec (ws := .code y bytes maxL ret :: Ts) B.pre
  have ht : ∀ x ∈ c.exceptionTable.toList, False := by
    obtain ⟨meth9, c9, h1, h2, -, -, -, -, h7, -⟩ := Cond.code_spec B.named (hts _ List.mem_cons_self)
    cases Option.some.inj (h1.symm.trans B.method)
    cases Option.some.inj (h2.symm.trans (Stand.of_body B).code)
    intro x hx
    rw [Array.isEmpty_iff.mp h7] at hx
    cases hx
  obtain ⟨V, hV, hV0⟩ := hbody G n (CtEnd g C r a s)
  have hVV := hV0 _ _ _ (h s r a as hT hB V hV)
  obtain ⟨hlen, ls, hsub, hsat⟩ := hB
  have h3 := zwid_ok (r := r) G hKK.2.2.1 as 0 (by rw [hlen]; exact hw) (fun q hq _ => hsub q (by rw [hsat.now.1]; exact hq))
  rw [Nat.zero_add] at h3
  have hl := lv_entry (as.map (kv G)) (n := maxL) h3
  rw [lg_entry_eq]
  rw [← kLv_args G hKK.2.2.1] at hl
  exact hVV p e { frames := fr, cells := 0, slots := 0, locals := lo } s0 m (as.map (kv G)).toArray below meth c ⟨B.exec, B.bytes, hml, findClass_of_methodNamed B.named, fun q hq => hts q (List.mem_cons_of_mem _ hq), hKK, B.notSynchronized, ⟨Nat.le_trans (Nat.le_add_right _ _) hP.1, hP.2.1, fun _ => ht⟩, B.returns, (fun hi => Bool.noConfusion hi), rfl, rfl⟩ ⟨trivial, Nat.zero_le _, Nat.zero_le _⟩ _ s0.heap [] hl hP (fun x hx => by cases hx)
/-- a method keeps its contract: its run, its rows by evaluation -/
theorem kmet_y2 {y : MethodName} {bytes : ByteArray} {maxL rt : Nat} {C : qCt} {cts : List qCt} {code : qCd} {P : List Nat} {tb : yTb} {mt : yMt} {GH : List Nat} (hy : plainFor y = true) (h : yRun g cts code C) (hw : zwid C.2.1.1 C.1 0 maxL = true) (hp : P[0]? = some 0)
    (hr : yRows g L tb mt GH maxL rt (zby bytes) P code P = true) (hLO : LOk L) (hLa : yLa g L) (hT : yTO cl zs ns Ts y.cls tb) (hG : ∀ b ∈ GH, kGhost L b = true) (hrt : yRt rt ret)
    (hC : ∀ (G : rGm) (n : Nat) (Qf : kQf), ∀ x ∈ mt.1, ∃ C, cts[x.2.2]? = some C ∧ ySite g L cl fo zs rs ns Ts G l bytes maxL y.cls ret fr lo n Qf x.1 x.2.1 C)
    (hM : mt.2.1 = [])
    (hS : ∀ (G : rGm) (n : Nat) (Rr : List qV → qSg → Prop), ∀ x ∈ mt.2.2.1, ∀ ls st s, wT (kV (kW g L cl fo zs rs ns Ts G l bytes maxL y.cls ret fr lo n (kMQ g L cl fo zs rs ns G n Rr)) P) Rr x.2 ls st s → kW g L cl fo zs rs ns Ts G l bytes maxL y.cls ret fr lo n (kMQ g L cl fo zs rs ns G n Rr) x.1 ls st s) (hX : mt.2.2.2 = []) :
    kMet g L cl fo zs rs ns Ts l y bytes maxL ret fr lo C :=
  kmet_run hy h hw fun G n Rr => ⟨kV (kW g L cl fo zs rs ns Ts G l bytes maxL y.cls ret fr lo n (kMQ g L cl fo zs rs ns G n Rr)) P, kV_rule (fun t ls ls' st s h1 (h2 : kW g L cl fo zs rs ns Ts G l bytes maxL y.cls ret fr lo n (kMQ g L cl fo zs rs ns G n Rr) t ls' st s) => k_sub h1 h2) (yRows_ok hLO hLa hT hG (hC G n _) (fun x hx => by rw [hM] at hx; cases hx) yEh_q hrt (hS G n Rr) (fun x hx => by rw [hX] at hx; cases hx) code P hr), fun ls st s h9 => kV_at hp h9⟩
end KR
