/-! METHODS AND CALLS over the store -/
section KR
variable {g : qG} {L : kLay} {cl : List vw_C} {fo : List rCC} {zs : List (String × String × String × rCV)} {rs : List (String × Nat × String × Nat)} {ns : List Cond} {Ts : List Cond} {G : rGm}
variable {l : Launch} {cc : ByteArray} {nL n : Nat} {own : String} {pc : Nat} {ret : Option FieldType} {fr lo : Nat} {Qf : kQf}
theorem kLv_args (G : rGm) (h : ∀ i : Nat, G.2.2.2.1 i = .null ∨ ∃ a, G.2.2.2.1 i = .ref a) : ∀ (as : List qV) (p : Nat), (lsArgs p as).map (kLv G) = lv_args p (as.map (kv G))
  | [], p => rfl
  | v :: as, p => by
    show kLv G (p, v) :: (lsArgs _ as).map (kLv G) = (p, kv G v) :: lv_args (if (kv G v).category = 2 then p + 2 else p + 1) (as.map (kv G))
    rw [kLv_args G h as]
    by_cases e : v.1 = 1
    · rw [if_pos e, if_pos (kv_cat2 G e)]; rfl
    · rw [if_neg e, if_neg (by rw [kv_cat1 G h e]; decide)]; rfl
theorem lsArgs_ge : ∀ (as : List qV) (p : Nat), ∀ q ∈ lsArgs p as, p ≤ q.1
  | [], p, q, h => by cases h
  | v :: as, p, q, h => by
    rcases List.mem_cons.mp (show q ∈ (p, v) :: lsArgs _ as from h) with rfl | h
    · exact Nat.le_refl _
    · have := lsArgs_ge as _ q h
      by_cases e : v.1 = 1
      · rw [if_pos e] at this; omega
      · rw [if_neg e] at this; omega
/-- the places that n arguments take, by what a start tells of them, are at most nL -/
def zwid (loc : List (Nat × qSV)) : Nat → Nat → Nat → Bool
  | 0, p, nL => Nat.ble p nL
  | n + 1, p, nL => match loc.find? (fun q => Nat.beq q.1 p) with
    | none => false
    | some q => zwid loc n (if q.2.1 = 1 then p + 2 else p + 1) nL
theorem zwid_ok (G : rGm) (h : ∀ i : Nat, G.2.2.2.1 i = .null ∨ ∃ a, G.2.2.2.1 i = .ref a) {loc : List (Nat × qSV)} {r : qW} {nL : Nat} : ∀ (as : List qV) (p : Nat), zwid loc as.length p nL = true → (∀ q ∈ loc.map (dloc r), p ≤ q.1 → q ∈ lsArgs p as) → p + (lg_sl (as.map (kv G))).length ≤ nL
  | [], p, hz, _ => Nat.ble_eq.mp hz
  | v :: as, p, hz, hm => by
    have hz' : (match loc.find? (fun q => Nat.beq q.1 p) with
      | none => false
      | some q => zwid loc as.length (if q.2.1 = 1 then p + 2 else p + 1) nL) = true := hz
    cases e : loc.find? (fun q => Nat.beq q.1 p) with
    | none => rw [e] at hz'; cases hz'
    | some q =>
      rw [e] at hz'
      have h1 : q.1 = p := Nat.eq_of_beq_eq_true (List.find?_some (p := fun q : Nat × qSV => Nat.beq q.1 p) e)
      have h2 := hm (dloc r q) (List.mem_map.mpr ⟨q, List.mem_of_find?_eq_some e, rfl⟩) (by show p ≤ q.1; omega)
      have h3 : (lsArgs p (v :: as)) = (p, v) :: lsArgs (if v.1 = 1 then p + 2 else p + 1) as := rfl
      rw [h3] at h2
      have h4 : qden r q.2 = v := by
        rcases List.mem_cons.mp h2 with h2 | h2
        · exact congrArg Prod.snd h2
        · have h5 := lsArgs_ge _ _ _ h2
          have h6 : (dloc r q).1 = q.1 := rfl
          rw [h6] at h5
          by_cases c : v.1 = 1
          · rw [if_pos c] at h5; omega
          · rw [if_neg c] at h5; omega
      have h5 : (v.1 = 1) ↔ (q.2.1 = 1) := by
        rw [← h4]
        unfold qden
        by_cases c : q.2.1 = 3
        · rw [if_pos c, c]
          show (0 : Nat) = 1 ↔ (3 : Nat) = 1
          omega
        · rw [if_neg c]
      have h6 : (if q.2.1 = 1 then p + 2 else p + 1) = (if v.1 = 1 then p + 2 else p + 1) := by
        by_cases c : v.1 = 1
        · rw [if_pos c, if_pos (h5.mp c)]
        · rw [if_neg c, if_neg (fun z => c (h5.mpr z))]
      have hz' : zwid loc as.length (if q.2.1 = 1 then p + 2 else p + 1) nL = true := hz'
      rw [h6] at hz'
      have ih := zwid_ok G h as _ hz' (fun q9 hq9 hp9 => by
        have h7 := hm q9 hq9 (by
          by_cases c : v.1 = 1
          · rw [if_pos c] at hp9; omega
          · rw [if_neg c] at hp9; omega)
        rw [h3] at h7
        rcases List.mem_cons.mp h7 with rfl | h7
        · exfalso
          have hp9 : (if v.1 = 1 then p + 2 else p + 1) ≤ p := hp9
          by_cases c : v.1 = 1
          · rw [if_pos c] at hp9; omega
          · rw [if_neg c] at hp9; omega
        · exact h7)
      rw [List.map_cons]
      unfold lg_sl at ih ⊢
      rw [List.flatMap_cons, List.length_append]
      by_cases c : v.1 = 1
      · rw [if_pos (kv_cat2 G c)]
        rw [if_pos c] at ih
        show p + (2 + _) ≤ nL
        omega
      · rw [if_neg (by rw [kv_cat1 G h c]; decide)]
        rw [if_neg c] at ih
        show p + (1 + _) ≤ nL
        omega
theorem k_sub {ls ls' : qLS} {st : List qV} {s : qSg} (h : lsSub ls' ls) (hV : kW g L cl fo zs rs ns Ts G l cc nL own ret fr lo n Qf pc ls' st s) : kW g L cl fo zs rs ns Ts G l cc nL own ret fr lo n Qf pc ls st s := fun p e R s0 m args below meth c X hq9 rl H locs hl hP hL => hV p e R s0 m args below meth c X hq9 rl H locs ⟨hl.1, hl.2.1, fun q hq => by
    obtain ⟨x, hx, rfl⟩ := List.mem_map.mp hq
    exact hl.2.2 _ (List.mem_map.mpr ⟨x, h x hx, rfl⟩)⟩ hP hL
/-- the method keeps contract C, wherever it begins as C tells -/
def kMet (g : qG) (L : kLay) (cl : List vw_C) (fo : List rCC) (zs : List (String × String × String × rCV)) (rs : List (String × Nat × String × Nat)) (ns : List Cond) (Ts : List Cond) (l : Launch) (y : MethodName) (bytes : ByteArray) (maxL : Nat) (ret : Option FieldType) (fr lo : Nat) (C : qCt) : Prop :=
  ∀ (G : rGm) (n : Nat) (s : qSg) (r : qW) (a : qX) (as : List qV), Typed g s → CtBeg g C as s r a →
    Met l y (.code y bytes maxL ret :: Ts) { frames := fr, cells := 0, slots := 0, locals := lo } (va_Pc (as.map (kv G)) (fun U => kPic g L cl fo G s n U.heap ∧ rKK cl fo zs rs ns G U)) (kQ g L cl fo zs rs ns G n (CtEnd g C r a s)) 0 0 (fun q => G.2.2.1 ≤ q)
theorem kmet_of {y : MethodName} {bytes : ByteArray} {maxL : Nat} {C : qCt} {cts : List qCt} {rI rJ : qRt} {rL : Nat → Option qRl} {code : qCd} {cuts : qCu} {fuel : Nat} {str : List Nat} (hy : plainName y.cls = true) (hg : gTags g) (hI : RtI rI) (hJ : RtJ rJ) (hL : ∀ n R, rL n = some R → RlOk R) (h : zchk g cts rI rJ rL code cuts C fuel str = true) (hw : zwid C.2.1.1 C.1 0 maxL = true)
    (hbody : ∀ (G : rGm) (n : Nat) (Rr : List qV → qSg → Prop), ∃ V : Nat → qP, VRule g cts code Rr V ∧ ∀ ls st s, V 0 ls st s → kW g L cl fo zs rs ns Ts G l bytes maxL y.cls ret fr lo n (kMQ g L cl fo zs rs ns G n Rr) 0 ls st s) : kMet g L cl fo zs rs ns Ts l y bytes maxL ret fr lo C := by
  intro G n s r a as hT hB
  refine Met.ofW (cc := bytes) (maxL := maxL) (ret := ret) hy rfl ?_
  intro p e s0 m args below meth c s₁ B hml hv
  obtain ⟨rfl, hP, hKK⟩ := hv
  have hts := atoms_spec (ws := .code y bytes maxL ret :: Ts) B.pre
  have ht : ∀ x ∈ c.exceptionTable.toList, False := by
    obtain ⟨meth9, c9, h1, h2, -, -, -, -, h7, -⟩ := Cond.code_spec B.named (hts _ List.mem_cons_self)
    cases Option.some.inj (h1.symm.trans B.method)
    cases Option.some.inj (h2.symm.trans (Stand.of_body B).code)
    intro x hx
    rw [Array.isEmpty_iff.mp h7] at hx
    cases hx
  obtain ⟨V, hV, hV0⟩ := hbody G n (CtEnd g C r a s)
  have hVV := hV0 _ _ _ (zchk_ok hg hI hJ hL h hV hT hB)
  obtain ⟨hlen, ls, hsub, hsat⟩ := hB
  have h3 := zwid_ok (r := r) G hKK.2.2.1 as 0 (by rw [hlen]; exact hw) (fun q hq _ => hsub q (by rw [hsat.now.1]; exact hq))
  rw [Nat.zero_add] at h3
  have hl := lv_entry (as.map (kv G)) (n := maxL) h3
  rw [lg_entry_eq]
  rw [← kLv_args G hKK.2.2.1] at hl
  exact hVV p e { frames := fr, cells := 0, slots := 0, locals := lo } s0 m (as.map (kv G)).toArray below meth c ⟨B.exec, B.bytes, hml, findClass_of_methodNamed B.named, fun q hq => hts q (List.mem_cons_of_mem _ hq), hKK, B.notSynchronized, ⟨Nat.le_trans (Nat.le_add_right _ _) hP.1, hP.2.1, fun _ => ht⟩, B.returns, (fun hi => Bool.noConfusion hi), rfl, rfl⟩ ⟨trivial, Nat.zero_le _, Nat.zero_le _⟩ _ s0.heap [] hl hP (fun x hx => by cases hx)
theorem kBlind (as : List Value) (s : qSg) (n : Nat) : FrameBlind (va_Pc as (fun U => kPic g L cl fo G s n U.heap ∧ rKK cl fo zs rs ns G U)) := fun a U g1 mk q => ⟨q.1, q.2.1, rKK.same (u := U) rfl q.2.2⟩
theorem ksum (G : rGm) (h : ∀ i : Nat, G.2.2.2.1 i = .null ∨ ∃ a, G.2.2.2.1 i = .ref a) : ∀ (st : List qV), (((st.map (kv G)).map fun v => v.category).sum) ≤ 2 * st.length
  | [] => Nat.le_refl _
  | v :: st => by
    rw [List.map_cons, List.map_cons, List.sum_cons, List.length_cons]
    have := ksum G h st
    have : (kv G v).category ≤ 2 := by
      by_cases e : v.1 = 1
      · rw [kv_cat2 G e]; exact Nat.le_refl _
      · rw [kv_cat1 G h e]; decide
    omega
/-- a call, from what the kit's rows of calls give -/
theorem k_call {C : qCt} {y : MethodName} {bytes : ByteArray} {maxL : Nat} {rt : Option FieldType} {fr' lo' : Nat} (hM : kMet g L cl fo zs rs ns Ts l y bytes maxL rt fr' lo' C)
    (hrun : ∀ (as st' : List qV) (s : qSg) (r : qW) (a : qX), CtBeg g C as s r a → st'.length ≤ 4 → ∀ (p : Program) (e : Env) (R : Room) (s0 : State) (m : MethodId) (args : Array Value) (below : List Frame) (meth : Method) (c : Code), rCx cl fo zs rs ns Ts G p R s0 m args meth c cc nL own ret false fr lo → ∀ (cells slots : Nat), cells ≤ R.cells → slots ≤ R.slots → ∀ (rl : Array Slot) (H : Heap) (locs : List Loc), rl.size = nL → kPic g L cl fo G s n H →
      Met l y (.code y bytes maxL rt :: Ts) { frames := fr', cells := 0, slots := 0, locals := lo' } (va_Pc (as.map (kv G)) (fun U => kPic g L cl fo G s n U.heap ∧ rKK cl fo zs rs ns G U)) (kQ g L cl fo zs rs ns G n (CtEnd g C r a s)) 0 0 (fun q => G.2.2.1 ≤ q) →
      va_Run p l e R s0 m args below meth c H locs cells slots 0 0 (F0 m pc rl ((as.reverse ++ st').map (kv G))) (st'.map (kv G)) (kQ g L cl fo zs rs ns G n (CtEnd g C r a s) (as.map (kv G)).toArray) (fun q => G.2.2.1 ≤ q)) :
    ∀ ls st s, wCall g C (kW g L cl fo zs rs ns Ts G l cc nL own ret fr lo n Qf (pc + 3)) ls st s → kW g L cl fo zs rs ns Ts G l cc nL own ret fr lo n Qf pc ls st s := by
  rintro ls st s ⟨as, st', r, a, rfl, hB, hlen, hT, hV⟩ p e R s0 m args below meth c X hq9 rl H locs hl hP hL
  have hr := hrun as st' s r a hB hlen p e R s0 m args below meth c X _ _ hq9.2.1 hq9.2.2 rl H locs hl.1 hP (hM G n s r a as hT hB)
  intro T hT0 Xs
  obtain ⟨v, st₀, t, T', L9, k0, X', hL', e1, e2, ⟨res, s', g1, g2, g3, g4, g5⟩, go⟩ := hr T hT0 Xs
  have hW := hV res s' g3 p e R s0 m args below meth c X hq9 rl T'.heap (locs ++ L9) hl (by rw [e1]; exact g4) (fun x hx => by
    rcases List.mem_append.mp hx with z | z
    · exact hL x z
    · exact hL' x z)
  obtain ⟨t2, a1, b3⟩ := hW T' rfl X'
  have e9 : v.toList ++ st'.map (kv G) = (res ++ st').map (kv G) := by
    cases g1
    cases res with
    | nil => rfl
    | cons x xs =>
      cases xs with
      | nil => rfl
      | cons y ys => exact absurd g2 (by simp)
  rw [e9] at go
  exact ⟨t2, go t2 a1, b3⟩
/-- a call's receiver -/
theorem kbeg_recv {C : qCt} {as : List qV} {s : qSg} {r : qW} {a : qX} (hB : CtBeg g C as s r a) {z : Int} {f2 : qL} (h : (0, (2, ((z, []), f2))) ∈ C.2.1.1) {na : Nat} (hn : C.1 = na + 1) : ∃ as', as = (2, z) :: as' ∧ as'.length = na := by
  obtain ⟨hlen, ls, hsub, hsat⟩ := hB
  have h1 := hsub (0, (2, z)) (by
    rw [hsat.now.1]
    refine List.mem_map.mpr ⟨_, h, ?_⟩
    show (0, qden r (2, ((z, []), f2))) = (0, (2, z))
    unfold qden
    rw [if_neg (show ¬ (2 : Nat) = 3 by decide)]
    show (0, (2, qe r (z, []))) = _
    rw [show qe r (z, []) = z from qC_ev r z])
  cases as with
  | nil => cases h1
  | cons v as' =>
    have h3 : (lsArgs 0 (v :: as')) = (0, v) :: lsArgs (if v.1 = 1 then 0 + 2 else 0 + 1) as' := rfl
    rw [h3] at h1
    rcases List.mem_cons.mp h1 with h1 | h1
    · have : v = (2, z) := (congrArg Prod.snd h1).symm
      subst this
      exact ⟨as', rfl, by rw [List.length_cons] at hlen; omega⟩
    · have h5 := lsArgs_ge _ _ _ h1
      exfalso
      have h5 : (if v.1 = 1 then 0 + 2 else 0 + 1) ≤ 0 := h5
      by_cases c : v.1 = 1
      · rw [if_pos c] at h5; omega
      · rw [if_neg c] at h5; omega
theorem kPic.recv {s : qSg} {s0 : State} {H : Heap} (hK : rKK cl fo zs rs ns G s0) (hP : kPic g L cl fo G s n H) {k ci : Nat} {fs : List (Nat ⊕ Int)} (hx : (k, ci, fs) ∈ L.1) {C : String} {T : u_T} {N : Nat} (hc : cl[ci]? = some (C, T, N)) : ∃ cellB : Cell, H[G.2.2.1 + k]? = some cellB ∧ cellB.vm.isStatics = false ∧ s0.vm.findClass C = some cellB.cls := by
  obtain ⟨-, r0, hr0, cell, d1, d2, d3, d4⟩ := hP.2.2.1 _ hx
  exact ⟨cell, d1, by rw [d3]; rfl, by rw [d2]; exact (hK.1.1 ci _ hc).2.1⟩
theorem k_callV {C9 : qCt} {y : MethodName} {bytes : ByteArray} {maxL : Nat} {rt : Option FieldType} {fr' lo' ix : Nat} (na : Nat) (k ci : Nat) {fs : List (Nat ⊕ Int)} (hx : (k, ci, fs) ∈ L.1) {C : String} {T : u_T} {N : Nat} (hc : cl[ci]? = some (C, T, N)) {f2 : qL} (hbeg : (0, (2, ((2 * (k : Int) + 1, []), f2))) ∈ C9.2.1.1) (hn : C9.1 = na + 1) (hM : kMet g L cl fo zs rs ns Ts l y bytes maxL rt fr' lo' C9) (hg : ∀ w ∈ Ts, goodWord w = true)
    (w1 : Cond.methodLink own ix y ∈ Ts) (w2 : Cond.instanceMethod y ∈ Ts) (w3 : Cond.selects C y y ∈ Ts) (w4 : Cond.initialized C ∈ Ts) (w5 : Cond.code y bytes maxL rt ∈ Ts) (hd0 : y.cls = C ∧ y.cls ≠ "java/lang/invoke/MethodHandle" ∧ y.cls ≠ "java/lang/invoke/VarHandle" ∧ (parseMethodDescriptor y.desc).map (fun d => d.parameters.length) = some na) (hf : fr' + 1 ≤ fr) (hlo : 8 + (maxL + 11) + lo' ≤ lo)
    (hd : decode cc pc = .ok (.invokevirtual ix, 3)) : ∀ ls st s, wCall g C9 (kW g L cl fo zs rs ns Ts G l cc nL own ret fr lo n Qf (pc + 3)) ls st s → kW g L cl fo zs rs ns Ts G l cc nL own ret fr lo n Qf pc ls st s := by
  apply k_call hM
  intro as st' s r a hB hlen p e R s0 m args below meth c X cells slots hcR hsR rl H locs hsz hP hMet
  obtain ⟨as', rfl, h1⟩ := kbeg_recv hB hbeg hn
  obtain ⟨cellB, g1, g2, g3⟩ := hP.recv X.2.2.2.2.2.1 hx hc
  have hG : GoodIn Ts (wsV own ix C y (.code y bytes maxL rt :: Ts)) := good_in hg (fun z hz => by
    unfold wsV at hz
    simp only [List.mem_append, List.mem_cons, List.not_mem_nil, or_false] at hz
    rcases hz with (rfl | rfl | rfl | rfl) | rfl | hz
    · exact w1
    · exact w2
    · exact w3
    · exact w4
    · exact w5
    · exact hz)
  have hS : CallFix p m c cc nL s0 args Ts own := ⟨X.1, X.2.1, X.2.2.1, X.2.2.2.1, X.2.2.2.2.1⟩
  have hR1 := X.2.2.2.2.2.2.2.2.2.2.1
  have hR2 := X.2.2.2.2.2.2.2.2.2.2.2
  have hsm := ksum G X.2.2.2.2.2.1.2.2.1 st'
  have e1 : (as'.map (kv G)).length = na := by rw [List.length_map]; exact h1
  have hb : kv G (2, 2 * (k : Int) + 1) = .ref (G.2.2.1 + k) := kv_ref G k
  have e2 : (((2, 2 * (k : Int) + 1) :: as').reverse ++ st').map (kv G) = (as'.map (kv G)).reverse ++ .ref (G.2.2.1 + k) :: st'.map (kv G) := by simp [hb]
  have e3 : ((2, 2 * (k : Int) + 1) :: as').map (kv G) = .ref (G.2.2.1 + k) :: as'.map (kv G) := by simp [hb]
  rw [e3] at hMet ⊢
  rw [e2]
  exact va_runV (As := as'.map (kv G)) (rest := st'.map (kv G)) hS hMet (cwV na X.2.2.2.2.1 hG rfl rfl rfl hd0 ⟨by rw [hR1]; exact hf, by rw [hR2]; exact hlo⟩) ⟨kBlind _ _ _, ⟨cellB, g1, g2, g3⟩, fun U hU hW => ⟨rfl, by rw [hU]; exact hP, X.2.2.2.2.2.1.warm hW⟩⟩ rfl e1 hsz rfl (lv_room (by omega)) hd ⟨hcR, hsR⟩
theorem k_callVN {C9 : qCt} {y : MethodName} {bytes : ByteArray} {maxL : Nat} {rt : Option FieldType} {fr' lo' ix : Nat} (na : Nat) (k ci : Nat) {fs : List (Nat ⊕ Int)} (hx : (k, ci, fs) ∈ L.1) {C : String} {T : u_T} {N : Nat} (hc : cl[ci]? = some (C, T, N)) {f2 : qL} (hbeg : (0, (2, ((2 * (k : Int) + 1, []), f2))) ∈ C9.2.1.1) (hn : C9.1 = na + 1) (hM : kMet g L cl fo zs rs ns Ts l y bytes maxL rt fr' lo' C9) (hg : ∀ w ∈ Ts, goodWord w = true)
    {host : String} (w1 : Cond.methodLinkNest own ix y host ∈ ns) (w2 : Cond.instanceMethod y ∈ Ts) (w3 : Cond.selects C y y ∈ Ts) (w4 : Cond.initialized y.cls ∈ Ts) (w5 : Cond.code y bytes maxL rt ∈ Ts) (hd0 : y.cls ≠ "java/lang/invoke/MethodHandle" ∧ y.cls ≠ "java/lang/invoke/VarHandle" ∧ (parseMethodDescriptor y.desc).map (fun d => d.parameters.length) = some na) (hf : fr' + 1 ≤ fr) (hlo : 8 + (maxL + 11) + lo' ≤ lo)
    (hd : decode cc pc = .ok (.invokevirtual ix, 3)) : ∀ ls st s, wCall g C9 (kW g L cl fo zs rs ns Ts G l cc nL own ret fr lo n Qf (pc + 3)) ls st s → kW g L cl fo zs rs ns Ts G l cc nL own ret fr lo n Qf pc ls st s := by
  apply k_call hM
  intro as st' s r a hB hlen p e R s0 m args below meth c X cells slots hcR hsR rl H locs hsz hP hMet
  obtain ⟨as', rfl, h1⟩ := kbeg_recv hB hbeg hn
  obtain ⟨cellB, g1, g2, g3⟩ := hP.recv X.2.2.2.2.2.1 hx hc
  have hG : GoodIn Ts (.code y bytes maxL rt :: Ts) := good_in hg (fun z hz => by
    rcases List.mem_cons.mp hz with rfl | hz
    · exact w5
    · exact hz)
  have hS : CallFix p m c cc nL s0 args Ts own := ⟨X.1, X.2.1, X.2.2.1, X.2.2.2.1, X.2.2.2.2.1⟩
  have hR1 := X.2.2.2.2.2.2.2.2.2.2.1
  have hR2 := X.2.2.2.2.2.2.2.2.2.2.2
  have hsm := ksum G X.2.2.2.2.2.1.2.2.1 st'
  have e1 : (as'.map (kv G)).length = na := by rw [List.length_map]; exact h1
  have hb : kv G (2, 2 * (k : Int) + 1) = .ref (G.2.2.1 + k) := kv_ref G k
  have e2 : (((2, 2 * (k : Int) + 1) :: as').reverse ++ st').map (kv G) = (as'.map (kv G)).reverse ++ .ref (G.2.2.1 + k) :: st'.map (kv G) := by simp [hb]
  have e3 : ((2, 2 * (k : Int) + 1) :: as').map (kv G) = .ref (G.2.2.1 + k) :: as'.map (kv G) := by simp [hb]
  rw [e3] at hMet ⊢
  rw [e2]
  exact va_runVN (As := as'.map (kv G)) (rest := st'.map (kv G)) hS hMet ⟨va_cnB na X.2.2.2.2.1 hG rfl rfl rfl (X.2.2.2.2.2.1.2.1.2 _ w1).1 (X.2.2.2.2.1 _ w4) hd0 ⟨by rw [hR1]; exact hf, by rw [hR2]; exact hlo⟩, X.2.2.2.2.1 _ w2, X.2.2.2.2.1 _ w3⟩ ⟨kBlind _ _ _, ⟨cellB, g1, g2, g3⟩, fun U hU hW => ⟨rfl, by rw [hU]; exact hP, X.2.2.2.2.2.1.warm hW⟩⟩ rfl e1 hsz rfl (lv_room (by omega)) hd ⟨hcR, hsR⟩
theorem k_callU {C9 : qCt} {y : MethodName} {bytes : ByteArray} {maxL : Nat} {rt : Option FieldType} {fr' lo' ix : Nat} (na : Nat) (k ci : Nat) {fs : List (Nat ⊕ Int)} (hx : (k, ci, fs) ∈ L.1) {C : String} {T : u_T} {N : Nat} (hc : cl[ci]? = some (C, T, N)) {f2 : qL} (hbeg : (0, (2, ((2 * (k : Int) + 1, []), f2))) ∈ C9.2.1.1) (hn : C9.1 = na + 1) (hM : kMet g L cl fo zs rs ns Ts l y bytes maxL rt fr' lo' C9) (hg : ∀ w ∈ Ts, goodWord w = true)
    {x : MethodName} {owner : String} (w1 : Cond.methodLink own ix x ∈ Ts) (w2 : Cond.sameMethod x.cls owner x.name x.desc ∈ Ts) (w3 : Cond.selects C x y ∈ Ts) (w4 : Cond.instanceMethod y ∈ Ts) (w6 : Cond.initialized y.cls ∈ Ts) (w5 : Cond.code y bytes maxL rt ∈ Ts) (hyx : y = ⟨owner, x.name, x.desc⟩) (hd0 : owner ≠ "java/lang/invoke/MethodHandle" ∧ owner ≠ "java/lang/invoke/VarHandle" ∧ (parseMethodDescriptor x.desc).map (fun d => d.parameters.length) = some na) (hf : fr' + 1 ≤ fr) (hlo : 8 + (maxL + 11) + lo' ≤ lo)
    (hd : decode cc pc = .ok (.invokevirtual ix, 3)) : ∀ ls st s, wCall g C9 (kW g L cl fo zs rs ns Ts G l cc nL own ret fr lo n Qf (pc + 3)) ls st s → kW g L cl fo zs rs ns Ts G l cc nL own ret fr lo n Qf pc ls st s := by
  apply k_call hM
  intro as st' s r a hB hlen p e R s0 m args below meth c X cells slots hcR hsR rl H locs hsz hP hMet
  obtain ⟨as', rfl, h1⟩ := kbeg_recv hB hbeg hn
  obtain ⟨cellB, g1, g2, g3⟩ := hP.recv X.2.2.2.2.2.1 hx hc
  have hG : GoodIn Ts (va_wsU own ix C owner x y (.code y bytes maxL rt :: Ts)) := good_in hg (fun z hz => by
    unfold va_wsU at hz
    simp only [List.mem_append, List.mem_cons, List.not_mem_nil, or_false] at hz
    rcases hz with (rfl | rfl | rfl | rfl | rfl) | rfl | hz
    · exact w1
    · exact w2
    · exact w3
    · exact w4
    · exact w6
    · exact w5
    · exact hz)
  have hS : CallFix p m c cc nL s0 args Ts own := ⟨X.1, X.2.1, X.2.2.1, X.2.2.2.1, X.2.2.2.2.1⟩
  have hR1 := X.2.2.2.2.2.2.2.2.2.2.1
  have hR2 := X.2.2.2.2.2.2.2.2.2.2.2
  have hsm := ksum G X.2.2.2.2.2.1.2.2.1 st'
  have e1 : (as'.map (kv G)).length = na := by rw [List.length_map]; exact h1
  have hb : kv G (2, 2 * (k : Int) + 1) = .ref (G.2.2.1 + k) := kv_ref G k
  have e2 : (((2, 2 * (k : Int) + 1) :: as').reverse ++ st').map (kv G) = (as'.map (kv G)).reverse ++ .ref (G.2.2.1 + k) :: st'.map (kv G) := by simp [hb]
  have e3 : ((2, 2 * (k : Int) + 1) :: as').map (kv G) = .ref (G.2.2.1 + k) :: as'.map (kv G) := by simp [hb]
  rw [e3] at hMet ⊢
  rw [e2]
  exact va_runU (As := as'.map (kv G)) (rest := st'.map (kv G)) hS hMet (va_cwU na X.2.2.2.2.1 hG rfl rfl rfl hyx hd0 ⟨by rw [hR1]; exact hf, by rw [hR2]; exact hlo⟩) ⟨kBlind _ _ _, ⟨cellB, g1, g2, g3⟩, fun U hU hW => ⟨rfl, by rw [hU]; exact hP, X.2.2.2.2.2.1.warm hW⟩⟩ rfl e1 hsz rfl (lv_room (by omega)) hd ⟨hcR, hsR⟩
theorem k_callS {C9 : qCt} {y : MethodName} {bytes : ByteArray} {maxL : Nat} {rt : Option FieldType} {fr' lo' ix : Nat} (na : Nat) (hn : C9.1 = na) (hM : kMet g L cl fo zs rs ns Ts l y bytes maxL rt fr' lo' C9) (hg : ∀ w ∈ Ts, goodWord w = true)
    (w1 : Cond.methodLink own ix y ∈ Ts) (w2 : Cond.static y ∈ Ts) (w4 : Cond.initialized y.cls ∈ Ts) (w5 : Cond.code y bytes maxL rt ∈ Ts) (hd0 : y.cls ≠ "java/lang/invoke/MethodHandle" ∧ y.cls ≠ "java/lang/invoke/VarHandle" ∧ (parseMethodDescriptor y.desc).map (fun d => d.parameters.length) = some na) (hf : fr' + 1 ≤ fr) (hlo : 8 + (maxL + 11) + lo' ≤ lo)
    (hd : decode cc pc = .ok (.invokestatic ix, 3)) : ∀ ls st s, wCall g C9 (kW g L cl fo zs rs ns Ts G l cc nL own ret fr lo n Qf (pc + 3)) ls st s → kW g L cl fo zs rs ns Ts G l cc nL own ret fr lo n Qf pc ls st s := by
  apply k_call hM
  intro as st' s r a hB hlen p e R s0 m args below meth c X cells slots hcR hsR rl H locs hsz hP hMet
  have hG : GoodIn Ts (.code y bytes maxL rt :: Ts) := good_in hg (fun z hz => by
    rcases List.mem_cons.mp hz with rfl | hz
    · exact w5
    · exact hz)
  have hS : CallFix p m c cc nL s0 args Ts own := ⟨X.1, X.2.1, X.2.2.1, X.2.2.2.1, X.2.2.2.2.1⟩
  have hR1 := X.2.2.2.2.2.2.2.2.2.2.1
  have hR2 := X.2.2.2.2.2.2.2.2.2.2.2
  have hsm := ksum G X.2.2.2.2.2.1.2.2.1 st'
  have e2 : (as.reverse ++ st').map (kv G) = (as.map (kv G)).reverse ++ st'.map (kv G) := by simp
  rw [e2]
  exact va_runS (As := as.map (kv G)) (rest := st'.map (kv G)) hS hMet ⟨callB_of na X.2.2.2.2.1 hG rfl rfl rfl (X.2.2.2.2.1 _ w4) (X.2.2.2.2.1 _ w1) hd0 ⟨by rw [hR1]; exact hf, by rw [hR2]; exact hlo⟩, X.2.2.2.2.1 _ w2⟩ ⟨kBlind _ _ _, fun U hU hW => ⟨rfl, by rw [hU]; exact hP, X.2.2.2.2.2.1.warm hW⟩⟩ rfl (by rw [List.length_map, ← hn]; exact hB.1) hsz rfl (lv_room (by omega)) hd ⟨hcR, hsR⟩
end KR
