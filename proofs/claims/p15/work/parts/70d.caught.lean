/-! THE LAW'S HELPERS: a call that may throw, caught -/
section KR
variable {g : qG} {L : kLay} {cl : List vw_C} {fo : List rCC} {zs : List (String × String × String × rCV)} {rs : List (String × Nat × String × Nat)} {ns : List Cond} {Ts : List Cond} {G : rGm}
variable {l : Launch} {cc : ByteArray} {nL n : Nat} {own : String} {pc : Nat} {ret : Option FieldType} {fr lo : Nat}
variable {p : Program} {e : Env} {R : Room} {s0 : State} {m : MethodId} {args : Array Value} {below : List Frame} {meth : Method} {c : Code} {H : Heap} {locs : List Loc} {rl : Array Slot}
theorem w_callX {C9 : qCt} {EX : String → Prop} {y : MethodName} {bytes : ByteArray} {maxL : Nat} {rt : Option FieldType} {fr' lo' ix : Nat} (na k ci : Nat) {fs : List (Nat ⊕ Int)} (hx : (k, ci, fs) ∈ L.1) {C : String} {T : u_T} {N : Nat} (hc : cl[ci]? = some (C, T, N)) {f2 : qL} (hbeg : (0, (2, ((2 * (k : Int) + 1, []), f2))) ∈ C9.2.1.1) (hn : C9.1 = na + 1) (hM : kMetX g L cl fo zs rs ns Ts l y bytes maxL rt fr' lo' C9 EX) (hg : ∀ w ∈ Ts, goodWord w = true)
    (w1 : Cond.methodLink own ix y ∈ Ts) (w2 : Cond.instanceMethod y ∈ Ts) (w3 : Cond.selects C y y ∈ Ts) (w4 : Cond.initialized C ∈ Ts) (w5 : Cond.code y bytes maxL rt ∈ Ts) (hd0 : y.cls = C ∧ y.cls ≠ "java/lang/invoke/MethodHandle" ∧ y.cls ≠ "java/lang/invoke/VarHandle" ∧ (parseMethodDescriptor y.desc).map (fun d => d.parameters.length) = some na) (hf : fr' + 1 ≤ fr) (hlo : 8 + (maxL + 11) + lo' ≤ lo)
    {as st' : List qV} {s : qSg} {r : qW} {a : qX} (hT : Typed g s) (hB : CtBeg g C9 as s r a) (hlen : st'.length ≤ 4) (X : rCx cl fo zs rs ns Ts G p R s0 m args meth c cc nL own ret false fr lo) (hsz : rl.size = nL) (hP : kPic g L cl fo G s n H) (q1 : 1 ≤ R.cells) (q2 : 6 ≤ R.slots) (hd : decode cc pc = .ok (.invokevirtual ix, 3)) :
    vx_Run p l e R s0 m args below meth c H locs 0 0 1 6 (F0 m pc rl ((as.reverse ++ st').map (kv G))) (st'.map (kv G)) (kQ g L cl fo zs rs ns G n (fun res s' => (∃ v, res = [v]) ∧ CtEnd g C9 r a s res s') (as.map (kv G)).toArray) (kXC g L cl fo G n (fun E s' => EX E ∧ CtEnd g C9 r a s [] s')) (fun q => G.2.2.1 ≤ q) := by
  have hMet := hM G n s r a as hT hB
  obtain ⟨as', rfl, h1⟩ := kbeg_recv hB hbeg hn
  obtain ⟨cellB, g1, g2, g3⟩ := hP.recv X.2.2.2.2.2.1 hx hc
  have hG : GoodIn Ts (wsV own ix C y (.code y bytes maxL rt :: Ts)) := good_in hg (fun z hz => by
    unfold wsV at hz
    simp only [List.mem_append, List.mem_cons, List.not_mem_nil, or_false] at hz
    rcases hz with (rfl | rfl | rfl | rfl) | rfl | hz
    · exact w1
    · exact w2
    · exact w3
    · exact w4
    · exact w5
    · exact hz)
  have hS : CallFix p m c cc nL s0 args Ts own := ⟨X.1, X.2.1, X.2.2.1, X.2.2.2.1, X.2.2.2.2.1⟩
  have hR1 := X.2.2.2.2.2.2.2.2.2.2.1
  have hR2 := X.2.2.2.2.2.2.2.2.2.2.2
  have hsm := ksum G X.2.2.2.2.2.1.2.2.1 st'
  have e1 : (as'.map (kv G)).length = na := by rw [List.length_map]; exact h1
  have hb : kv G (2, 2 * (k : Int) + 1) = .ref (G.2.2.1 + k) := kv_ref G k
  have e2 : (((2, 2 * (k : Int) + 1) :: as').reverse ++ st').map (kv G) = (as'.map (kv G)).reverse ++ .ref (G.2.2.1 + k) :: st'.map (kv G) := by simp [hb]
  have e3 : ((2, 2 * (k : Int) + 1) :: as').map (kv G) = .ref (G.2.2.1 + k) :: as'.map (kv G) := by simp [hb]
  rw [e3] at hMet ⊢
  rw [e2]
  exact vx_runV (As := as'.map (kv G)) (rest := st'.map (kv G)) hS hMet (cwV na X.2.2.2.2.1 hG rfl rfl rfl hd0 ⟨by rw [hR1]; exact hf, by rw [hR2]; exact hlo⟩) ⟨kBlind _ _ _, ⟨cellB, g1, g2, g3⟩, fun U hU hW => ⟨rfl, by rw [hU]; exact hP, X.2.2.2.2.2.1.warm hW⟩⟩ rfl e1 hsz rfl (lv_room (by omega)) hd ⟨by omega, by omega⟩
theorem w_both {RR : List qV → qSg → Prop} {RX : String → qSg → Prop} {A : Array Value} {rest st0 : List Value} {Q : State → Prop} (hr : vx_Run p l e R s0 m args below meth c H locs 0 0 1 6 (F0 m pc rl st0) rest (kQ g L cl fo zs rs ns G n RR A) (kXC g L cl fo G n RX) (fun q => G.2.2.1 ≤ q)) (hown : s0.vm.findClass own = some m.cls)
    (hret : ∀ res s1, RR res s1 → ∀ (H' : Heap) (L' : List Loc), kPic g L cl fo G s1 n H' → (∀ z ∈ L', G.2.2.1 ≤ z.base) → W p l e R s0 m args below meth c H' (locs ++ L') 1 6 Q (F0 m (pc + 3) rl (res.map (kv G) ++ rest)))
    (hthr : ∀ E s1, RX E s1 → ∃ (pre : List ExceptionTableEntry) (x : ExceptionTableEntry) (suf : List ExceptionTableEntry) (name : String), c.exceptionTable.toList = pre ++ x :: suf ∧ (∀ z ∈ pre, covers z pc = false ∨ (z.catchType ≠ 0 ∧ ∃ nm : String, (Cond.classLink own z.catchType nm).before args s0 = true ∧ va_Nc E nm s0)) ∧ covers x pc = true ∧ x.catchType ≠ 0 ∧ (Cond.classLink own x.catchType name).before args s0 = true ∧ (Cond.castable E name).before args s0 = true ∧
      ∀ (H' : Heap) (L' : List Loc) (qa : Nat), kPic g L cl fo G s1 n H' → (∀ z ∈ L', G.2.2.1 ≤ z.base) → W p l e R s0 m args below meth c H' (locs ++ L') 1 6 Q (F0 m x.handlerPc rl [.ref qa])) : W p l e R s0 m args below meth c H locs 0 0 Q (F0 m pc rl st0) := by
  intro T hT Xs
  rcases hr T hT Xs with ⟨v, st₀, t, T', L', k0, X', hL', e1, e2, ⟨res, s', g1, g2, g3, g4, g5⟩, go⟩ | ⟨qa, st₀, t, T', L', E, ce, k0, X', hL', e1, e2, ⟨s1, hR, hPic⟩, hce, hcv, hcl, stp⟩
  · have hW := hret res s' g3 T'.heap L' (by rw [e1]; exact g4) hL'
    obtain ⟨t2, a1, b3⟩ := hW T' rfl X'
    have e9 : v.toList ++ rest = res.map (kv G) ++ rest := by
      cases g1
      cases res with
      | nil => rfl
      | cons x xs =>
        cases xs with
        | nil => rfl
        | cons y ys => exact absurd g2 (by simp)
    rw [e9] at go
    exact ⟨t2, go t2 a1, b3⟩
  · obtain ⟨pre, x, suf, name, h1, h2, h3, h4, h5, h6, kk⟩ := hthr E s1 hR
    have hk := kk T'.heap L' qa (by rw [e1]; exact hPic) hL'
    obtain ⟨t2, a1, b1⟩ := vx_catch (rest := rest) hown pre x suf h1 h2 h3 h4 h5 h6 (by rw [e1]; exact hce) hcv hcl hk T' rfl X'
    exact ⟨t2, stp.trans a1, b1⟩
/-- a helper that keeps its contract: by its own table of exceptions it always returns -/
def kMetH (g : qG) (L : kLay) (cl : List vw_C) (fo : List rCC) (zs : List (String × String × String × rCV)) (rs : List (String × Nat × String × Nat)) (ns : List Cond) (Ts : List Cond) (l : Launch) (y : MethodName) (bytes : ByteArray) (maxL : Nat) (hh : List (Nat × Nat × Nat × Nat)) (fr lo : Nat) (C : qCt) (as : List qV) : Prop :=
  ∀ (G : rGm) (n : Nat) (s : qSg) (r : qW) (a : qX), Typed g s → CtBeg g C as s r a →
    Met l y (.codeWith y bytes maxL (some .int) hh :: Ts) { frames := fr, cells := 1, slots := 6, locals := lo } (va_Pc (as.map (kv G)) (fun U => kPic g L cl fo G s n U.heap ∧ rKK cl fo zs rs ns G U ∧ va_Nc "java/lang/IllegalStateException" "java/lang/IllegalArgumentException" U)) (kQ g L cl fo zs rs ns G n (CtEnd g C r a s)) 1 6 (fun q => G.2.2.1 ≤ q)
/-- where one more cell was made -/
abbrev kHQ (g : qG) (L : kLay) (cl : List vw_C) (fo : List rCC) (zs : List (String × String × String × rCV)) (rs : List (String × Nat × String × Nat)) (ns : List Cond) (G : rGm) (n : Nat) (R : List qV → qSg → Prop) : kQf := (fun _ => True, ((1, 6), fun below args s => MQ below (kQ g L cl fo zs rs ns G n R) args s 1 6 (fun q => G.2.2.1 ≤ q)))
theorem yEh_h {Rr : List qV → qSg → Prop} (hr : ret ≠ none) : yEh (kW g L cl fo zs rs ns Ts G l cc nL own ret fr lo n (kHQ g L cl fo zs rs ns G n Rr)) cc ret Rr := by
  refine ⟨fun h => absurd h hr, fun ty lo1 hi1 hr hn pc hd V j1 j2 k1 k2 => ?_, fun hr lo1 hi1 pc hd V j1 j2 k1 k2 => ?_⟩
  · rintro ls st s ⟨z, a, b, rfl, h1, h2, h3, hRr⟩ p e R9 s0 m args below meth c X hR9 rl H locs hl hP hL
    cases h1
    exact W.zret X.1 X.2.1 (X.2.2.2.2.2.2.2.2.1.trans hr) (hn z h2 h3) (fun t ht hW => ⟨[(0, z)], s, rfl, Nat.le_refl _, hRr, by rw [ht]; exact hP, X.2.2.2.2.2.1.warm hW⟩) hL hd X.2.2.2.2.2.2.1
  · rintro ls st s ⟨z, a, b, rfl, h1, h2, h3, hRr⟩ p e R9 s0 m args below meth c X hR9 rl H locs hl hP hL
    exact W.lret X.1 X.2.1 (X.2.2.2.2.2.2.2.2.1.trans hr) (fun t ht hW => ⟨[(1, z)], s, rfl, Nat.le_refl _, hRr, by rw [ht]; exact hP, X.2.2.2.2.2.1.warm hW⟩) hL hd X.2.2.2.2.2.2.1
end KR
/-- the same end, with a plain answer -/
def kHx (v : Int) (x : qS) : qS := (x.1, ([(0, ((v, []), (0, [])))], x.2.2))
section
variable {g : qG} {C C' : qCt} {r : qW} {a : qX} {s s1 : qSg}
theorem Typed.up0 {x : qBI} {c : Int × Int} {b : Nat} {z : Int} (h : Typed g s) (hx : g[b]? = some x) (hc : x.2.2.2.2 = [c]) (h1 : c.1 ≤ z) (h2 : z ≤ c.2) : Typed g (qUp s b 0 z) := by
  intro b' y hy i hi0 hi1
  by_cases e : b' = b ∧ i = 0
  · obtain ⟨rfl, rfl⟩ := e
    cases Option.some.inj (hx.symm.trans hy)
    refine ⟨c, by rw [hc]; exact colAt_s c 0, ?_⟩
    unfold qUp
    rw [if_pos ⟨rfl, rfl⟩]
    exact ⟨h1, h2⟩
  · obtain ⟨c9, q1, q2⟩ := h b' y hy i hi0 hi1
    refine ⟨c9, q1, ?_⟩
    unfold qUp
    rw [if_neg e]
    exact q2
/-- the known of the start is the same, the ends are there with their plain answers, what may be written is more -/
theorem kHend {b : Nat} {v : Int} {res : List qV} {s2 : qSg} (hE : CtEnd g C r a s res s1) (hT : Typed g s2) (hs : ∀ b', b' ≠ b → s2 b' = s1 b') (hn : C'.2.1.2.2.2 = C.2.1.2.2.2) (hmd : ∀ b' : Nat, b' ∈ C.2.2.2 → b' ∈ C'.2.2.2) (hb : b ∈ C'.2.2.2)
    (hm : C.2.2.1.all (fun x => x.2.2.1.1.all (fun q => !(q.1 == b)) && x.2.2.1.2.all (fun q => !(q.1 == b))) = true) (hx : ∀ x ∈ C.2.2.1, x.2.1.length = res.length → kHx v x ∈ C'.2.2.1) : CtEnd g C' r a s [(0, v)] s2 := by
  obtain ⟨-, h2, x, hx0, r', a', h3, h4, hS⟩ := hE
  refine ⟨hT, fun b' hb' => ?_, kHx v x, hx x hx0 (by rw [hS.now.2.1, List.length_map]), r', a', by rw [hn]; exact h3, by rw [hn]; exact h4, ?_⟩
  · rw [hs b' (fun e => hb' (by rw [e]; exact hb)), h2 b' (fun q => hb' (hmd b' q))]
  · have hm := List.all_eq_true.mp hm x hx0
    rw [Bool.and_eq_true, List.all_eq_true, List.all_eq_true] at hm
    obtain ⟨m1, m2⟩ := hm
    refine hS.to x.1 [(0, ((v, []), (0, [])))] x.2.2.1 (fun r9 a9 hC => ⟨hC.1, ?_, fun q hq => ?_, fun q hq i => ?_⟩)
    · show [(0, v)] = [qden r9 (0, ((v, []), (0, [])))]
      unfold qden
      rw [if_neg (show ¬ (0 : Nat) = 3 by decide)]
      show _ = [(0, qe r9 (v, []))]
      rw [show qe r9 (v, []) = v from qC_ev r9 v]
    · have := m1 q hq
      rw [hs q.1 (by simpa using this)]
      exact hC.2.2.1 q hq
    · have := m2 q hq
      rw [hs q.1 (by simpa using this)]
      exact hC.2.2.2.1 q hq i
theorem lsArgs_ap : ∀ (as : List qV) (o : qV) (p : Nat), ∀ q ∈ lsArgs p (as ++ [o]), q ∈ lsArgs p as ∨ p + as.length ≤ q.1
  | [], o, p, q, h => by
    rcases List.mem_cons.mp (show q ∈ (p, o) :: lsArgs _ [] from h) with rfl | h
    · exact Or.inr (Nat.le_refl _)
    · cases h
  | v :: as, o, p, q, h => by
    rcases List.mem_cons.mp (show q ∈ (p, v) :: lsArgs (if v.1 = 1 then p + 2 else p + 1) (as ++ [o]) from h) with rfl | h
    · exact Or.inl (List.mem_cons_self)
    · rcases lsArgs_ap as o _ q h with h | h
      · exact Or.inl (List.mem_cons_of_mem _ h)
      · refine Or.inr ?_
        rw [List.length_cons]
        by_cases e : v.1 = 1
        · rw [if_pos e] at h; omega
        · rw [if_neg e] at h; omega
theorem kHbeg {as : List qV} {o : qV} {x : Nat × qSV} (hB : CtBeg g C' (as ++ [o]) s r a) (h1 : C'.1 = C.1 + 1) (h2 : C'.2.1 = (C.2.1.1 ++ [x], C.2.1.2)) (h3 : C.2.1.1.all (fun q => Nat.blt q.1 C.1) = true) : CtBeg g C as s r a := by
  obtain ⟨hlen, ls, hsub, hS⟩ := hB
  have hl : as.length = C.1 := by rw [List.length_append] at hlen; simp at hlen; omega
  rw [h2] at hS
  have e1 := hS.now.1
  refine ⟨hl, C.2.1.1.map (dloc r), fun q hq => ?_, ?_⟩
  · have h9 : q ∈ lsArgs 0 (as ++ [o]) := hsub q (by
      rw [e1]
      show q ∈ (C.2.1.1 ++ [x]).map (dloc r)
      rw [List.map_append]
      exact List.mem_append_left _ hq)
    rcases lsArgs_ap as o 0 q h9 with h9 | h9
    · exact h9
    · obtain ⟨z, hz, rfl⟩ := List.mem_map.mp hq
      have := Nat.blt_eq.mp (List.all_eq_true.mp h3 z hz)
      have h9 : 0 + as.length ≤ z.1 := h9
      omega
  · exact ⟨hS.1, fun r' a' hg => by
      obtain ⟨c1, c2, c3, c4, c5⟩ := hS.2 r' a' hg
      refine ⟨?_, c2, c3, c4, c5⟩
      have c1 : ls = (C.2.1.1 ++ [x]).map (dloc r') := c1
      have e1 : ls = (C.2.1.1 ++ [x]).map (dloc r) := e1
      rw [c1, List.map_append, List.map_append] at e1
      exact (List.append_inj_left' e1 rfl).symm⟩
end
set_option maxRecDepth 100000 in
theorem gOut : gAll[446]? = some (28161, (1, (1, (1, [((-9223372036854775808), 9223372036854775807)])))) := rfl
