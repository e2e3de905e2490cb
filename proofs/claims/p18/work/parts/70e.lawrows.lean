/-! THE LAW'S ROWS -/
abbrev lwC : Nat := 14129
abbrev lwS : Nat := 3374742
section KLAW
variable {G : rGm} {l : Launch} {b L n : Nat} {xs : Nat → Int32} {Z : List Frame → Array Value → State → State → Prop} {kc ks : Nat}
/-- what the law owes: its end, Z, from such a start; so many cells and slots are used -/
abbrev kLQ (Z : List Frame → Array Value → State → State → Prop) (G : rGm) (b L : Nat) (xs : Nat → Int32) (kc ks : Nat) : kQf := (fun R => lwC ≤ R.cells ∧ lwS ≤ R.slots, ((kc, ks), fun below args s t => rLX G b L xs args s → Z below args s t))
abbrev kL (Z : List Frame → Array Value → State → State → Prop) (G : rGm) (l : Launch) (b L n : Nat) (xs : Nat → Int32) (kc ks pc : Nat) : qP := kW gAll LAll vwCl rFo rZs rRs rNs rTs G l cL_law 8 "NativeWorksLaw" (some .boolean) 2048 84000 n (kLQ Z G b L xs kc ks) pc
variable {pc : Nat} {ls : qLS} {st : List qV} {s : qSg}
theorem kL_wide {kc' ks' : Nat} (h1 : kc ≤ kc') (h2 : ks ≤ ks') (h3 : kc' ≤ lwC) (h4 : ks' ≤ lwS) (hV : kL Z G l b L n xs kc' ks' pc ls st s) : kL Z G l b L n xs kc ks pc ls st s := fun p e R s0 m args below meth c X hq rl H locs hl hP hL =>
  W.widen h1 h2 (hV p e R s0 m args below meth c X ⟨hq.1, Nat.le_trans h3 hq.1.1, Nat.le_trans h4 hq.1.2⟩ rl H locs hl hP hL)
theorem klx_S {p : Program} {R : Room} {s0 : State} {m : MethodId} {args : Array Value} {meth : Method} {c : Code} {H : Heap} {locs : List Loc} (X : rCx vwCl rFo rZs rRs rNs rTs G p R s0 m args meth c cL_law 8 "NativeWorksLaw" (some .boolean) false 2048 84000) (hX : rLX G b L xs args s0) (hP : kPic gAll LAll vwCl rFo G s n H) (hL : ∀ x ∈ locs, G.2.2.1 ≤ x.base) : va_S (fun q => G.2.2.1 ≤ q) s0.heap H locs := by
  have hsz := hX.2.2.2.1
  have h8 := X.2.2.2.2.2.2.2.1
  have hp1 := hP.1
  refine ⟨by omega, fun q hq hA => ?_, hL⟩
  rw [hP.2.1 q (by omega)]
  exact (h8.2.1 q (by omega)).symm
theorem kv_scr (hb : G.2.2.2.1 30000 = .ref b) : kv G (2, 60002) = .ref b := by
  show rv G (.inr (.inr 60002)) = _
  rw [rv_ext G (by decide) (by decide), show 60002 / 2 - 1 = 30000 by decide, hb]
theorem kl_slen (hb : G.2.2.2.1 30000 = .ref b) (hL6 : L ≤ 60000000) (hd : decode cL_law pc = .ok (.arraylength, 1)) (hV : kL Z G l b L n xs kc ks (pc + 1) ls ((0, (L : Int)) :: st) s) : kL Z G l b L n xs kc ks pc ls ((2, 60002) :: st) s := fun p e R s0 m args below meth c X hq rl H locs hl hP hL => by
  by_cases hX : rLX G b L xs args s0
  · have hV' := hV p e R s0 m args below meth c X hq rl H locs hl hP hL
    rw [List.map_cons, kv_scr hb]
    exact va_slen X.1 X.2.1 hX.2.1 (by rw [hX.2.2.2.1]; exact hX.2.2.1) (Nat.not_le.mpr hX.2.2.1) (klx_S X hX hP hL) hd hV'
  · exact W.now fun t h => absurd h hX
theorem kl_sld (hb : G.2.2.2.1 30000 = .ref b) (hL6 : L ≤ 60000000) {i : Nat} (hi : i < L) (hd : decode cL_law pc = .ok (.iaload, 1)) (hV : kL Z G l b L n xs kc ks (pc + 1) ls ((0, (xs i).toInt) :: st) s) : kL Z G l b L n xs kc ks pc ls ((0, (i : Int)) :: (2, 60002) :: st) s := fun p e R s0 m args below meth c X hq rl H locs hl hP hL => by
  by_cases hX : rLX G b L xs args s0
  · have hV' := hV p e R s0 m args below meth c X hq rl H locs hl hP hL
    have ei : kv G (0, (i : Int)) = .int (nI i) := rfl
    have ex : kv G (0, (xs i).toInt) = .int (xs i) := congrArg Value.int (ofI_toInt _)
    rw [List.map_cons, ex] at hV'
    rw [List.map_cons, List.map_cons, kv_scr hb, ei]
    exact va_sld X.1 X.2.1 hX.2.1 (by rw [hX.2.2.2.1]; exact hX.2.2.1) (Nat.not_le.mpr hX.2.2.1) (klx_S X hX hP hL) (ix_in hi hL6 (Nat.le_refl _)) hd (by rw [nI_clamp (by omega)]; exact hV')
  · exact W.now fun t h => absurd h hX
/-- script[i + k] -/
theorem kl_rd (hb : G.2.2.2.1 30000 = .ref b) (hL6 : L ≤ 60000000) {i k : Nat} {z : Int} (h0 : (0, ((2, 60002) : qV)) ∈ ls) (h4 : (4, ((0, (i : Int)) : qV)) ∈ ls) (hz : z = (k : Int)) (hk : i + k < L) (d0 : decode cL_law pc = .ok (.aload_n 0, 1)) (d1 : decode cL_law (pc + 1) = .ok (.iload 4, 2)) (d3 : decode cL_law (pc + 3) = .ok (.iconst z, 1)) (d4 : decode cL_law (pc + 4) = .ok (.iadd, 1)) (d5 : decode cL_law (pc + 5) = .ok (.iaload, 1))
    (hV : kL Z G l b L n xs kc ks (pc + 6) ls ((0, (xs (i + k)).toInt) :: st) s) : kL Z G l b L n xs kc ks pc ls st s := by
  refine k_aload_n 0 rfl d0 ls st s ⟨_, h0, rfl, ?_⟩
  refine k_iload 4 d1 ls _ s ⟨_, h4, rfl, ?_⟩
  refine k_iconst (z := z) d3 ls _ s ?_
  refine k_iadd (0, 0) d4 ls _ s ⟨_, _, _, rfl, ?_⟩
  have e : ((i : Int) + z) = ((i + k : Nat) : Int) := by rw [hz]; exact (Int.natCast_add i k).symm
  have e' : (((0, (i : Int) + z) : qV) :: (2, 60002) :: st) = (0, ((i + k : Nat) : Int)) :: (2, 60002) :: st := by rw [e]
  exact (congrArg (fun q => kL Z G l b L n xs kc ks (pc + 5) ls q s) e').mpr (kl_sld hb hL6 hk d5 hV)
/-- a helper's call -/
theorem kl_callH {C : qCt} {as : List qV} {y : MethodName} {bytes : ByteArray} {maxL : Nat} {hh : List (Nat × Nat × Nat × Nat)} {fr' lo' ix : Nat} (na : Nat) (hM : kMetH gAll LAll vwCl rFo rZs rRs rNs rTs l y bytes maxL hh fr' lo' C as)
    (w1 : Cond.methodLink "NativeWorksLaw" ix y ∈ rTs) (w2' : Cond.static y ∈ rTs) (w4 : Cond.initialized y.cls ∈ rTs) (w5 : Cond.codeWith y bytes maxL (some .int) hh ∈ rTs) (hd0 : y.cls ≠ "java/lang/invoke/MethodHandle" ∧ y.cls ≠ "java/lang/invoke/VarHandle" ∧ (parseMethodDescriptor y.desc).map (fun d => d.parameters.length) = some na) (hf : fr' + 1 ≤ 2048) (hlo : 8 + (maxL + 11) + lo' ≤ 84000) (hlen : as.length = na)
    (hd : decode cL_law pc = .ok (.invokestatic ix, 3)) {r : qW} {a : qX} (hT : Typed gAll s) (hB : CtBeg gAll C as s r a) (hl4 : st.length ≤ 4) (h3 : kc + 1 ≤ lwC) (h4 : ks + 6 ≤ lwS) (hV : ∀ res s', CtEnd gAll C r a s res s' → kL Z G l b L n xs (kc + 1) (ks + 6) (pc + 3) ls (res ++ st) s') : kL Z G l b L n xs kc ks pc ls (as.reverse ++ st) s := fun p e R s0 m args below meth c X hq rl H locs hl hP hL => by
  by_cases hX : rLX G b L xs args s0
  · have hG : GoodIn rTs (va_wsS "NativeWorksLaw" ix y (.codeWith y bytes maxL (some .int) hh :: rTs)) := good_in kGood (fun z hz => by
      unfold va_wsS at hz
      simp only [List.mem_append, List.mem_cons, List.not_mem_nil, or_false] at hz
      rcases hz with (rfl | rfl | rfl) | rfl | hz
      · exact w1
      · exact w2'
      · exact w4
      · exact w5
      · exact hz)
    have hS : CallFix p m c cL_law 8 s0 args rTs "NativeWorksLaw" := ⟨X.1, X.2.1, X.2.2.1, X.2.2.2.1, X.2.2.2.2.1⟩
    have hR1 := X.2.2.2.2.2.2.2.2.2.2.1
    have hR2 := X.2.2.2.2.2.2.2.2.2.2.2
    have hsm := ksum G X.2.2.2.2.2.1.2.2.1 st
    have e2 : (as.reverse ++ st).map (kv G) = (as.map (kv G)).reverse ++ st.map (kv G) := by simp
    rw [e2]
    have hr := vx_runSW (As := as.map (kv G)) (rest := st.map (kv G)) (g := F0 m pc rl ((as.map (kv G)).reverse ++ st.map (kv G))) (H := H) (locs := locs) (cells := kc) (slots := ks) (e := e) (l := l) (below := below) (meth := meth) hS (hM G n s r a hT hB) (vx_cwSW (R := R) na X.2.2.2.2.1 hG rfl rfl rfl hd0 ⟨by rw [hR1]; exact hf, by rw [hR2]; exact hlo⟩) ⟨fun a U g mk q => ⟨q.1, q.2.1, rKK.same (u := U) rfl q.2.2.1, va_Nc.moved (u := U) (Vm.Alike.refl U.vm) q.2.2.2⟩, fun U hU hW => ⟨rfl, by rw [hU]; exact hP, X.2.2.2.2.2.1.warm hW, va_Nc.moved hW.alike hX.2.2.2.2⟩⟩ rfl (by rw [List.length_map]; exact hlen) hl.1 rfl (lv_room (by omega)) hd ⟨Nat.le_trans h3 hq.1.1, Nat.le_trans h4 hq.1.2⟩
    intro T hT0 Xs
    obtain ⟨v, st₀, t, T', L9, k0, X', hL', e1, e3, ⟨res, s', g1, g2, g3, g4, g5⟩, stp⟩ := hr T hT0 Xs
    have hW := hV res s' g3 p e R s0 m args below meth c X ⟨hq.1, Nat.le_trans h3 hq.1.1, Nat.le_trans h4 hq.1.2⟩ rl T'.heap (locs ++ L9) hl (by rw [e1]; exact g4) (fun x hx => by
      rcases List.mem_append.mp hx with z | z
      · exact hL x z
      · exact hL' x z)
    obtain ⟨t2, a1, b3⟩ := hW T' rfl X'
    have e9 : v.toList ++ st.map (kv G) = (res ++ st).map (kv G) := by
      cases g1
      cases res with
      | nil => rfl
      | cons x xs =>
        cases xs with
        | nil => rfl
        | cons y ys => exact absurd g2 (by simp)
    rw [e9] at stp
    exact ⟨t2, stp t2 a1, b3⟩
  · exact W.now fun t h => absurd h hX
/-- the law's end -/
theorem kl_end {v : Int} (hZ : ∀ (p : Program) (e : Env) (R : Room) (s : State) (m : MethodId) (below : List Frame) (meth : Method) (c : Code) (H : Heap) (locs : List Loc) (rl : Array Slot), p.tables.exec = Jvm.exec → c.code = cL_law → meth.sig.returnType = some .boolean → meth.locks = false → (∀ q ∈ locs, s.heap.size ≤ q.base) → W p l e R s m #[Value.ref b] below meth c H locs kc ks (Z below #[Value.ref b] s) (F0 m pc rl [.int (Int32.ofInt v)])) : kL Z G l b L n xs kc ks pc ls [(0, v)] s := fun p e R s m args below meth c X hq rl H locs hl hP hL => by
  by_cases hX : rLX G b L xs args s
  · obtain ⟨rfl, hX2, hX3, hX4, hX5⟩ := hX
    exact W.imp (fun t h _ => h) (hZ p e R s m below meth c H locs rl X.1 X.2.1 X.2.2.2.2.2.2.2.2.1 X.2.2.2.2.2.2.1 (fun q hq => by rw [hX4]; exact hL q hq))
  · exact W.now fun t h => absurd h hX
/-- the places that a turn looks at -/
abbrev kLs (i : Nat) : qLS := [(0, (2, 60002)), (1, (2, 1)), (2, (2, 26909)), (3, (2, 28161)), (4, (0, (i : Int)))]
theorem kL_sub {ls' : qLS} (h : lsSub ls' ls) (hV : kL Z G l b L n xs kc ks pc ls' st s) : kL Z G l b L n xs kc ks pc ls st s := k_sub h hV
theorem in32_x (x : Int32) : in32 x.toInt := i_rng x
theorem in64_x (x : Int64) : in64 x.toInt := j_rng x
theorem in64_i {z : Int} (h : in32 z) : in64 z := ⟨Int.le_trans (by decide) h.1, Int.le_trans h.2 (by decide)⟩
/-- the long of two ints -/
def lgL (a b : Int) : Int := fJ 1 (fJ 3 a 32) (fJ 0 b 4294967295)
theorem lgL_64 (a b : Int) : in64 (lgL a b) := in64_x _
/-- whether an int is not 0 -/
def b01 (v : Int) : Int := if v = 0 then 0 else 1
theorem b01_01 (v : Int) : 0 ≤ b01 v ∧ b01 v ≤ 1 := by
  unfold b01
  by_cases h : v = 0
  · rw [if_pos h]; decide
  · rw [if_neg h]; decide
theorem kl_bool {v : Int} (hv : in32 v) {o1 o2 : Int} (e1 : (pc : Int) + o1 = ((pc + 7 : Nat) : Int)) (e2 : ((pc + 4 : Nat) : Int) + o2 = ((pc + 8 : Nat) : Int)) (d0 : decode cL_law pc = .ok (.ifCond .eq o1, 3)) (d3 : decode cL_law (pc + 3) = .ok (.iconst 1, 1)) (d4 : decode cL_law (pc + 4) = .ok (.goto o2, 3)) (d7 : decode cL_law (pc + 7) = .ok (.iconst 0, 1)) (hV : kL Z G l b L n xs kc ks (pc + 8) ls ((0, b01 v) :: st) s) : kL Z G l b L n xs kc ks pc ls ((0, v) :: st) s := by
  refine k_if_eq e1 d0 ls _ s ⟨v, st, rfl, hv, fun q => ?_, fun q => ?_⟩
  · have q : v = 0 := q
    refine k_iconst (z := 0) d7 ls _ s ?_
    have : b01 v = 0 := if_pos q
    rw [this] at hV
    exact hV
  · have q : ¬ v = 0 := q
    refine k_iconst (z := 1) d3 ls _ s ?_
    have : b01 v = 1 := if_neg q
    rw [this] at hV
    exact k_goto e2 d4 ls _ s hV
theorem kls_5 {i : Nat} {v : qV} : lsSub (kLs i) (lsSet 5 v (kLs i)) := fun q hq => List.mem_cons_of_mem _ (List.mem_filter.mpr ⟨hq, by
  simp only [List.mem_cons, List.not_mem_nil, or_false] at hq
  rcases hq with rfl | rfl | rfl | rfl | rfl <;> (unfold keepV; simp)⟩)
theorem kls_6 {i : Nat} {v : qV} : lsSub (kLs i) (lsSet 6 v (kLs i)) := fun q hq => List.mem_cons_of_mem _ (List.mem_filter.mpr ⟨hq, by
  simp only [List.mem_cons, List.not_mem_nil, or_false] at hq
  rcases hq with rfl | rfl | rfl | rfl | rfl <;> (unfold keepV; simp)⟩)
end KLAW
