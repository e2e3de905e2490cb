/-! THE LAW'S STEPS: tests, calls, the script -/
section VL
variable {V : rPr} {pcs : List Nat} {pc pb : Nat} {o : rOut} {ls : rLs} {st : List rCV} {w : rWd} {n c : Nat}
theorem V_ifT {f : Nat → Bool} {b1 b2 : Nat} (H : BS V pcs pc (t_if f b1 b2)) (hb : pcs[b1]? = some pb) {a : Nat} (h : f a = true) (hn : n ≤ o.2.2.1) (hc : c ≤ o.2.2.2) (hV : V o pb ls st w n c) : V o pc ls (.inl a :: st) w n c := BS.seg H (funext fun J => by
  show rB (f a) (J b1 ls st w n c) (J b2 ls st w n c) = J b1 ls st w n c
  rw [h]; rfl) hb hn hc hV
theorem V_ifF {f : Nat → Bool} {b1 b2 : Nat} (H : BS V pcs pc (t_if f b1 b2)) (hb : pcs[b2]? = some pb) {a : Nat} (h : f a = false) (hn : n ≤ o.2.2.1) (hc : c ≤ o.2.2.2) (hV : V o pb ls st w n c) : V o pc ls (.inl a :: st) w n c := BS.seg H (funext fun J => by
  show rB (f a) (J b1 ls st w n c) (J b2 ls st w n c) = J b2 ls st w n c
  rw [h]; rfl) hb hn hc hV
theorem V_icT {f : Nat → Nat → Bool} {b1 b2 : Nat} (H : BS V pcs pc (t_icmp f b1 b2)) (hb : pcs[b1]? = some pb) {a b : Nat} (h : f a b = true) (hn : n ≤ o.2.2.1) (hc : c ≤ o.2.2.2) (hV : V o pb ls st w n c) : V o pc ls (.inl b :: .inl a :: st) w n c := BS.seg H (funext fun J => by
  show rB (f a b) (J b1 ls st w n c) (J b2 ls st w n c) = J b1 ls st w n c
  rw [h]; rfl) hb hn hc hV
theorem V_icF {f : Nat → Nat → Bool} {b1 b2 : Nat} (H : BS V pcs pc (t_icmp f b1 b2)) (hb : pcs[b2]? = some pb) {a b : Nat} (h : f a b = false) (hn : n ≤ o.2.2.1) (hc : c ≤ o.2.2.2) (hV : V o pb ls st w n c) : V o pc ls (.inl b :: .inl a :: st) w n c := BS.seg H (funext fun J => by
  show rB (f a b) (J b1 ls st w n c) (J b2 ls st w n c) = J b2 ls st w n c
  rw [h]; rfl) hb hn hc hV
theorem V_go {b : Nat} (H : BS V pcs pc (t_go b)) (hb : pcs[b]? = some pb) (hn : n ≤ o.2.2.1) (hc : c ≤ o.2.2.2) (hV : V o pb ls st w n c) : V o pc ls st w n c := BS.seg H rfl hb hn hc hV
/-- a call whose run is known -/
theorem HS.callE {pc' na : Nat} {ok : List rCV → rWd → Nat → Option Unit} {F : rEv} (H : HS V pc pc' (h_call na ok F)) (hless : ∀ {w w' : rWd} {ls : rLs} {st : List rCV} {n c : Nat}, (∀ i x, wGet i w' = some x → wGet i w = some x) → V o pc' ls st w' n c → V o pc' ls st w n c)
    {as : List rCV} {v : Option rCV} {w1 w2 : rWd} {n1 ms : Nat} (hF : F as w n = some (v, (w1, (n1, ms)))) (hlen : as.length = na) (hs : rSum st ≤ 8) (hok : ok as w n = some ()) (hw : ∀ i x, wGet i w2 = some x → wGet i w1 = some x) (hn : n1 ≤ o.2.2.1) (hc : c + ms ≤ o.2.2.2) (hV : V o pc' ls (v.toList ++ st) w2 n1 (c + ms)) : V o pc ls (as.reverse ++ st) w n c := by
  refine HS.seg (ls' := ls) (st' := v.toList ++ st) (w' := w1) (n' := n1) (c' := c + ms) H (funext fun k => ?_) hn hc (hless hw hV)
  show rArg na (as.reverse ++ st) _ = _
  rw [rArg_rev _ _ hlen]
  show rB (Nat.ble (rSum st) 8) (Option.rec none (fun _ => rRes (F as w n) (fun v w n ms => rN (Nat.add c ms) (fun c => Option.rec (k ls st w n c) (fun v => k ls (v :: st) w n c) v))) (ok as w n)) none = _
  rw [hok, hF, Nat.ble_eq.mpr hs]
  show rN (Nat.add c ms) (fun c => Option.rec (motive := fun _ => Option rOut) (k ls st w1 n1 c) (fun v => k ls (v :: st) w1 n1 c) v) = _
  rw [rN_eq]
  cases v <;> rfl
end VL
/-- the cells from k on -/
noncomputable def wCut (k : Nat) (w : rWd) : rWd := List.rec (motive := fun _ => rWd) [] (fun q _ ih => rB (Nat.ble k q.1) (q :: ih) ih) w
theorem wCut_ge {k i : Nat} {x : rCC} : ∀ w : rWd, wGet i (wCut k w) = some x → k ≤ i
  | [], h => by cases h
  | (a, y) :: w, h => by
    have h' : wGet i (rB (Nat.ble k a) ((a, y) :: wCut k w) (wCut k w)) = some x := h
    cases e : Nat.ble k a
    · rw [e] at h'
      exact wCut_ge w h'
    · rw [e] at h'
      have h2 : (if a = i then some y else wGet i (wCut k w)) = some x := h'
      by_cases e2 : a = i
      · rw [← e2]; exact Nat.ble_eq.mp e
      · rw [if_neg e2] at h2
        exact wCut_ge w h2
theorem wCut_get {k i : Nat} {x : rCC} : ∀ w : rWd, wGet i (wCut k w) = some x → wGet i w = some x
  | [], h => by cases h
  | (a, y) :: w, h => by
    have h' : wGet i (rB (Nat.ble k a) ((a, y) :: wCut k w) (wCut k w)) = some x := h
    show (if a = i then some y else wGet i w) = some x
    cases e : Nat.ble k a
    · rw [e] at h'
      have h3 := wCut_ge w h'
      have h4 : ¬ k ≤ a := fun q => by rw [Nat.ble_eq.mpr q] at e; cases e
      rw [if_neg (fun q => h4 (by rw [q]; exact h3))]
      exact wCut_get w h'
    · rw [e] at h'
      have h2 : (if a = i then some y else wGet i (wCut k w)) = some x := h'
      by_cases e2 : a = i
      · rw [if_pos e2] at h2 ⊢
        exact h2
      · rw [if_neg e2] at h2 ⊢
        exact wCut_get w h2
theorem wNo {w1 : rWd} : ∀ (i : Nat) (x : rCC), wGet i [] = some x → wGet i w1 = some x := fun _ _ h => by cases h
theorem wAll {w1 : rWd} : ∀ (i : Nat) (x : rCC), wGet i w1 = some x → wGet i w1 = some x := fun _ _ h => h
theorem wCutE {k : Nat} {w1 w2 : rWd} (h : wCut k w1 = w2) : ∀ (i : Nat) (x : rCC), wGet i w2 = some x → wGet i w1 = some x := fun i x hx => wCut_get w1 (by rw [h]; exact hx)
theorem qN_r : ∀ a : Nat, Nat.beq a a = true := Nat.beq_refl
theorem qL_r {α : Type} {q : α → α → Bool} (hq : ∀ a, q a a = true) : ∀ l : List α, qqL q l l = true
  | [] => rfl
  | x :: l => by
    show rB (q x x) (qqL q l l) false = true
    rw [hq x, qL_r hq l]; rfl
theorem qP_r {α β : Type} {q1 : α → α → Bool} {q2 : β → β → Bool} (h1 : ∀ a, q1 a a = true) (h2 : ∀ a, q2 a a = true) : ∀ x : α × β, qqP q1 q2 x x = true := fun (a, b) => by
  show rB (q1 a a) (q2 b b) false = true
  rw [h1 a, h2 b]; rfl
theorem qS_r {α β : Type} {q1 : α → α → Bool} {q2 : β → β → Bool} (h1 : ∀ a, q1 a a = true) (h2 : ∀ a, q2 a a = true) : ∀ x : α ⊕ β, qqS q1 q2 x x = true
  | .inl a => h1 a
  | .inr a => h2 a
theorem qV_r : ∀ a : rCV, qqV a a = true := qS_r qN_r (qS_r qN_r qN_r)
theorem qC_r : ∀ a : rCC, qqC a a = true := qS_r (qP_r qN_r (qL_r qV_r)) (qP_r qN_r (qP_r qN_r (qP_r qV_r (qL_r (qP_r qN_r (qL_r (qP_r qN_r qV_r)))))))
theorem qW_r : ∀ a : rWd, qqW a a = true := qL_r (qP_r qN_r qC_r)
theorem rMemo_hit (q : rMe) (L : List rMe) : rMemo (q :: L) q.1.1 q.1.2.1 q.1.2.2 = some q.2 := by
  show rB (qqL qqV q.1.1 q.1.1) (rB (Nat.beq q.1.2.2 q.1.2.2) (rB (qqW q.1.2.1 q.1.2.1) (some q.2) _) _) _ = _
  rw [qL_r qV_r, qN_r, qW_r]; rfl
theorem rSy_hit (x v : rCV) (w0 : rWd) (a n : Nat) : rSy x v w0 [x, .inl a] w0 n = some (some v, (w0, (n, 0))) := by
  show rB (qqV x x) (rB (qqW w0 w0) (some (some v, (w0, (n, 0)))) none) none = _
  rw [qV_r, qW_r]; rfl
theorem rSy2_hit (x v : rCV) (w0 : rWd) (a b n : Nat) : rSy2 x v w0 [x, .inl a, .inl b] w0 n = some (some v, (w0, (n, 0))) := by
  show rB (qqV x x) (rB (qqW w0 w0) (some (some v, (w0, (n, 0)))) none) none = _
  rw [qV_r, qW_r]; rfl
theorem W.imp {p : Program} {l : Launch} {e : Env} {R : Room} {s : State} {m : MethodId} {args : Array Value} {below : List Frame} {meth : Method} {c : Code} {H : Heap} {locs : List Loc} {cells slots : Nat} {Q Q' : State → Prop} {g : JFrame} (h : ∀ t, Q t → Q' t) (k : W p l e R s m args below meth c H locs cells slots Q g) : W p l e R s m args below meth c H locs cells slots Q' g := fun T hT X => by
  obtain ⟨t, a1, b1⟩ := k T hT X
  exact ⟨t, a1, h t b1⟩
theorem W.now {p : Program} {l : Launch} {e : Env} {R : Room} {s : State} {m : MethodId} {args : Array Value} {below : List Frame} {meth : Method} {c : Code} {H : Heap} {locs : List Loc} {cells slots : Nat} {Q : State → Prop} {g : JFrame} (h : ∀ t, Q t) : W p l e R s m args below meth c H locs cells slots Q g := fun T _ _ => ⟨T.setTop g, Steps.refl _, h _⟩
/-- what is given of the script, and of the start -/
def rLX (G : rGm) (b L : Nat) (xs : Nat → Int32) (args : Array Value) (s : State) : Prop := args = #[Value.ref b] ∧ va_X b L xs s s.heap ∧ b < G.2.2.1 ∧ s.heap.size = G.2.2.1 ∧ va_Nc "java/lang/IllegalStateException" "java/lang/IllegalArgumentException" s
/-- what the law owes: its end, Z, from such a start -/
abbrev rLQ (Z : List Frame → Array Value → State → State → Prop) (G : rGm) (b L : Nat) (xs : Nat → Int32) : rQf := fun below args s _ t => rLX G b L xs args s → Z below args s t
noncomputable def h_slen (L : Nat) (k : rK) : rK := fun ls st w n c => rP st (fun x st => rR x (fun r => rB (Nat.beq r 60002) (k ls (.inl L :: st) w n c) none))
noncomputable def h_sld (L : Nat) (xs : Nat → Int32) (k : rK) : rK := fun ls st w n c => rP st (fun y st => rP st (fun x st => rI y (fun i => rR x (fun r => rB (Nat.beq r 60002) (rB (Nat.blt i L) (k ls (.inl (rOf (xs i)) :: st) w n c) none) none))))
section VR
variable {cl : List vw_C} {fo : List rCC} {zs : List (String × String × String × rCV)} {rs : List (String × Nat × String × Nat)} {ns : List Cond} {Ts : List Cond} {G : rGm}
variable {l : Launch} {cc : ByteArray} {nL n0 : Nat} {own : String} {pc : Nat} {ret : Option FieldType} {ini : Bool} {fr lo : Nat} {Qf : rQf}
theorem rW.lessL {ls ls' : rLs} {o : rOut} {st : List rCV} {w : rWd} {n c : Nat} (h : ∀ q ∈ ls', q ∈ ls) (hV : rW cl fo zs rs ns Ts G l cc nL own ret ini fr lo n0 Qf o pc ls' st w n c) : rW cl fo zs rs ns Ts G l cc nL own ret ini fr lo n0 Qf o pc ls st w n c := fun p e R s m args below meth c X r1 r2 r3 rl H locs hl hP hL => hV p e R s m args below meth c X r1 r2 r3 rl H locs ⟨hl.1, hl.2.1, fun q hq => by
  obtain ⟨z, hz, rfl⟩ := List.mem_map.mp hq
  exact hl.2.2 _ (List.mem_map.mpr ⟨z, h z hz, rfl⟩)⟩ hP hL
theorem V_tabIn {dflt lo' hi off : Int} {offs : Array Int} {len tgt : Nat} {o : rOut} {ls : rLs} {st : List rCV} {w : rWd} {n c a : Nat} (hd : decode cc pc = .ok (.tableswitch dflt lo' hi offs, len)) (h1 : ¬ (nI a).toInt < lo') (h2 : ¬ hi < (nI a).toInt) (ho : offs[((nI a).toInt - lo').toNat]? = some off) (ht : (pc : Int) + off = (tgt : Int)) (hV : rW cl fo zs rs ns Ts G l cc nL own ret ini fr lo n0 Qf o tgt ls st w n c) : rW cl fo zs rs ns Ts G l cc nL own ret ini fr lo n0 Qf o pc ls (.inl a :: st) w n c := fun p e R s m args below meth c X r1 r2 r3 rl H locs hl hP hL => lv_tableIn X.1 X.2.1 hd h1 h2 ho ht (hV p e R s m args below meth c X r1 r2 r3 rl H locs hl hP hL)
theorem V_tabOut {dflt lo' hi : Int} {offs : Array Int} {len tgt : Nat} {o : rOut} {ls : rLs} {st : List rCV} {w : rWd} {n c a : Nat} (hd : decode cc pc = .ok (.tableswitch dflt lo' hi offs, len)) (h : (nI a).toInt < lo' ∨ hi < (nI a).toInt) (ht : (pc : Int) + dflt = (tgt : Int)) (hV : rW cl fo zs rs ns Ts G l cc nL own ret ini fr lo n0 Qf o tgt ls st w n c) : rW cl fo zs rs ns Ts G l cc nL own ret ini fr lo n0 Qf o pc ls (.inl a :: st) w n c := fun p e R s m args below meth c X r1 r2 r3 rl H locs hl hP hL => lv_tableOut X.1 X.2.1 hd h ht (hV p e R s m args below meth c X r1 r2 r3 rl H locs hl hP hL)
/-- the heap since the law's start -/
theorem lx_S {Z : List Frame → Array Value → State → State → Prop} {b L : Nat} {xs : Nat → Int32} {p : Program} {R : Room} {s : State} {m : MethodId} {args : Array Value} {meth : Method} {c : Code} {w : rWd} {n : Nat} {H : Heap} {locs : List Loc} (X : rCx cl fo zs rs ns Ts G p R s m args meth c cc nL own ret ini fr lo) (hX : rLX G b L xs args s) (hP : rPic cl G w n H) (hL : ∀ x ∈ locs, G.2.2.1 ≤ x.base) : va_S (fun q => G.2.2.1 ≤ q) s.heap H locs := by
  have hsz := hX.2.2.2.1
  have h8 := X.2.2.2.2.2.2.2.1
  refine ⟨by rw [hP.1]; omega, fun q hq hA => ?_, hL⟩
  rw [hP.2.1 q (by omega)]
  exact (h8.2.1 q (by omega)).symm
variable {Z : List Frame → Array Value → State → State → Prop} {b L : Nat} {xs : Nat → Int32}
theorem s_slen (hb : G.2.2.2.1 30000 = .ref b) (hd : decode cc pc = .ok (.arraylength, 1)) : HS (rW cl fo zs rs ns Ts G l cc nL own ret ini fr lo n0 (rLQ Z G b L xs)) pc (pc + 1) (h_slen L) := by
  intro k0 ls st w n kk o e0
  obtain ⟨x, st', rfl, h2⟩ := rP_some e0
  obtain ⟨r, rfl, h3⟩ := rR_some h2
  obtain ⟨h4, h5⟩ := rB_yes h3
  have hr : r = 60002 := Nat.eq_of_beq_eq_true h4
  subst hr
  refine ⟨_, _, _, _, _, h5, Nat.le_refl _, Nat.le_refl _, fun ho1 ho2 hV p e R s m args below meth c X r1 r2 r3 rl H locs hl hP hL => ?_⟩
  by_cases hX : rLX G b L xs args s
  · have hV' := hV p e R s m args below meth c X r1 r2 r3 rl H locs hl hP hL
    rw [List.map_cons, rv_ext G (by decide) (by decide), show 60002 / 2 - 1 = 30000 by decide, hb]
    exact va_slen X.1 X.2.1 hX.2.1 (by rw [hX.2.2.2.1]; exact hX.2.2.1) (Nat.not_le.mpr hX.2.2.1) (lx_S (Z := Z) X hX hP hL) hd hV'
  · exact W.now fun t h => absurd h hX
theorem s_sld (hL6 : L ≤ 60000000) (hb : G.2.2.2.1 30000 = .ref b) (hd : decode cc pc = .ok (.iaload, 1)) : HS (rW cl fo zs rs ns Ts G l cc nL own ret ini fr lo n0 (rLQ Z G b L xs)) pc (pc + 1) (h_sld L xs) := by
  intro k0 ls st w n kk o e0
  obtain ⟨y, st0, rfl, h0⟩ := rP_some e0
  obtain ⟨x, st', rfl, h2⟩ := rP_some h0
  obtain ⟨i, rfl, h21⟩ := rI_some h2
  obtain ⟨r, rfl, h3⟩ := rR_some h21
  obtain ⟨h4, h41⟩ := rB_yes h3
  obtain ⟨h42, h5⟩ := rB_yes h41
  have hr : r = 60002 := Nat.eq_of_beq_eq_true h4
  have hi : i < L := Nat.blt_eq.mp h42
  subst hr
  refine ⟨_, _, _, _, _, h5, Nat.le_refl _, Nat.le_refl _, fun ho1 ho2 hV p e R s m args below meth c X r1 r2 r3 rl H locs hl hP hL => ?_⟩
  by_cases hX : rLX G b L xs args s
  · have hV' : W p l e R s m args below meth c H locs (n - n0) kk (rLQ Z G b L xs below args s o) (F0 m (pc + 1) rl (.int (nI (rOf (xs i))) :: st'.map (rv G))) := hV p e R s m args below meth c X r1 r2 r3 rl H locs hl hP hL
    rw [rOf_e] at hV'
    rw [List.map_cons, List.map_cons, rv_ext G (by decide) (by decide), show 60002 / 2 - 1 = 30000 by decide, hb]
    exact va_sld X.1 X.2.1 hX.2.1 (by rw [hX.2.2.2.1]; exact hX.2.2.1) (Nat.not_le.mpr hX.2.2.1) (lx_S (Z := Z) X hX hP hL) (ix_in hi hL6 (Nat.le_refl _)) hd (by rw [nI_clamp (by omega)]; exact hV')
  · exact W.now fun t h => absurd h hX
/-- the law's end -/
theorem V_end {o : rOut} {ls : rLs} {w : rWd} {n k v : Nat} (hZ : ∀ (p : Program) (e : Env) (R : Room) (s : State) (m : MethodId) (below : List Frame) (meth : Method) (c : Code) (H : Heap) (locs : List Loc) (rl : Array Slot), p.tables.exec = Jvm.exec → c.code = cc → meth.sig.returnType = ret → meth.locks = false → (∀ q ∈ locs, s.heap.size ≤ q.base) → W p l e R s m #[Value.ref b] below meth c H locs (n - n0) k (Z below #[Value.ref b] s) (F0 m pc rl [.int (nI v)])) : rW cl fo zs rs ns Ts G l cc nL own ret ini fr lo n0 (rLQ Z G b L xs) o pc ls [.inl v] w n k := fun p e R s m args below meth c X r1 r2 r3 rl H locs hl hP hL => by
  by_cases hX : rLX G b L xs args s
  · obtain ⟨rfl, hX2, hX3, hX4, hX5⟩ := hX
    exact W.imp (fun t h _ => h) (hZ p e R s m below meth c H locs rl X.1 X.2.1 X.2.2.2.2.2.2.2.2.1 X.2.2.2.2.2.2.1 (fun q hq => by rw [hX4]; exact hL q hq))
  · exact W.now fun t h => absurd h hX
/-- a helper of the law: a method with a table of its own, from one start to one end -/
def rMetH (cl : List vw_C) (fo : List rCC) (zs : List (String × String × String × rCV)) (rs : List (String × Nat × String × Nat)) (ns : List Cond) (Ts : List Cond) (l : Launch) (y : MethodName) (bytes : ByteArray) (maxL : Nat) (hh : List (Nat × Nat × Nat × Nat)) (fr lo : Nat) (as : List rCV) (w : rWd) (n k : Nat) (w2 : rWd) (n2 ms : Nat) : Prop := ∀ G : rGm, Met l y (.codeWith y bytes maxL (some .int) hh :: Ts) { frames := fr, cells := n2 - n, slots := ms, locals := lo } (va_Pc (as.map (rv G)) (fun U => rPic cl G w n U.heap ∧ rKK cl fo zs rs ns G U ∧ va_Nc "java/lang/IllegalStateException" "java/lang/IllegalArgumentException" U)) (fun _ _ oc t => oc = .returned (some (.int (nI k))) ∧ rPic cl G w2 n2 t.heap ∧ rKK cl fo zs rs ns G t) (n2 - n) ms (fun q => G.2.2.1 ≤ q)
theorem V_callH {y : MethodName} {bytes : ByteArray} {maxL : Nat} {hh : List (Nat × Nat × Nat × Nat)} {fr' lo' ix : Nat} (na : Nat) {o : rOut} {ls : rLs} {st : List rCV} {as : List rCV} {w w2 : rWd} {n n2 k ms kk : Nat} (hM : rMetH cl fo zs rs ns Ts l y bytes maxL hh fr' lo' as w n k w2 n2 ms) (hnn : n ≤ n2) (hg : ∀ w ∈ Ts, goodWord w = true)
    (w1 : Cond.methodLink own ix y ∈ Ts) (w2' : Cond.static y ∈ Ts) (w4 : Cond.initialized y.cls ∈ Ts) (w5 : Cond.codeWith y bytes maxL (some .int) hh ∈ Ts) (hd0 : y.cls ≠ "java/lang/invoke/MethodHandle" ∧ y.cls ≠ "java/lang/invoke/VarHandle" ∧ (parseMethodDescriptor y.desc).map (fun d => d.parameters.length) = some na) (hf : fr' + 1 ≤ fr) (hlo : 8 + (maxL + 11) + lo' ≤ lo) (hlen : as.length = na) (hs : rSum st ≤ 8)
    (hd : decode cc pc = .ok (.invokestatic ix, 3)) (hn : n2 ≤ o.2.2.1) (hc : kk + ms ≤ o.2.2.2) (hV : rW cl fo zs rs ns Ts G l cc nL own ret ini fr lo n0 (rLQ Z G b L xs) o (pc + 3) ls (.inl k :: st) w2 n2 (kk + ms)) : rW cl fo zs rs ns Ts G l cc nL own ret ini fr lo n0 (rLQ Z G b L xs) o pc ls (as.reverse ++ st) w n kk := fun p e R s m args below meth c X r1 r2 r3 rl H locs hl hP hL => by
  by_cases hX : rLX G b L xs args s
  · have hG : GoodIn Ts (va_wsS own ix y (.codeWith y bytes maxL (some .int) hh :: Ts)) := good_in hg (fun z hz => by
      unfold va_wsS at hz
      simp only [List.mem_append, List.mem_cons, List.not_mem_nil, or_false] at hz
      rcases hz with (rfl | rfl | rfl) | rfl | hz
      · exact w1
      · exact w2'
      · exact w4
      · exact w5
      · exact hz)
    have hS : CallFix p m c cc nL s args Ts own := ⟨X.1, X.2.1, X.2.2.1, X.2.2.2.1, X.2.2.2.2.1⟩
    have hR1 := X.2.2.2.2.2.2.2.2.2.2.1
    have hR2 := X.2.2.2.2.2.2.2.2.2.2.2
    have e2 : (as.reverse ++ st).map (rv G) = (as.map (rv G)).reverse ++ st.map (rv G) := by simp
    rw [e2]
    have hr := vx_runSW (As := as.map (rv G)) (rest := st.map (rv G)) (g := F0 m pc rl ((as.map (rv G)).reverse ++ st.map (rv G))) (H := H) (locs := locs) (cells := n - n0) (slots := kk) (e := e) (l := l) (below := below) (meth := meth) hS (hM G) (vx_cwSW (R := R) na X.2.2.2.2.1 hG rfl rfl rfl hd0 ⟨by rw [hR1]; exact hf, by rw [hR2]; exact hlo⟩) ⟨fun a U g mk q => ⟨q.1, q.2.1, rKK.same (u := U) rfl q.2.2.1, va_Nc.moved (u := U) (Vm.Alike.refl U.vm) q.2.2.2⟩, fun U hU hW => ⟨rfl, by rw [hU]; exact hP, X.2.2.2.2.2.1.warm hW, va_Nc.moved hW.alike hX.2.2.2.2⟩⟩ rfl (by rw [List.length_map]; exact hlen) hl.1 rfl (lv_room (by rw [rSum_eq G X.2.2.2.2.2.1.2.2.1]; exact hs)) hd ⟨by omega, by omega⟩
    intro T hT Xs
    obtain ⟨v, st₀, t, T', L9, k0, X', hL', e1, e3, ⟨g1, g2, g3⟩, stp⟩ := hr T hT Xs
    cases g1
    have hW := hV p e R s m args below meth c X r1 r2 (by omega) rl T'.heap (locs ++ L9) hl (by rw [e1]; exact g2) (fun x hx => by
      rcases List.mem_append.mp hx with z | z
      · exact hL x z
      · exact hL' x z)
    rw [show n2 - n0 = n - n0 + (n2 - n) by omega] at hW
    obtain ⟨t2, a1, b3⟩ := hW T' rfl X'
    exact ⟨t2, stp t2 a1, b3⟩
  · exact W.now fun t h => absurd h hX
end VR
