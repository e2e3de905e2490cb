/-! HELPERS OF THE LAW: a call that throws, caught -/
theorem rM1_e {F : rEv} {q : rMe} (h : rM1 F q = true) : ∃ w1, F q.1.1 q.1.2.1 q.1.2.2 = some (q.2.1, (w1, (q.2.2.2.1, q.2.2.2.2))) ∧ ∀ (i : Nat) (x : rCC), wGet i q.2.2.1 = some x → wGet i w1 = some x := by
  have h2 : (Option.rec false (fun o' => rWk o' q.2) (F q.1.1 q.1.2.1 q.1.2.2) : Bool) = true := h
  cases e : F q.1.1 q.1.2.1 q.1.2.2 with
  | none => rw [e] at h2; cases h2
  | some o1 =>
    rw [e] at h2
    obtain ⟨e1, e2, e3, e4⟩ := rWk_e h2
    refine ⟨o1.2.1, ?_, e4⟩
    rw [← e1, ← e2, ← e3]
section VH
variable {cl : List vw_C} {fo : List rCC} {zs : List (String × String × String × rCV)} {rs : List (String × Nat × String × Nat)} {ns : List Cond} {Ts : List Cond} {G : rGm}
variable {l : Launch} {cc : ByteArray} {nL n0 : Nat} {own : String} {pc : Nat} {ret : Option FieldType} {ini : Bool} {fr lo : Nat}
theorem rIni_at (hx : ∀ i : Nat, G.2.2.2.1 i = .null ∨ ∃ a, G.2.2.2.1 i = .ref a) {nL : Nat} {as : List rCV} {ls : rLs} (h : ∀ k : rLs → Option rOut, rIni nL as k = k ls) : ls.map (rLv G) = lv_args 0 (as.map (rv G)) ∧ (lg_sl (as.map (rv G))).length ≤ nL := by
  classical
  obtain ⟨ls', h1, h2, h3⟩ := rIni_go (G := G) hx (nL := nL) (o := (none, ([], (0, 0)))) as 0 (fun l => if l = ls then some (none, ([], (0, 0))) else none) ((h _).trans (if_pos rfl))
  have h1 : (if ls' = ls then some ((none, ([], (0, 0))) : rOut) else none) = some (none, ([], (0, 0))) := h1
  by_cases e : ls' = ls
  · subst e
    exact ⟨h2, by omega⟩
  · rw [if_neg e] at h1; cases h1
variable {p : Program} {e : Env} {R : Room} {s : State} {m : MethodId} {args : Array Value} {below : List Frame} {meth : Method} {c : Code} {H : Heap} {locs : List Loc} {cells slots : Nat} {rl : Array Slot}
theorem w_callX {F : rEv} {y : MethodName} {bytes : ByteArray} {maxL : Nat} {rt : Option FieldType} {fr' lo' ix : Nat} (na ci : Nat) {C : String} {T : u_T} {N : Nat} (hc : cl[ci]? = some (C, T, N)) (hM : rMetX cl fo zs rs ns Ts l y bytes maxL rt fr' lo' F) (hg : ∀ w ∈ Ts, goodWord w = true)
    (w1 : Cond.methodLink own ix y ∈ Ts) (w2 : Cond.instanceMethod y ∈ Ts) (w3 : Cond.selects C y y ∈ Ts) (w4 : Cond.initialized C ∈ Ts) (w5 : Cond.code y bytes maxL rt ∈ Ts) (hd0 : y.cls = C ∧ y.cls ≠ "java/lang/invoke/MethodHandle" ∧ y.cls ≠ "java/lang/invoke/VarHandle" ∧ (parseMethodDescriptor y.desc).map (fun d => d.parameters.length) = some na) (hf : fr' + 1 ≤ fr) (hlo : 8 + (maxL + 11) + lo' ≤ lo)
    {as st : List rCV} {w : rWd} {n : Nat} {q : rOut} (hF : F as w n = some q) (hlen : as.length = na + 1) (hs : rSum st ≤ 8) (hok : rRecv fo ci as w n = some ()) (X : rCx cl fo zs rs ns Ts G p R s m args meth c cc nL own ret ini fr lo) (hsz : rl.size = nL) (hP : rPic cl G w n H) (q1 : cells + (q.2.2.1 - n) ≤ R.cells) (q2 : slots + q.2.2.2 ≤ R.slots) (hd : decode cc pc = .ok (.invokevirtual ix, 3)) :
    vx_Run p l e R s m args below meth c H locs cells slots (q.2.2.1 - n) q.2.2.2 (F0 m pc rl ((as.reverse ++ st).map (rv G))) (st.map (rv G)) (fun _ _ _ => False) (rXC cl G q) (fun a => G.2.2.1 ≤ a) := by
  obtain ⟨v, as', b, rfl, hb, cellB, g1, g2, g3⟩ := recv_some hok X.2.2.2.2.2.1 hP hc
  have hG : GoodIn Ts (wsV own ix C y (.code y bytes maxL rt :: Ts)) := good_in hg (fun z hz => by
    unfold wsV at hz
    simp only [List.mem_append, List.mem_cons, List.not_mem_nil, or_false] at hz
    rcases hz with (rfl | rfl | rfl | rfl) | rfl | hz
    · exact w1
    · exact w2
    · exact w3
    · exact w4
    · exact w5
    · exact hz)
  have hS : CallFix p m c cc nL s args Ts own := ⟨X.1, X.2.1, X.2.2.1, X.2.2.2.1, X.2.2.2.2.1⟩
  have hR1 := X.2.2.2.2.2.2.2.2.2.2.1
  have hR2 := X.2.2.2.2.2.2.2.2.2.2.2
  have e1 : (as'.map (rv G)).length = na := by rw [List.length_map]; simpa using hlen
  have e2 : ((v :: as').reverse ++ st).map (rv G) = (as'.map (rv G)).reverse ++ .ref b :: st.map (rv G) := by simp [hb]
  have e3 : (v :: as').map (rv G) = .ref b :: as'.map (rv G) := by simp [hb]
  obtain ⟨-, hMet⟩ := hM G (v :: as') w n q hF
  rw [e3] at hMet
  rw [e2]
  exact vx_runV (As := as'.map (rv G)) (rest := st.map (rv G)) hS hMet (cwV na X.2.2.2.2.1 hG rfl rfl rfl hd0 ⟨by rw [hR1]; exact hf, by rw [hR2]; exact hlo⟩) ⟨rBlind _ _ _, ⟨cellB, g1, g2, g3⟩, fun U hU hW => ⟨rfl, by rw [hU]; exact hP, X.2.2.2.2.2.1.warm hW⟩⟩ rfl e1 hsz rfl (lv_room (by rw [rSum_eq G X.2.2.2.2.2.1.2.2.1]; exact hs)) hd ⟨q1, q2⟩
theorem w_caught {q : rOut} {mc ms : Nat} {st0 rest : List Value} {name : String} {Q : State → Prop} (hr : vx_Run p l e R s m args below meth c H locs cells slots mc ms (F0 m pc rl st0) rest (fun _ _ _ => False) (rXC cl G q) (fun a => G.2.2.1 ≤ a)) (hown : s.vm.findClass own = some m.cls)
    (pre : List ExceptionTableEntry) (x : ExceptionTableEntry) (suf : List ExceptionTableEntry) (hsplit : c.exceptionTable.toList = pre ++ x :: suf) (hpass : ∀ z ∈ pre, covers z pc = false ∨ (z.catchType ≠ 0 ∧ ∃ nm : String, (Cond.classLink own z.catchType nm).before args s = true ∧ va_Nc (exN q.1) nm s)) (hx : covers x pc = true) (h0 : x.catchType ≠ 0)
    (hlink : (Cond.classLink own x.catchType name).before args s = true) (hcast : (Cond.castable (exN q.1) name).before args s = true) (hsz : s.heap.size + (cells + mc) ≤ G.2.2.1 + q.2.2.1)
    (kk : ∀ (H' : Heap) (L : List Loc) (qa : Nat), rPic cl G q.2.1 q.2.2.1 H' → (∀ z ∈ L, G.2.2.1 ≤ z.base) → W p l e R s m args below meth c H' (locs ++ L) (cells + mc) (slots + ms) Q (F0 m x.handlerPc rl [.ref qa])) : W p l e R s m args below meth c H locs cells slots Q (F0 m pc rl st0) := by
  intro T hT Xs
  rcases hr T hT Xs with ⟨v, st₀, t, T', L, k0, X', hL', e1, e2, hfalse, st⟩ | ⟨qa, st₀, t, T', L, E, ce, k0, X', hL', e1, e2, ⟨hE, n', hn', hPic⟩, hce, hcv, hcl, st⟩
  · exact hfalse.elim
  · subst hE
    have hub : T'.heap.size ≤ s.heap.size + (cells + mc) := X'.same.2.2.1
    have hn2 : n' = q.2.2.1 := by
      have := hPic.1
      rw [← e1] at this
      omega
    rw [hn2] at hPic
    have hk := kk T'.heap L qa (by rw [e1]; exact hPic) hL'
    obtain ⟨t2, a1, b1⟩ := vx_catch (rest := rest) hown pre x suf hsplit hpass hx h0 hlink hcast (by rw [e1]; exact hce) hcv hcl hk T' rfl X'
    exact ⟨t2, st.trans a1, b1⟩
end VH
