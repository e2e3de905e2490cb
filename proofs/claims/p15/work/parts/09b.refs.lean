/-! THE RUNNER'S ROWS: rows of texts -/
section RB
variable {cl : List vw_C} {fo : List rCC} {zs : List (String × String × String × rCV)} {rs : List (String × Nat × String × Nat)} {ns : List Cond} {Ts : List Cond} {G : rGm}
variable {l : Launch} {cc : ByteArray} {nL n0 : Nat} {own : String} {pc : Nat} {ret : Option FieldType} {ini : Bool} {fr lo : Nat} {Qf : rQf}
theorem s_ldcSw (i : Nat) {ix : Nat} {tx : String} (hw : (own, ix, tx, i) ∈ rs) (hd : decode cc pc = .ok (.ldc_w ix, 3)) : HS (rW cl fo zs rs ns Ts G l cc nL own ret ini fr lo n0 Qf) pc (pc + 3) (h_v (.inr (.inr (2 * i + 2)))) := by
  apply s_row
  intro k0 ls st w n kk o e0
  refine ⟨_, e0, fun p e R s m args below meth c X rl H locs cells slots Q hl hk => ?_⟩
  obtain ⟨a, h1, h2⟩ := X.2.2.2.2.2.1.2.2.2.2.1 _ hw
  rw [List.map_cons, rv_ext G (by omega) (by omega), show (2 * i + 2) / 2 - 1 = i by omega, h1] at hk
  intro T hT Xs
  obtain ⟨t, a1, b1⟩ := hk T hT Xs
  exact ⟨t, Jvm.Stand.ldcStringW Xs X.1 X.2.2.2.1 (text := tx) (a := a) h2.1 h2.2 (g := F0 m pc rl (st.map (rv G))) rfl (by rw [X.2.1]; exact hd) t a1, b1⟩
theorem s_mmin {ix : Nat} (w1 : Cond.methodLink own ix Lib.Math.min.name ∈ Ts) (w2 : Cond.static Lib.Math.min.name ∈ Ts) (w3 : Cond.initialized "java/lang/Math" ∈ Ts) (w4 : Cond.code Lib.Math.min.name Lib.Math.min.code 2 (some .int) ∈ Ts) (hf : 1 ≤ fr) (hlo : 21 ≤ lo) (hd : decode cc pc = .ok (.invokestatic ix, 3)) : HS (rW cl fo zs rs ns Ts G l cc nL own ret ini fr lo n0 Qf) pc (pc + 3) h_mmin := by
  intro k0 ls st w n kk o e0
  obtain ⟨y, st1, rfl, h1⟩ := rP_some e0
  obtain ⟨x, st2, rfl, h2⟩ := rP_some h1
  obtain ⟨hsum, h3⟩ := rB_yes h2
  obtain ⟨b, rfl, h4⟩ := rI_some h3
  obtain ⟨a, rfl, h5⟩ := rI_some h4
  rw [rN_eq] at h5
  refine ⟨_, _, _, _, _, h5, Nat.le_refl _, Nat.le_refl _, fun ho1 ho2 hV p e R s m args below meth c X r1 r2 r3 rl H locs hl hP hL => ?_⟩
  have hR1 := X.2.2.2.2.2.2.2.2.2.2.1
  have hR2 := X.2.2.2.2.2.2.2.2.2.2.2
  have hsm := rSum_eq G X.2.2.2.2.2.1.2.2.1 st2
  have hsum' : rSum st2 ≤ 8 := Nat.ble_eq.mp hsum
  have hV' := hV p e R s m args below meth c X r1 r2 r3 rl H locs hl hP hL
  refine va_mmin (x := nI a) (y := nI b) X.1 X.2.1 (by rw [X.2.2.1]; exact hl.1.symm) X.2.2.2.1 (X.2.2.2.2.1 _ w1) (X.2.2.2.2.1 _ w2) (X.2.2.2.2.1 _ w3) (X.2.2.2.2.1 _ w4) (by rw [hR1]; exact hf) (by rw [hR2, hsm]; omega) (by omega) (by omega) hd ?_
  have e1 : (if nI b < nI a then nI b else nI a) = nI (rB (rLt b a) b a) := by
    cases e : rLt b a
    · rw [if_neg (fun q => by rw [(n_lt b a).mp q] at e; cases e)]
      rfl
    · rw [if_pos ((n_lt b a).mpr e)]
      rfl
  rw [e1]
  exact hV'
theorem s_anewa {ix : Nat} (w1 : Cond.classLink own ix "java/lang/String" ∈ Ts) (w2 : Cond.arrayOver (.object "java/lang/String") ∈ ns) (hd : decode cc pc = .ok (.anewarray ix, 3)) : HS (rW cl fo zs rs ns Ts G l cc nL own ret ini fr lo n0 Qf) pc (pc + 3) h_anewa := by
  intro k0 ls st w n kk o e0
  obtain ⟨x, st', rfl, h2⟩ := rP_some e0
  obtain ⟨N, rfl, h3⟩ := rI_some h2
  obtain ⟨h4, h5⟩ := rB_yes h3
  have hN : N ≤ 60000000 := Nat.ble_eq.mp h4
  rw [rN_eq, rN_eq, rN_eq] at h5
  refine ⟨_, _, _, _, _, h5, Nat.le_succ _, Nat.le_add_right _ _, fun ho1 ho2 hV p e R s m args below meth c X r1 r2 r3 rl H locs hl hP hL => ?_⟩
  have ho1' : n + 1 ≤ o.2.2.1 := ho1
  have ho2' : kk + N ≤ o.2.2.2 := ho2
  have hcl : (nI N).toNatClampNeg = N := nI_clamp (by omega)
  refine W.anew X.1 X.2.1 X.2.2.2.1 (X.2.2.2.2.1 _ w1) (X.2.2.2.2.2.1.2.1.2 _ w2).1 rfl hd rfl (nI_pos (by omega)) (by rw [hcl]; omega) (by omega) (by rw [hcl]; omega) fun cA kA comp f1 f2 f3 f4 => ?_
  rw [hcl]
  obtain ⟨kA', comp', -, -, -, g4⟩ := (X.2.2.2.2.2.1.1.2 4 _ (rTys_at (by decide))).2
  have hcA : cA = G.2.1 4 := Option.some.inj (f1.symm.trans g4)
  subst hcA
  generalize hH1 : H.push ({ cls := G.2.1 4, slots := Array.replicate N .null, vm := .none } : Cell) = H1
  have z1 : H1.size = H.size + 1 := by rw [← hH1, Array.size_push]
  have e1 : H1[H.size]? = some (arrV (G.2.1 4) N (fun _ => .null)) := by rw [← hH1, Array.getElem?_push_size, ← arrV_new]
  have o1 : ∀ q : Nat, q < H.size → H1[q]? = H[q]? := fun q hq => by rw [← hH1, Array.getElem?_push, if_neg (Nat.ne_of_lt hq)]
  have hpic : rPic cl G ((n, .inr (4, N, .inr (.inr 0), [])) :: w) (n + 1) H1 := pic_push hP rfl ⟨by decide, hN, by
    rw [e1]
    refine congrArg some (congrArg (arrV _ N) (funext fun j => ?_))
    rw [rL_eq]
    rfl⟩ z1 o1
  have hV' := hV p e R s m args below meth c X r1 r2 (by omega) rl H1 locs hl hpic hL
  rw [List.map_cons, rv_own G (by show (2 * n + 1) % 2 = 1; omega), show G.2.2.1 + Nat.succ (Nat.mul 2 n) / 2 = H.size by rw [hP.1]; show _ + (2 * n + 1) / 2 = _; omega] at hV'
  rw [show n - n0 + 1 = Nat.succ n - n0 by omega]
  exact hV'
theorem s_aastS {T : u_T} {N9 : Nat} (hc0 : cl[0]? = some ("java/lang/String", T, N9)) (hd : decode cc pc = .ok (.aastore, 1)) : HS (rW cl fo zs rs ns Ts G l cc nL own ret ini fr lo n0 Qf) pc (pc + 1) (h_astS fo) := by
  intro k0 ls st w n kk o e0
  obtain ⟨v, st0, rfl, h0⟩ := rP_some e0
  obtain ⟨y, st1, rfl, h1⟩ := rP_some h0
  obtain ⟨x, st2, rfl, h2⟩ := rP_some h1
  have hrec : rRecv fo 0 [v] w n = some () := by
    cases e : rRecv fo 0 [v] w n with
    | none => rw [e] at h2; cases h2
    | some u => rfl
  rw [hrec] at h2
  obtain ⟨i, rfl, h3⟩ := rI_some h2
  obtain ⟨r, rfl, h31⟩ := rR_some h3
  obtain ⟨q1, cell, hp, h⟩ := rO_some h31
  obtain ⟨t, N, d, mm, rfl, h5⟩ := rCA_some h
  obtain ⟨h7, h8⟩ := rB_yes h5
  obtain ⟨h6, h9⟩ := rB_yes h8
  have h6 : i < N := Nat.blt_eq.mp h6
  have ht : t = 4 := Nat.eq_of_beq_eq_true h7
  subst ht
  rw [rN_eq, rU_eq] at h9
  have h11 := rWS_some _ _ h9
  refine ⟨ls, st2, _, n, kk, h11, Nat.le_refl _, Nat.le_refl _, fun _ _ hV p e R s m args below meth c X r1 r2 r3 rl H locs hl hP hL => ?_⟩
  obtain ⟨c1, c2, c3⟩ := pic_cell hP hp
  obtain ⟨v', as', b, ev, hb, cellB, g1, g2, g3⟩ := recv_some hrec X.2.2.2.2.2.1 hP hc0
  cases ev
  obtain ⟨kA, comp, k1, k2, k3, k4⟩ := (X.2.2.2.2.2.1.1.2 4 _ (rTys_at (by decide))).2
  obtain ⟨kE, hkE, -⟩ := Vm.findClass_spec k3
  have hcc : comp = cellB.cls := Option.some.inj (k3.symm.trans g3)
  rw [List.map_cons, List.map_cons, List.map_cons, rv_own G q1, hb]
  refine W.aast X.1 X.2.1 c3 (fun q h => by cases h) (fun h => by cases h) k1 k2 rfl hkE ⟨nI_pos (by omega), by rw [nI_clamp (by omega)]; show _ < (arrV _ _ _).slots.size; rw [arrV_size]; exact h6⟩ g1 (fun q h => by rw [h] at g2; cases g2) (by rw [← hcc]; exact hkE) (by rw [← hcc]; exact va_asg _ _) rfl rfl hd fun H1 e1 z1 o1 => ?_
  refine hV p e R s m args below meth c X r1 r2 r3 rl H1 _ hl (pic_set hP hp rfl ⟨by decide, c2, ?_⟩ z1 o1) (locs_put hL)
  rw [e1, arrV_store, nI_clamp (by omega), ← hb]
  exact congrArg some (arr_up _)
end RB
