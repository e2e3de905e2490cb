/-! THE RUNNER'S ROWS FOR OBJECTS, MAKING, ENDS -/
theorem rSum_eq (G : rGm) (h : ∀ i : Nat, G.2.2.2.1 i = .null ∨ ∃ a, G.2.2.2.1 i = .ref a) : ∀ st : List rCV, ((st.map (rv G)).map fun v => v.category).sum = rSum st
  | [] => rfl
  | v :: st => by
    rw [List.map_cons, List.map_cons, List.sum_cons, rSum_eq G h st, rv_cat G h]
    rfl
section RO
variable {cl : List vw_C} {fo : List rCC} {zs : List (String × String × String × rCV)} {rs : List (String × Nat × String × Nat)} {ns : List Cond} {Ts : List Cond} {G : rGm}
variable {l : Launch} {cc : ByteArray} {nL n0 : Nat} {own : String} {pc : Nat} {ret : Option FieldType} {ini : Bool} {fr lo : Nat} {Qf : rQf}
theorem s_get {C ref : String} {T : u_T} {N ci index : Nat} (j : Nat) (hin : ∀ w ∈ u_ws C T N, w ∈ Ts) (hc : cl[ci]? = some (C, T, N)) (hj : j < N) (hlink : Cond.fieldLink own index ref (T j).2.1 (T j).2.2.1 ∈ Ts) (hsame : ref = (T j).1) (hd : decode cc pc = .ok (.getfield index, 3)) : HS (rW cl fo zs rs ns Ts G l cc nL own ret ini fr lo n0 Qf) pc (pc + 3) (h_get fo ci j) := by
  apply s_rowH
  intro k0 ls st w n kk o e0
  obtain ⟨x, st', rfl, h2⟩ := rP_some e0
  obtain ⟨r, rfl, h3⟩ := rR_some h2
  have fin : ∀ (ci' : Nat) (fs : List rCV), rB (Nat.beq ci' ci) (rG fs j (fun v => k0 ls (v :: st') w n kk)) none = some o → ci' = ci ∧ ∃ v, fs[j]? = some v ∧ k0 ls (v :: st') w n kk = some o := fun ci' fs h => by
    obtain ⟨h4, h5⟩ := rB_yes h
    obtain ⟨v, h6, h7⟩ := rG_some _ _ h5
    exact ⟨Nat.eq_of_beq_eq_true h4, v, h6, h7⟩
  rcases rOF_some h3 with ⟨a, x, f, h⟩ | ⟨a, b, x, f, h⟩
  · obtain ⟨ci', fs, rfl, h5⟩ := rCO_some h
    obtain ⟨rfl, v, h6, h7⟩ := fin ci' fs h5
    refine ⟨_, h7, fun p e R s m args below meth c X rl H locs cells slots Q hP hk => ?_⟩
    rw [List.map_cons, rv_own G a]
    have hc1 := pic_obj hP f hc
    have hP1 : va_P G.1 cl [(G.2.2.1 + r / 2, .inr (ci', fs.map (rv G)))] H := fun k9 q9 h9 => by
      have h0 : k9 < 1 := (List.getElem?_eq_some_iff.mp h9).1
      rw [show k9 = 0 by omega] at h9
      cases h9
      exact hc1
    exact va_get (D := G.1) (ci := ci') (v := rv G v) (C := C) (T := T) (N := N) X.1 X.2.1 X.2.2.2.2.1 hin X.2.2.2.1 X.2.2.2.2.2.1.1 hP1 0 rfl hc j hj (X.2.2.2.2.1 _ hlink) (fun _ h9 => by rw [hsame]; exact h9) (by rw [List.getElem?_map, h6]; rfl) hd hk
  · obtain ⟨ci', fs, rfl, h5⟩ := rCO_some h
    obtain ⟨rfl, v, h6, h7⟩ := fin ci' fs h5
    refine ⟨_, h7, fun p e R s m args below meth c X rl H locs cells slots Q hP hk => ?_⟩
    obtain ⟨q, cell, r0, g1, g2, g3, g4, g5, g6, g7⟩ := X.2.2.2.2.2.1.2.2.2.2.2 _ _ f
    have hr : r0 = (C, T, N) := Option.some.inj (g4.symm.trans hc)
    subst hr
    rw [List.map_cons, rv_ext G a b, g1]
    obtain ⟨hS, hfc, kC, hkC, hkind⟩ := X.2.2.2.2.2.1.1.1 ci' _ hc
    obtain ⟨cf, kf, fi, f9, hi, hsl⟩ := hS j hj
    refine W.getf X.1 X.2.1 X.2.2.2.1 (X.2.2.2.2.1 _ hlink) (by rw [hsame]; exact hi) (u_facts hfc hkC (u_lays X.2.2.2.2.1 hin hj) hi).1 (by rw [hP.2.1 q g2]; exact g3) g6.2 (v := rv G v) ?_ rfl rfl hd hk
    rw [hsl]
    exact g7 j v h6
theorem s_put {C ref : String} {T : u_T} {N ci index : Nat} (ty0 : Nat → FieldType) (j : Nat) (ok : rCV → Bool) (hin : ∀ w ∈ u_ws C T N, w ∈ Ts) (hty : ∀ k, k < N → parseFieldDescriptor (T k).2.2.1 = some (ty0 k)) (hnm : ∀ a, a < N → ∀ b, b < N → a ≠ b → (T a).2.1 ≠ (T b).2.1) (hc : cl[ci]? = some (C, T, N)) (hj : j < N) (hlink : Cond.fieldLink own index ref (T j).2.1 (T j).2.2.1 ∈ Ts) (hsame : ref = (T j).1) (hfin : (T j).2.2.2 = false) (hok : (∀ i : Nat, G.2.2.2.1 i = .null ∨ ∃ a, G.2.2.2.1 i = .ref a) → ∀ v, ok v = true → narrow (ty0 j) (rv G v) = rv G v ∧ fits (ty0 j) (rv G v) = true) (hd : decode cc pc = .ok (.putfield index, 3)) : HS (rW cl fo zs rs ns Ts G l cc nL own ret ini fr lo n0 Qf) pc (pc + 3) (h_put ci j ok) := by
  intro k0 ls st w n kk o e0
  obtain ⟨v, st1, rfl, h1⟩ := rP_some e0
  obtain ⟨x, st2, rfl, h2⟩ := rP_some h1
  obtain ⟨h3, h4⟩ := rB_yes h2
  obtain ⟨r, rfl, h5⟩ := rR_some h4
  obtain ⟨q1, cell, hp, h⟩ := rO_some h5
  obtain ⟨ci', fs, rfl, h6⟩ := rCO_some h
  obtain ⟨h7, h8⟩ := rB_yes h6
  have e9 : ci' = ci := Nat.eq_of_beq_eq_true h7
  subst e9
  obtain ⟨h9, h10⟩ := rS_some _ _ _ h8
  have h12 := rWS_some _ _ h10
  refine ⟨ls, st2, _, n, kk, h12, Nat.le_refl _, Nat.le_refl _, fun _ _ hV p e R s m args below meth c X r1 r2 r3 rl H locs hl hP hL => ?_⟩
  have hK := X.2.2.2.2.2.1.1
  have hap := va_apart (own := own) X.2.2.2.2.1 hin ty0 hty hnm hK hc
  obtain ⟨r0, hr0, cell, d1, d2, d3, d4⟩ := pic_obj hP hp hc
  have hr : r0 = (C, T, N) := Option.some.inj (hr0.symm.trans hc)
  subst hr
  obtain ⟨hS, hfc, kC, hkC, hkind⟩ := hK.1 ci' _ hc
  obtain ⟨cf, kf, fi, f9, hi, hsl⟩ := hS j hj
  have hlay := X.2.2.2.2.1 _ (hin _ (u_in_lay hj))
  unfold u_lay at hlay
  rw [if_neg (by rw [hfin]; decide)] at hlay
  have hst := (u_facts hfc hkC (u_lays X.2.2.2.2.1 hin hj) hi).1
  have h6 := u_store hfc hkC hkind hlay hi (hty j hj) (hok X.2.2.2.2.2.1.2.2.1 v h3).1 (hok X.2.2.2.2.2.1.2.2.1 v h3).2
  rw [List.map_cons, List.map_cons, rv_own G q1]
  refine W.putK X.1 X.2.1 (f := f9) ⟨X.2.2.2.1, X.2.2.2.2.1 _ hlink, ⟨_, _, _, by rw [hsame]; exact hi⟩, hst⟩ (by rw [d2]; exact h6) d1 d3 (by rw [hsl]; exact k2_hasslot (d4 j hj)) rfl rfl hd fun H' e1 e2 e3 => ?_
  rw [hsl] at e1 ⊢
  refine hV p e R s m args below meth c X r1 r2 r3 rl H' _ hl (pic_set hP hp (rLen_o hc) (Or.inl ⟨_, hc, t_OB.to (V := updV (vp_V (fs.map (rv G))) j (rv G v)) ⟨_, e1, d2, d3, t_set d4 hap hj (rv G v)⟩ (fun i9 _ => ?_)⟩) e2 e3) (locs_put hL)
  rw [List.map_set]
  exact vp_updV_set (by rw [List.length_map]; exact h9) (rv G v) i9
theorem s_putF {C ref : String} {T : u_T} {N ci index : Nat} (ty0 : Nat → FieldType) (j : Nat) (ok : rCV → Bool) (hin : ∀ w ∈ u_ws C T N, w ∈ Ts) (hty : ∀ k, k < N → parseFieldDescriptor (T k).2.2.1 = some (ty0 k)) (hnm : ∀ a, a < N → ∀ b, b < N → a ≠ b → (T a).2.1 ≠ (T b).2.1) (hc : cl[ci]? = some (C, T, N)) (hj : j < N) (hlink : Cond.fieldLink own index ref (T j).2.1 (T j).2.2.1 ∈ Ts) (hsame : ref = (T j).1) (hfin : (T j).2.2.2 = true) (hin2 : ini = true) (hdecl : (T j).1 = own) (hok : (∀ i : Nat, G.2.2.2.1 i = .null ∨ ∃ a, G.2.2.2.1 i = .ref a) → ∀ v, ok v = true → narrow (ty0 j) (rv G v) = rv G v ∧ fits (ty0 j) (rv G v) = true) (hd : decode cc pc = .ok (.putfield index, 3)) : HS (rW cl fo zs rs ns Ts G l cc nL own ret ini fr lo n0 Qf) pc (pc + 3) (h_put ci j ok) := by
  intro k0 ls st w n kk o e0
  obtain ⟨v, st1, rfl, h1⟩ := rP_some e0
  obtain ⟨x, st2, rfl, h2⟩ := rP_some h1
  obtain ⟨h3, h4⟩ := rB_yes h2
  obtain ⟨r, rfl, h5⟩ := rR_some h4
  obtain ⟨q1, cell, hp, h⟩ := rO_some h5
  obtain ⟨ci', fs, rfl, h6⟩ := rCO_some h
  obtain ⟨h7, h8⟩ := rB_yes h6
  have e9 : ci' = ci := Nat.eq_of_beq_eq_true h7
  subst e9
  obtain ⟨h9, h10⟩ := rS_some _ _ _ h8
  have h12 := rWS_some _ _ h10
  refine ⟨ls, st2, _, n, kk, h12, Nat.le_refl _, Nat.le_refl _, fun _ _ hV p e R s m args below meth c X r1 r2 r3 rl H locs hl hP hL => ?_⟩
  have hK := X.2.2.2.2.2.1.1
  have hap := va_apart (own := own) X.2.2.2.2.1 hin ty0 hty hnm hK hc
  obtain ⟨r0, hr0, cell, d1, d2, d3, d4⟩ := pic_obj hP hp hc
  have hr : r0 = (C, T, N) := Option.some.inj (hr0.symm.trans hc)
  subst hr
  obtain ⟨hS, hfc, kC, hkC, hkind⟩ := hK.1 ci' _ hc
  obtain ⟨cf, kf, fi, f9, hi, hsl⟩ := hS j hj
  have hlay := X.2.2.2.2.1 _ (hin _ (u_in_lay hj))
  unfold u_lay at hlay
  rw [if_pos hfin] at hlay
  have hst := (u_facts hfc hkC (u_lays X.2.2.2.2.1 hin hj) hi).1
  have hcf : m.cls = cf := by
    obtain ⟨_, _, c', _, _, _, -, -, hf', -, -, -, hown2, -⟩ := Cond.laysFinal_spec hlay
    have e1 : c' = cf := by have := hi.symm.trans hf'; simp at this; exact this.1.symm
    rw [hdecl] at hown2
    rw [← e1]; exact Option.some.inj (X.2.2.2.1.symm.trans hown2)
  have h6 := u_fits hfc hkC hkind (Or.inr hlay) hi (hty j hj) (hok X.2.2.2.2.2.1.2.2.1 v h3).1 (hok X.2.2.2.2.2.1.2.2.1 v h3).2
  rw [List.map_cons, List.map_cons, rv_own G q1]
  refine W.putFinK X.1 X.2.1 X.2.2.2.1 (X.2.2.2.2.1 _ hlink) (by rw [hsame]; exact hi) hst hcf (X.2.2.2.2.2.2.2.2.2.1 hin2) (by rw [d2]; exact h6) d1 d3 (by rw [hsl]; exact k2_hasslot (d4 j hj)) rfl rfl hd fun H' e1 e2 e3 => ?_
  rw [hsl] at e1 ⊢
  refine hV p e R s m args below meth c X r1 r2 r3 rl H' _ hl (pic_set hP hp (rLen_o hc) (Or.inl ⟨_, hc, t_OB.to (V := updV (vp_V (fs.map (rv G))) j (rv G v)) ⟨_, e1, d2, d3, t_set d4 hap hj (rv G v)⟩ (fun i9 _ => ?_)⟩) e2 e3) (locs_put hL)
  rw [List.map_set]
  exact vp_updV_set (by rw [List.length_map]; exact h9) (rv G v) i9
theorem s_new {C : String} {T : u_T} {N ci index : Nat} {fs : List rCV} (ty0 : Nat → FieldType) (hin : ∀ w ∈ u_ws C T N, w ∈ Ts) (hty : ∀ k, k < N → parseFieldDescriptor (T k).2.2.1 = some (ty0 k)) (hc : cl[ci]? = some (C, T, N)) (hlink : Cond.classLink own index C ∈ Ts) (hinst : Cond.instantiable C N ∈ Ts) (hini : Cond.initialized C ∈ Ts) (hfs : (List.range N).map (fun j => defaultValue (ty0 j)) = fs.map (fun v => match v with | .inl a => .int (nI a) | .inr (.inl a) => .long (lN a) | .inr (.inr _) => .null)) (hz : fs.all (fun v => match v with | .inr (.inr (_ + 1)) => false | _ => true) = true) (hd : decode cc pc = .ok (.new index, 3)) : HS (rW cl fo zs rs ns Ts G l cc nL own ret ini fr lo n0 Qf) pc (pc + 3) (h_new ci N fs) := by
  intro k0 ls st w n kk o e0
  have e0 : rN (Nat.add kk N) _ = some o := e0
  rw [rN_eq, rN_eq, rN_eq] at e0
  refine ⟨_, _, _, _, _, e0, Nat.le_succ _, Nat.le_add_right _ _, fun ho1 ho2 hV p e R s m args below meth c X r1 r2 r3 rl H locs hl hP hL => ?_⟩
  have hKn := X.2.2.2.2.2.1.1.1 ci _ hc
  have ho1' : n + 1 ≤ o.2.2.1 := ho1
  have ho2' : kk + N ≤ o.2.2.2 := ho2
  refine W.newcK X.1 X.2.1 X.2.2.2.1 (X.2.2.2.2.1 _ hlink) (X.2.2.2.2.1 _ hinst) (X.2.2.2.2.1 _ hini) rfl hd (by omega) (by omega) hKn.2.1 rfl fun H1 kC hkC e1 z1 o1 => ?_
  have hb := u_born ty0 X.2.2.2.2.1 hin hKn hkC e1 hty
  have hrv : fs.map (rv G) = (List.range N).map (fun j => defaultValue (ty0 j)) := by
    rw [hfs]
    apply List.map_congr_left
    intro v hv
    have := List.all_eq_true.mp hz v hv
    rcases v with a | a | a
    · rfl
    · rfl
    · cases a with
      | zero => rfl
      | succ a => cases this
  have hpic : rPic cl G ((n, .inl (ci, fs)) :: w) (n + 1) H1 := pic_push hP (rLen_o hc) (Or.inl ⟨_, hc, hb.to (fun i9 h9 => by
    rw [hrv]
    show _ = ((List.range N).map (fun j => defaultValue (ty0 j))).getD i9 .null
    rw [List.getD_eq_getElem?_getD, List.getElem?_map, List.getElem?_range h9]
    rfl)⟩) z1 o1
  have hV' := hV p e R s m args below meth c X r1 r2 (by omega) rl H1 locs hl hpic hL
  rw [List.map_cons, rv_own G (by show (2 * n + 1) % 2 = 1; omega), show G.2.2.1 + Nat.succ (Nat.mul 2 n) / 2 = H.size by rw [hP.1]; show _ + (2 * n + 1) / 2 = _; omega] at hV'
  rw [show n - n0 + 1 = Nat.succ n - n0 by omega]
  exact hV'
theorem s_newa {at' : ArrayType} (t : Nat) (dv : rCV) (ht : t < 7) (hat : newarray.typeOf at' = rTy t) (hdv : rv G dv = defaultValue (rTy t)) (hpr : ∀ U : State, ∀ cA : ClassId, va_RA U cA (rTy t) → U.vm.findClass ("[" ++ (rTy t).toString) = some cA) (hb8 : componentBytes (rTy t) ≤ 8) (hw : Cond.arrayClass (rTy t) ∈ Ts) (hd : decode cc pc = .ok (.newarray at', 2)) : HS (rW cl fo zs rs ns Ts G l cc nL own ret ini fr lo n0 Qf) pc (pc + 2) (h_newa t dv) := by
  intro k0 ls st w n kk o e0
  obtain ⟨x, st', rfl, h2⟩ := rP_some e0
  obtain ⟨N, rfl, h3⟩ := rI_some h2
  obtain ⟨h4, h5⟩ := rB_yes h3
  have hN : N ≤ 60000000 := Nat.ble_eq.mp h4
  rw [rN_eq, rN_eq, rN_eq] at h5
  refine ⟨_, _, _, _, _, h5, Nat.le_succ _, Nat.le_add_right _ _, fun ho1 ho2 hV p e R s m args below meth c X r1 r2 r3 rl H locs hl hP hL => ?_⟩
  have ho1' : n + 1 ≤ o.2.2.1 := ho1
  have ho2' : kk + N ≤ o.2.2.2 := ho2
  have hbt : N * componentBytes (rTy t) ≤ 536870912 := Nat.le_trans (Nat.mul_le_mul_left N hb8) (by omega)
  refine va_newaK X.1 X.2.1 (by rw [hat]; exact X.2.2.2.2.1 _ hw) rfl hd rfl (nI_pos (by omega)) (nI_clamp (by omega)) (by rw [hat]; exact hbt) (by omega) (by omega) rfl fun H1 cA e1 z1 o1 hAr hNm => ?_
  rw [hat] at e1 hAr hNm
  have hcA : cA = G.2.1 t := Option.some.inj (hNm.symm.trans (hpr s _ (X.2.2.2.2.2.1.1.2 t _ (rTys_at ht)).2))
  subst hcA
  have hpic : rPic cl G ((n, .inr (t, N, dv, [])) :: w) (n + 1) H1 := pic_push hP rfl ⟨ht, hN, by
    rw [e1]
    refine congrArg some (congrArg (arrV _ N) (funext fun j => ?_))
    rw [rL_eq]
    exact hdv.symm⟩ z1 o1
  have hV' := hV p e R s m args below meth c X r1 r2 (by omega) rl H1 locs hl hpic hL
  rw [List.map_cons, rv_own G (by show (2 * n + 1) % 2 = 1; omega), show G.2.2.1 + Nat.succ (Nat.mul 2 n) / 2 = H.size by rw [hP.1]; show _ + (2 * n + 1) / 2 = _; omega] at hV'
  rw [show n - n0 + 1 = Nat.succ n - n0 by omega]
  exact hV'
theorem s_oinit {ix : Nat} (h1 : Cond.methodLink own ix Lib.objectInit ∈ Ts) (h2 : Cond.instanceMethod Lib.objectInit ∈ Ts) (h3 : Cond.code Lib.objectInit ⟨#[0xb1]⟩ 1 none ∈ Ts) (hR1 : 1 ≤ fr) (hR2 : 20 ≤ lo) (hd : decode cc pc = .ok (.invokespecial ix, 3)) : HS (rW cl fo zs rs ns Ts G l cc nL own ret ini fr lo n0 Qf) pc (pc + 3) h_oinit := by
  apply s_row
  intro k0 ls st w n kk o e0
  obtain ⟨x, st', rfl, h4⟩ := rP_some e0
  obtain ⟨r, rfl, h5⟩ := rR_some h4
  obtain ⟨h6, h7⟩ := rB_yes h5
  obtain ⟨h8, h9⟩ := rB_yes h7
  refine ⟨_, h9, fun p e R s m args below meth c X rl H locs cells slots Q hl hk => ?_⟩
  rw [List.map_cons, rv_own G (Nat.eq_of_beq_eq_true h6)]
  refine W.objInit X.1 X.2.1 X.2.2.2.1 (X.2.2.2.2.1 _ h1) (X.2.2.2.2.1 _ h2) (X.2.2.2.2.1 _ h3) rfl (by rw [X.2.2.1]; exact hl.1) rfl hd (by rw [X.2.2.2.2.2.2.2.2.2.2.1]; exact hR1) ?_ hk
  have := rSum_eq G X.2.2.2.2.2.1.2.2.1 st'
  have h8' : rSum st' ≤ 8 := Nat.ble_eq.mp h8
  have hlo := X.2.2.2.2.2.2.2.2.2.2.2
  show 2 * 0 + _ + 12 ≤ _
  omega
theorem s_gets (v : rCV) {C n d ref : String} {ix : Nat} (hz : (C, n, d, v) ∈ zs) (hlink : Cond.fieldLink own ix ref n d ∈ Ts) (hsame : ref = C) (hd : decode cc pc = .ok (.getstatic ix, 3)) : HS (rW cl fo zs rs ns Ts G l cc nL own ret ini fr lo n0 Qf) pc (pc + 3) (h_v v) := by
  apply s_rowH
  intro k0 ls st w n9 kk o e0
  refine ⟨_, e0, fun p e R s m args below meth c X rl H locs cells slots Q hP hk => ?_⟩
  obtain ⟨cf, kf, fi, f, a, cell, g1, g2, g3, g4, g5, g6, g7, g8⟩ := X.2.2.2.2.2.1.2.2.2.1 _ hz
  have ha : a < G.2.2.1 := by
    rw [← X.2.2.2.2.2.1.2.1.1.1]
    exact (Array.getElem?_eq_some_iff.mp g5).1
  exact W.gets X.1 X.2.1 X.2.2.2.1 (X.2.2.2.2.1 _ hlink) (by rw [hsame]; exact g1) g2 g3 g4 (by rw [hP.2.1 a ha]; exact g5) (fun q => by rw [q] at g6; cases g6) g7 rfl hd hk
-- ends
theorem s_ret (hr : ret = none) {pcs : List Nat} (hd : decode cc pc = .ok (.return_, 1)) : BS (rW cl fo zs rs ns Ts G l cc nL own ret ini fr lo n0 (rMQ cl fo zs rs ns G n0)) pcs pc t_ret := by
  intro J hJ ls st w n k o e0
  cases st with
  | cons v st => cases e0
  | nil =>
    cases e0
    refine ⟨⟨Nat.le_refl _, Nat.le_refl _⟩, fun p e R s m args below meth c X r1 r2 r3 rl H locs hl hP hL => ?_⟩
    exact W.vret X.1 X.2.1 (X.2.2.2.2.2.2.2.2.1.trans hr) (fun t ht hW => ⟨rfl, by rw [ht]; exact hP, X.2.2.2.2.2.1.warm hW⟩) hL hd X.2.2.2.2.2.2.1
theorem retv_e {ok : rCV → Bool} {J : Nat → rK} {ls : rLs} {st : List rCV} {w : rWd} {n k : Nat} {o : rOut} (h : t_retv ok J ls st w n k = some o) : ∃ v, st = [v] ∧ ok v = true ∧ o = (some v, w, n, k) := by
  obtain ⟨v, st', rfl, h1⟩ := rP_some h
  obtain ⟨h2, h3⟩ := rB_yes h1
  cases st' with
  | cons v st => cases h3
  | nil => cases h3; exact ⟨v, rfl, h2, rfl⟩
theorem s_reti (ok : rCV → Bool) {ty : FieldType} (hr : ret = some ty) (hok : ∀ v, ok v = true → ∃ a, v = .inl a ∧ narrow ty (.int (nI a)) = .int (nI a)) {pcs : List Nat} (hd : decode cc pc = .ok (.ireturn, 1)) : BS (rW cl fo zs rs ns Ts G l cc nL own ret ini fr lo n0 (rMQ cl fo zs rs ns G n0)) pcs pc (t_retv ok) := by
  intro J hJ ls st w n k o e0
  obtain ⟨v, rfl, h1, rfl⟩ := retv_e e0
  obtain ⟨a, rfl, h2⟩ := hok v h1
  refine ⟨⟨Nat.le_refl _, Nat.le_refl _⟩, fun p e R s m args below meth c X r1 r2 r3 rl H locs hl hP hL => ?_⟩
  exact W.zret X.1 X.2.1 (X.2.2.2.2.2.2.2.2.1.trans hr) h2 (fun t ht hW => ⟨rfl, by rw [ht]; exact hP, X.2.2.2.2.2.1.warm hW⟩) hL hd X.2.2.2.2.2.2.1
theorem s_retl (hr : ret = some .long) {pcs : List Nat} (hd : decode cc pc = .ok (.lreturn, 1)) : BS (rW cl fo zs rs ns Ts G l cc nL own ret ini fr lo n0 (rMQ cl fo zs rs ns G n0)) pcs pc (t_retv isJ) := by
  intro J hJ ls st w n k o e0
  obtain ⟨v, rfl, h1, rfl⟩ := retv_e e0
  obtain ⟨a, rfl⟩ := isJ_e h1
  refine ⟨⟨Nat.le_refl _, Nat.le_refl _⟩, fun p e R s m args below meth c X r1 r2 r3 rl H locs hl hP hL => ?_⟩
  exact W.lret X.1 X.2.1 (X.2.2.2.2.2.2.2.2.1.trans hr) (fun t ht hW => ⟨rfl, by rw [ht]; exact hP, X.2.2.2.2.2.1.warm hW⟩) hL hd X.2.2.2.2.2.2.1
theorem s_reta {ty : FieldType} (hr : ret = some ty) (hrt : (∃ n, ty = .object n) ∨ ∃ t, ty = .array t) {pcs : List Nat} (hd : decode cc pc = .ok (.areturn, 1)) : BS (rW cl fo zs rs ns Ts G l cc nL own ret ini fr lo n0 (rMQ cl fo zs rs ns G n0)) pcs pc (t_retv isR) := by
  intro J hJ ls st w n k o e0
  obtain ⟨v, rfl, h1, rfl⟩ := retv_e e0
  obtain ⟨a, rfl⟩ := isR_e h1
  refine ⟨⟨Nat.le_refl _, Nat.le_refl _⟩, fun p e R s m args below meth c X r1 r2 r3 rl H locs hl hP hL => ?_⟩
  exact W.aret X.1 X.2.1 (X.2.2.2.2.2.2.2.2.1.trans hr) hrt (rv_r G X.2.2.2.2.2.1.2.2.1 a) (fun t ht hW => ⟨rfl, by rw [ht]; exact hP, X.2.2.2.2.2.1.warm hW⟩) hL hd X.2.2.2.2.2.2.1
end RO
