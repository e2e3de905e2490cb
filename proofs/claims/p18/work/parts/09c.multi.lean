/-! THE RUNNER'S ROW: T[N][M] (the rows that come are said to be as they were made) -/
section RC
variable {cl : List vw_C} {fo : List rCC} {zs : List (String × String × String × rCV)} {rs : List (String × Nat × String × Nat)} {ns : List Cond} {Ts : List Cond} {G : rGm}
variable {l : Launch} {cc : ByteArray} {nL n0 : Nat} {own : String} {pc : Nat} {ret : Option FieldType} {ini : Bool} {fr lo : Nat} {Qf : rQf}
theorem rDf_d {t : Nat} (ht : t < 4) : rv G (rDf t) = defaultValue (rTy t) := by
  match t, ht with
  | 0, _ => rfl
  | 1, _ => rfl
  | 2, _ => rfl
  | 3, _ => rfl
theorem outer_arr (cA : ClassId) (N h0 : Nat) : ∀ i : Nat, Jvm.Free.Multi.outerC cA N h0 i = arrV cA N (fun j => if j < i then .ref (h0 + 1 + j) else .null) := by
  intro i
  induction i with
  | zero =>
    show ({ cls := cA, slots := Array.replicate N .null, vm := .none } : Cell) = _
    rw [arrV_new]
    congr 1
  | succ i ih =>
    show (Jvm.Free.Multi.outerC cA N h0 i).setSlot i (.ref (h0 + 1 + i)) = _
    rw [ih, arrV_store]
    congr 1
    funext j
    unfold updV
    by_cases h : j = i
    · rw [if_pos h, if_pos (by omega), h]
    · rw [if_neg h]
      show (if j < i then Value.ref (h0 + 1 + j) else Value.null) = _
      by_cases h2 : j < i
      · rw [if_pos h2, if_pos (by omega)]
      · rw [if_neg h2, if_neg (by omega)]
theorem arrV_cut (cA : ClassId) (N : Nat) (f h : Nat → Value) (e : ∀ j : Nat, j < N → f j = h j) : arrV cA N f = arrV cA N h := arrV_ext e
theorem s_multi {ix : Nat} (t t2 : Nat) (ht : t < 4) (h42 : 4 ≤ t2) (h27 : t2 < 7) (hty : rTy t2 = .array (rTy t)) (hcl : cl[999]? = none) (hpr : ∀ U : State, ∀ cA : ClassId, va_RA U cA (rTy t) → U.vm.findClass ("[" ++ (rTy t).toString) = some cA) (hpr2 : ∀ U : State, ∀ cA : ClassId, va_RA U cA (rTy t2) → U.vm.findClass ("[" ++ (rTy t2).toString) = some cA) (w1 : Cond.classLink own ix ("[" ++ (FieldType.array (rTy t)).toString) ∈ Ts) (w2 : Cond.arrayOver (.array (rTy t)) ∈ ns) (w3 : Cond.arrayClass (rTy t) ∈ Ts) (hb8 : componentBytes (rTy t) ≤ 8) (hdf : fits (rTy t) (defaultValue (rTy t)) = true) (hdd : (defaultValue (rTy t)).isDefault = true) (hd : decode cc pc = .ok (.multianewarray ix 2, 4)) : HS (rW cl fo zs rs ns Ts G l cc nL own ret ini fr lo n0 Qf) pc (pc + 4) (h_multi t t2) := by
  intro k0 ls st w n kk o e0
  obtain ⟨y, st0, rfl, h0⟩ := rP_some e0
  obtain ⟨x, st', rfl, h1⟩ := rP_some h0
  obtain ⟨N, rfl, h2⟩ := rI_some h1
  obtain ⟨M, rfl, h3⟩ := rI_some h2
  obtain ⟨h4, h5⟩ := rB_yes h3
  obtain ⟨h6, h7⟩ := rB_yes h5
  have hN : N ≤ 60000000 := Nat.ble_eq.mp h4
  have hM : M ≤ 60000000 := Nat.ble_eq.mp h6
  rw [rN_eq, rN_eq, rN_eq] at h7
  refine ⟨_, _, _, _, _, h7, Nat.le_add_right _ _, Nat.le_add_right _ _, fun ho1 ho2 hV p e R s m args below meth c X r1 r2 r3 rl H locs hl hP hL => ?_⟩
  have ho1' : n + (N + 1) ≤ o.2.2.1 := ho1
  have ho2' : kk + (N + N * M) ≤ o.2.2.2 := ho2
  have hclN : (nI N).toNatClampNeg = N := nI_clamp (by omega)
  have hclM : (nI M).toNatClampNeg = M := nI_clamp (by omega)
  intro T hT Xs
  have hbm : M * componentBytes (rTy t) ≤ 536870912 := Nat.le_trans (Nat.mul_le_mul_left M hb8) (by omega)
  obtain ⟨vm₁, cA, comp, -, fA, fC, hO, -, X', step⟩ := Jvm.Stand.multianewarray2F Xs X.1 X.2.2.2.1 (X.2.2.2.2.1 _ w1) (X.2.2.2.2.2.1.2.1.2 _ w2).1 (X.2.2.2.2.1 _ w3) (g := F0 m pc rl (.int (nI M) :: .int (nI N) :: st'.map (rv G))) rfl (by rw [X.2.1]; exact hd) rfl (nI_pos (by omega)) (nI_pos (by omega)) (by rw [hclN]; omega) (by rw [hclM]; exact hbm) (by rw [hclM]; omega) hdf hdd (by rw [hclN]; omega) (by rw [hclN, hclM]; omega)
  rw [hclN, hclM] at X' step
  have hcA : cA = G.2.1 t2 := Option.some.inj (fA.symm.trans (by
    have := hpr2 s _ (X.2.2.2.2.2.1.1.2 t2 _ (rTys_at h27)).2
    rw [hty] at this
    exact this))
  have hcC : comp = G.2.1 t := Option.some.inj (fC.symm.trans (hpr s _ (X.2.2.2.2.2.1.1.2 t _ (rTys_at (by omega))).2))
  subst hcA; subst hcC
  generalize hF : Jvm.Free.Multi.fill (T.setVm vm₁) (G.2.1 t2) (G.2.1 t) N M (defaultValue (rTy t)) N = F at X' step
  have hTh : (T.setVm vm₁).heap = H := hT
  obtain ⟨f1, f2, -, -⟩ := Jvm.Free.Multi.fill_facts (T.setVm vm₁) (G.2.1 t2) (G.2.1 t) N M (defaultValue (rTy t)) N
  rw [hF, hTh] at f1 f2
  have hin : ∀ j : Nat, j < N → F.heap[H.size + 1 + j]? = some (Jvm.Free.Multi.innerC (G.2.1 t) M (defaultValue (rTy t))) := fun j hj => by
    have := Jvm.Free.Multi.fill_inner (T.setVm vm₁) (G.2.1 t2) (G.2.1 t) N M (defaultValue (rTy t)) N j hj
    rw [hF, hTh] at this
    exact this
  have hold : ∀ x : Nat, x < H.size → F.heap[x]? = H[x]? := fun x hx => by
    have := Jvm.Free.Multi.fill_old (T.setVm vm₁) (G.2.1 t2) (G.2.1 t) N M (defaultValue (rTy t)) (a := x) (by rw [hTh]; exact hx) N
    rw [hF, hTh] at this
    exact this
  have hS := hP.1
  have hcell : rCell cl G (.inl (999, [.inl N, .inl M, .inl t, .inl t2])) F.heap (G.2.2.1 + n) := Or.inr ⟨hcl, ht, hM, hN, h42, h27, by
      rw [show G.2.2.1 + n = H.size by rw [hP.1], f2, outer_arr]
      exact congrArg some (arrV_cut _ N _ _ (fun j hj => if_pos hj)), fun w hw => by
      rw [show G.2.2.1 + n + 1 + w = H.size + 1 + w by rw [hP.1], hin w hw]
      show some ({ cls := G.2.1 t, slots := Array.replicate M (defaultValue (rTy t)), vm := .none } : Cell) = _
      rw [arrV_new, rDf_d ht]⟩
  have hpic : rPic cl G ((n, .inl (999, [.inl N, .inl M, .inl t, .inl t2])) :: w) (n + (N + 1)) F.heap := (pic_add (pic_grow (K := N + 1) hP (by rw [f1]; omega) hold) (fun j y hy => (hP.2.2 j y hy).2.2.1) (by rw [rLen_r hcl]; show 1 ≤ N + 1; omega) (by rw [rLen_r hcl]; exact Nat.le_refl _) hcell).1
  have hV' := hV p e R s m args below meth c X r1 r2 (show n0 ≤ n + (N + 1) by omega) rl F.heap locs hl hpic hL
  rw [List.map_cons, rv_own G (by show (2 * n + 1) % 2 = 1; omega), show G.2.2.1 + Nat.succ (Nat.mul 2 n) / 2 = H.size by rw [hP.1]; show _ + (2 * n + 1) / 2 = _; omega] at hV'
  have hV2 : W p l e R s m args below meth c F.heap locs (n - n0 + 1 + N) (kk + N + N * M) (Qf below args s o) (F0 m (pc + 4) rl (.ref H.size :: st'.map (rv G))) := by
    rw [show n - n0 + 1 + N = n + (N + 1) - n0 by omega, show kk + N + N * M = kk + (N + N * M) by omega]
    exact hV'
  rw [hT] at step
  obtain ⟨t, a1, b1⟩ := hV2 F rfl X'
  exact ⟨t, step t a1, b1⟩
end RC
