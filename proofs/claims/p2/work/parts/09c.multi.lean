/-! THE RUNNER'S ROW: T[N][M] (of the cells that come nothing is kept) -/
section RC
variable {cl : List vw_C} {fo : List rCC} {zs : List (String × String × String × rCV)} {rs : List (String × Nat × String × Nat)} {ns : List Cond} {Ts : List Cond} {G : rGm}
variable {l : Launch} {cc : ByteArray} {nL n0 : Nat} {own : String} {pc : Nat} {ret : Option FieldType} {ini : Bool} {fr lo : Nat} {Qf : rQf}
theorem s_multi {ix : Nat} {ty : FieldType} (w1 : Cond.classLink own ix ("[" ++ (FieldType.array ty).toString) ∈ Ts) (w2 : Cond.arrayOver (.array ty) ∈ ns) (w3 : Cond.arrayClass ty ∈ Ts) (hb8 : componentBytes ty ≤ 8) (hdf : fits ty (defaultValue ty) = true) (hdd : (defaultValue ty).isDefault = true) (hd : decode cc pc = .ok (.multianewarray ix 2, 4)) : HS (rW cl fo zs rs ns Ts G l cc nL own ret ini fr lo n0 Qf) pc (pc + 4) h_multi := by
  intro k0 ls st w n kk o e0
  obtain ⟨y, st0, rfl, h0⟩ := rP_some e0
  obtain ⟨x, st', rfl, h1⟩ := rP_some h0
  obtain ⟨N, rfl, h2⟩ := rI_some h1
  obtain ⟨M, rfl, h3⟩ := rI_some h2
  obtain ⟨h4, h5⟩ := rB_yes h3
  obtain ⟨h6, h7⟩ := rB_yes h5
  have hN : N ≤ 60000000 := Nat.ble_eq.mp h4
  have hM : M ≤ 60000000 := Nat.ble_eq.mp h6
  rw [rN_eq, rN_eq, rN_eq] at h7
  refine ⟨_, _, _, _, _, h7, Nat.le_add_right _ _, Nat.le_add_right _ _, fun ho1 ho2 hV p e R s m args below meth c X r1 r2 r3 rl H locs hl hP hL => ?_⟩
  have ho1' : n + (N + 1) ≤ o.2.2.1 := ho1
  have ho2' : kk + (N + N * M) ≤ o.2.2.2 := ho2
  have hclN : (nI N).toNatClampNeg = N := nI_clamp (by omega)
  have hclM : (nI M).toNatClampNeg = M := nI_clamp (by omega)
  intro T hT Xs
  have hbm : M * componentBytes ty ≤ 536870912 := Nat.le_trans (Nat.mul_le_mul_left M hb8) (by omega)
  obtain ⟨vm₁, cA, comp, -, fA, fC, hO, -, X', step⟩ := Jvm.Stand.multianewarray2F Xs X.1 X.2.2.2.1 (X.2.2.2.2.1 _ w1) (X.2.2.2.2.2.1.2.1.2 _ w2).1 (X.2.2.2.2.1 _ w3) (g := F0 m pc rl (.int (nI M) :: .int (nI N) :: st'.map (rv G))) rfl (by rw [X.2.1]; exact hd) rfl (nI_pos (by omega)) (nI_pos (by omega)) (by rw [hclN]; omega) (by rw [hclM]; exact hbm) (by rw [hclM]; omega) hdf hdd (by rw [hclN]; omega) (by rw [hclN, hclM]; omega)
  rw [hclN, hclM] at X' step
  generalize hF : Jvm.Free.Multi.fill (T.setVm vm₁) cA comp N M (defaultValue ty) N = F at X' step
  have hTh : (T.setVm vm₁).heap = H := hT
  obtain ⟨f1, -, -, -⟩ := Jvm.Free.Multi.fill_facts (T.setVm vm₁) cA comp N M (defaultValue ty) N
  rw [hF, hTh] at f1
  have hold : ∀ x : Nat, x < H.size → F.heap[x]? = H[x]? := fun x hx => by
    have := Jvm.Free.Multi.fill_old (T.setVm vm₁) cA comp N M (defaultValue ty) (a := x) (by rw [hTh]; exact hx) N
    rw [hF, hTh] at this
    exact this
  have hpic : rPic cl G w (n + (N + 1)) F.heap := ⟨by rw [f1, hP.1]; omega, fun q hq => (hold q (by rw [hP.1]; omega)).trans (hP.2.1 q hq), fun i x hx => ⟨by have := (hP.2.2 i x hx).1; omega, (hP.2.2 i x hx).2.kept (hold _ (by rw [hP.1]; have := (hP.2.2 i x hx).1; omega))⟩⟩
  have hV' := hV p e R s m args below meth c X r1 r2 (show n0 ≤ n + (N + 1) by omega) rl F.heap locs hl hpic hL
  rw [List.map_cons, rv_own G (by show (2 * n + 1) % 2 = 1; omega), show G.2.2.1 + Nat.succ (Nat.mul 2 n) / 2 = H.size by rw [hP.1]; show _ + (2 * n + 1) / 2 = _; omega] at hV'
  have hV2 : W p l e R s m args below meth c F.heap locs (n - n0 + 1 + N) (kk + N + N * M) (Qf below args s o) (F0 m (pc + 4) rl (.ref H.size :: st'.map (rv G))) := by
    rw [show n - n0 + 1 + N = n + (N + 1) - n0 by omega, show kk + N + N * M = kk + (N + N * M) by omega]
    exact hV'
  rw [hT] at step
  obtain ⟨t, a1, b1⟩ := hV2 F rfl X'
  exact ⟨t, step t a1, b1⟩
end RC
