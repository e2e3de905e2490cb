/-! THE RUNNER'S ROW: int[N][M], of which the outer row and the first two inner ones are kept -/
/-- the outer row's places: the inner rows' numbers -/
noncomputable def rGrd (N n : Nat) : List (Nat × rCV) := Nat.rec (motive := fun _ => List (Nat × rCV)) [] (fun j ih => (j, .inr (.inr (Nat.succ (Nat.mul 2 (Nat.succ (Nat.add n j)))))) :: ih) N
noncomputable def h_multiK (k : rK) : rK := fun ls st w n c => rP st (fun y st => rP st (fun x st => rI x (fun N => rI y (fun M => rB (Nat.ble N 64) (rB (Nat.ble 3 N) (rB (Nat.ble M 60000000) (rN (Nat.add c (Nat.add N (Nat.mul N M))) (fun c => rN (Nat.succ (Nat.mul 2 n)) (fun r => rN (Nat.succ n) (fun n0 => rN (Nat.succ n0) (fun n1 => rN (Nat.add n (Nat.succ N)) (fun n2 => k ls (.inr (.inr r) :: st) ((Nat.succ n1, .inl (999, [.inl (Nat.sub N 2), .inl M, .inl 0])) :: (n1, .inr (0, M, .inl 0, [])) :: (n0, .inr (0, M, .inl 0, [])) :: (n, .inr (5, N, .inr (.inr 0), [(0, rGrd N n)])) :: w) n2 c)))))) none) none) none))))
theorem rGrd_at (n : Nat) (d : rCV) (j : Nat) : ∀ N : Nat, rLi d (rGrd N n) j = if j < N then .inr (.inr (2 * (n + j + 1) + 1)) else d := by
  intro N
  induction N with
  | zero => rfl
  | succ N ih =>
    show rLi d ((N, .inr (.inr (2 * (n + N + 1) + 1))) :: rGrd N n) j = _
    rw [rLi_cons, ih]
    by_cases h : j = N
    · subst h
      rw [if_pos rfl, if_pos (Nat.lt_succ_self _)]
    · rw [if_neg h]
      by_cases h2 : j < N
      · rw [if_pos h2, if_pos (by omega)]
      · rw [if_neg h2, if_neg (by omega)]
theorem rGrd_L (n N j : Nat) (hN : N ≤ 64) : rL (.inr (.inr 0)) [(0, rGrd N n)] j = if j < N then .inr (.inr (2 * (n + j + 1) + 1)) else .inr (.inr 0) := by
  rw [rL_eq]
  show (if 0 = j / 64 then rLi _ (rGrd N n) j else _) = _
  by_cases h : 0 = j / 64
  · rw [if_pos h, rGrd_at]
  · rw [if_neg h, if_neg (by omega)]
    rfl
section RMK
variable {cl : List vw_C} {fo : List rCC} {zs : List (String × String × String × rCV)} {rs : List (String × Nat × String × Nat)} {ns : List Cond} {Ts : List Cond} {G : rGm}
variable {l : Launch} {cc : ByteArray} {nL n0 : Nat} {own : String} {pc : Nat} {ret : Option FieldType} {ini : Bool} {fr lo : Nat} {Qf : rQf}
theorem s_multiK {ix : Nat} (hcl : cl[999]? = none) (w1 : Cond.classLink own ix ("[" ++ (FieldType.array FieldType.int).toString) ∈ Ts) (w2 : Cond.arrayOver (.array FieldType.int) ∈ ns) (w3 : Cond.arrayClass FieldType.int ∈ Ts) (hd : decode cc pc = .ok (.multianewarray ix 2, 4)) : HS (rW cl fo zs rs ns Ts G l cc nL own ret ini fr lo n0 Qf) pc (pc + 4) h_multiK := by
  intro k0 ls st w n kk o e0
  obtain ⟨y, st0, rfl, h0⟩ := rP_some e0
  obtain ⟨x, st', rfl, h1⟩ := rP_some h0
  obtain ⟨N, rfl, h2⟩ := rI_some h1
  obtain ⟨M, rfl, h3⟩ := rI_some h2
  obtain ⟨h4, h41⟩ := rB_yes h3
  obtain ⟨h42, h5⟩ := rB_yes h41
  obtain ⟨h6, h7⟩ := rB_yes h5
  have hN : N ≤ 64 := Nat.ble_eq.mp h4
  have hN2 : 3 ≤ N := Nat.ble_eq.mp h42
  have hM : M ≤ 60000000 := Nat.ble_eq.mp h6
  rw [rN_eq, rN_eq, rN_eq, rN_eq, rN_eq] at h7
  refine ⟨_, _, _, _, _, h7, Nat.le_add_right _ _, Nat.le_add_right _ _, fun ho1 ho2 hV p e R s m args below meth c X r1 r2 r3 rl H locs hl hP hL => ?_⟩
  have ho1' : n + (N + 1) ≤ o.2.2.1 := ho1
  have ho2' : kk + (N + N * M) ≤ o.2.2.2 := ho2
  have hclN : (nI N).toNatClampNeg = N := nI_clamp (by omega)
  have hclM : (nI M).toNatClampNeg = M := nI_clamp (by omega)
  intro T hT Xs
  have hbm : M * componentBytes FieldType.int ≤ 536870912 := Nat.le_trans (Nat.mul_le_mul_left M (show componentBytes FieldType.int ≤ 8 by decide)) (by omega)
  obtain ⟨vm₁, cA, comp, -, fA, fC, hO, -, X', step⟩ := Jvm.Stand.multianewarray2F Xs X.1 X.2.2.2.1 (X.2.2.2.2.1 _ w1) (X.2.2.2.2.2.1.2.1.2 _ w2).1 (X.2.2.2.2.1 _ w3) (g := F0 m pc rl (.int (nI M) :: .int (nI N) :: st'.map (rv G))) rfl (by rw [X.2.1]; exact hd) rfl (nI_pos (by omega)) (nI_pos (by omega)) (by rw [hclN]; omega) (by rw [hclM]; exact hbm) (by rw [hclM]; omega) rfl rfl (by rw [hclN]; omega) (by rw [hclN, hclM]; omega)
  rw [hclN, hclM] at X' step
  have hcA : cA = G.2.1 5 := Option.some.inj (fA.symm.trans (X.2.2.2.2.2.1.1.2 5 _ (rTys_at (by decide))).2)
  have hcC : comp = G.2.1 0 := Option.some.inj (fC.symm.trans (X.2.2.2.2.2.1.1.2 0 _ (rTys_at (by decide))).2)
  subst hcA; subst hcC
  generalize hF : Jvm.Free.Multi.fill (T.setVm vm₁) (G.2.1 5) (G.2.1 0) N M (defaultValue FieldType.int) N = F at X' step
  have hTh : (T.setVm vm₁).heap = H := hT
  obtain ⟨f1, f2, -, -⟩ := Jvm.Free.Multi.fill_facts (T.setVm vm₁) (G.2.1 5) (G.2.1 0) N M (defaultValue FieldType.int) N
  rw [hF, hTh] at f1 f2
  have hin : ∀ j : Nat, j < N → F.heap[H.size + 1 + j]? = some (Jvm.Free.Multi.innerC (G.2.1 0) M (defaultValue FieldType.int)) := fun j hj => by
    have := Jvm.Free.Multi.fill_inner (T.setVm vm₁) (G.2.1 5) (G.2.1 0) N M (defaultValue FieldType.int) N j hj
    rw [hF, hTh] at this
    exact this
  have hold : ∀ x : Nat, x < H.size → F.heap[x]? = H[x]? := fun x hx => by
    have := Jvm.Free.Multi.fill_old (T.setVm vm₁) (G.2.1 5) (G.2.1 0) N M (defaultValue FieldType.int) (a := x) (by rw [hTh]; exact hx) N
    rw [hF, hTh] at this
    exact this
  have hinC : ∀ j : Nat, j < N → rCell cl G (.inr (0, M, .inl 0, [])) F.heap (G.2.2.1 + (n + 1 + j)) := fun j hj => ⟨by decide, hM, by
    rw [show G.2.2.1 + (n + 1 + j) = H.size + 1 + j by rw [hP.1]; omega, hin j hj]
    show some ({ cls := G.2.1 0, slots := Array.replicate M (.int 0), vm := .none } : Cell) = _
    rw [arrV_new]
    refine congrArg some (congrArg (arrV _ M) (funext fun i => ?_))
    rw [rL_eq]
    rfl⟩
  have hout : rCell cl G (.inr (5, N, .inr (.inr 0), [(0, rGrd N n)])) F.heap (G.2.2.1 + n) := ⟨by decide, by omega, by
    rw [show G.2.2.1 + n = H.size by rw [hP.1], f2, outer_arr]
    refine congrArg some (congrArg (arrV _ N) (funext fun j => ?_))
    rw [rGrd_L n N j hN]
    by_cases hj : j < N
    · rw [if_pos hj, if_pos hj, rv_own G (by omega), show G.2.2.1 + (2 * (n + j + 1) + 1) / 2 = H.size + 1 + j by rw [hP.1]; omega]
    · rw [if_neg hj, if_neg hj]
      rfl⟩
  have q0 := pic_grow (K := N + 1) hP (by rw [f1]; omega) hold
  have q1 := pic_add q0 (fun j y hy => (hP.2.2 j y hy).2.2.1) (show 1 ≤ rLen cl (.inr (5, N, .inr (.inr 0), [(0, rGrd N n)])) from Nat.le_refl _) (show n + 1 ≤ n + (N + 1) by omega) hout
  have q2 := pic_add (i := n + 1) q1.1 q1.2 (show 1 ≤ rLen cl (.inr (0, M, .inl 0, [])) from Nat.le_refl _) (show n + 1 + 1 ≤ n + (N + 1) by omega) (hinC 0 (by omega))
  have q3 := pic_add (i := n + 1 + 1) q2.1 q2.2 (show 1 ≤ rLen cl (.inr (0, M, .inl 0, [])) from Nat.le_refl _) (show n + 1 + 1 + 1 ≤ n + (N + 1) by omega) (hinC 1 (by omega))
  have hrest : rCell cl G (.inl (999, [.inl (N - 2), .inl M, .inl 0])) F.heap (G.2.2.1 + (n + 1 + 1 + 1)) := Or.inr ⟨hcl, by decide, hM, fun w hw => by
    rw [show G.2.2.1 + (n + 1 + 1 + 1) + w = H.size + 1 + (w + 2) by rw [hP.1]; omega, hin (w + 2) (by omega)]
    show some ({ cls := G.2.1 0, slots := Array.replicate M (.int 0), vm := .none } : Cell) = _
    rw [arrV_new]
    rfl⟩
  have hpic : rPic cl G ((n + 1 + 1 + 1, .inl (999, [.inl (N - 2), .inl M, .inl 0])) :: (n + 1 + 1, .inr (0, M, .inl 0, [])) :: (n + 1, .inr (0, M, .inl 0, [])) :: (n, .inr (5, N, .inr (.inr 0), [(0, rGrd N n)])) :: w) (n + (N + 1)) F.heap := by
    exact (pic_add (i := n + 1 + 1 + 1) q3.1 q3.2 (by rw [rLen_r hcl]; show 1 ≤ N - 2; omega) (by rw [rLen_r hcl]; show n + 1 + 1 + 1 + (N - 2) ≤ n + (N + 1); omega) hrest).1
  have hV' := hV p e R s m args below meth c X r1 r2 (show n0 ≤ n + (N + 1) by omega) rl F.heap locs hl hpic hL
  rw [List.map_cons, rv_own G (by show (2 * n + 1) % 2 = 1; omega), show G.2.2.1 + Nat.succ (Nat.mul 2 n) / 2 = H.size by rw [hP.1]; show _ + (2 * n + 1) / 2 = _; omega] at hV'
  have hV2 : W p l e R s m args below meth c F.heap locs (n - n0 + 1 + N) (kk + N + N * M) (Qf below args s o) (F0 m (pc + 4) rl (.ref H.size :: st'.map (rv G))) := by
    rw [show n - n0 + 1 + N = n + (N + 1) - n0 by omega, show kk + N + N * M = kk + (N + N * M) by omega]
    exact hV'
  rw [hT] at step
  obtain ⟨t, a1, b1⟩ := hV2 F rfl X'
  exact ⟨t, step t a1, b1⟩
end RMK
