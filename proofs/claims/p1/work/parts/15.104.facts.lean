/-! WHAT THE SINGLE CALLS COMPUTE -/
-- peek: 23 steps
set_option maxRecDepth 1000000 in
set_option maxHeartbeats 40000000 in
theorem f_peek (a n : Nat) : ∃ w1, ev_X11_peek [.inr (.inr 1), .inr (.inl (a))] wL n = some (some (.inl 4294967295), (w1, (n, 0))) ∧ ∀ (i : Nat) (x : rCC), wGet i wM = some x → wGet i w1 = some x := ⟨_, rfl, wCutE (k := 13454) rfl⟩
-- poke: 22 steps
set_option maxRecDepth 1000000 in
set_option maxHeartbeats 40000000 in
theorem f_poke (a b n : Nat) : ∃ w1, ev_X11_poke [.inr (.inr 1), .inr (.inl (a)), .inl (b)] wL n = some (some (.inl 0), (w1, (n, 0))) ∧ ∀ (i : Nat) (x : rCC), wGet i wM = some x → wGet i w1 = some x := ⟨_, rfl, wCutE (k := 13454) rfl⟩
-- stopAt0: 27 steps
set_option maxRecDepth 1000000 in
set_option maxHeartbeats 40000000 in
theorem f_stopAt0 (a n : Nat) : ∃ w1, ev_X11_stopAt [.inr (.inr 1), .inr (.inl (a)), .inl 0] wL n = some (some (.inl 0), (w1, (n, 0))) ∧ ∀ (i : Nat) (x : rCC), wGet i wM = some x → wGet i w1 = some x := ⟨_, rfl, wCutE (k := 13454) rfl⟩
-- stopAt1: 40 steps
set_option maxRecDepth 1000000 in
set_option maxHeartbeats 40000000 in
theorem f_stopAt1 (a n : Nat) : ∃ w1, ev_X11_stopAt [.inr (.inr 1), .inr (.inl (a)), .inl 1] wL n = some (some (.inl 1), (w1, (n, 0))) ∧ ∀ (i : Nat) (x : rCC), wGet i wM = some x → wGet i w1 = some x := ⟨_, rfl, wCutE (k := 13454) rfl⟩
-- output: 21 steps
noncomputable def bsG_X11_output (vLt vEq vLe : Nat → Nat → Bool) : List rBl := [sq (h_ld isI 1) (sq (h_v (.inl 4294967295)) (t_icmp (fun a b => rNot (vEq a b)) 2 1)),
  sq (h_ld isR 0) (sq (h_get rFo 13 4) (sq (h_get rFo 7 9) (t_retv isI))),
  sq (h_ld isI 1) (t_if (fun a => vLt a 0) 5 3),
  sq (h_ld isI 1) (sq (h_ld isR 0) (sq (h_get rFo 13 4) (sq (h_get rFo 7 9) (t_icmp (fun a b => rNot (vLt a b)) 5 4)))),
  t_no,
  sq (h_v (.inl 4294967295)) (t_go 6),
  t_retv isI]
noncomputable def evG_X11_output (vLt vEq vLe : Nat → Nat → Bool) : rEv := fun as w n => rIni 2 as (fun ls => rRun (bsG_X11_output vLt vEq vLe) 100000 0 ls [] w n 0)
theorem evG_X11_output_e : evG_X11_output rLt rEq rLe = ev_X11_output := by rfl
set_option maxRecDepth 1000000 in
set_option maxHeartbeats 40000000 in
theorem se_output (vLt vEq vLe : Nat → Nat → Bool) : (fun (a n : Nat) => evG_X11_output vLt vEq vLe [.inr (.inr 1), .inl (a)] wL n) = fun a n => rB (rNot (vEq (a) 4294967295)) (rB (vLt (a) 0) (some (some (.inl 4294967295), (wL, (n, 0)))) (rB (rNot (vLt (a) 0)) (some (some (.inl 4294967295), (wL, (n, 0)))) (none))) (some (some (.inl 0), (wL, (n, 0)))) := by rfl
set_option maxRecDepth 1000000 in
set_option maxHeartbeats 40000000 in
theorem f_output (a n : Nat) : ∃ w1, ev_X11_output [.inr (.inr 1), .inl (a)] wL n = some (some (.inl (rB (rNot (rEq (a) 4294967295)) (4294967295) (0))), (w1, (n, 0))) ∧ ∀ (i : Nat) (x : rCC), wGet i wM = some x → wGet i w1 = some x := by
  have e := congrFun (congrFun (se_output rLt rEq rLe) a) n
  try dsimp only at e
  rw [evG_X11_output_e] at e
  cases h1 : rEq (a) 4294967295
  · rw [h1] at e
    cases h2 : rLt (a) 0
    · rw [h2] at e
      exact ⟨_, e, wCutE (k := 13454) rfl⟩
    · rw [h2] at e
      exact ⟨_, e, wCutE (k := 13454) rfl⟩
  · rw [h1] at e
    exact ⟨_, e, wCutE (k := 13454) rfl⟩
-- where: 30 steps
noncomputable def bsG_X11_where (vLt vEq vLe : Nat → Nat → Bool) (vF : Nat → Nat) : List rBl := [sq (h_ld isJ 1) (sq (h_v (.inr (.inl 4194304))) (sq (h_lbinZ (fun x y => x - y)) (sq (h_st2 3) (sq (h_ld isJ 3) (sq (h_v (.inr (.inl 0))) (sq (h_lcmp) (t_if (fun a => vLt a 0) 3 1))))))),
  sq (h_ld isJ 3) (sq (h_ld isR 0) (sq (h_get rFo 13 3) (sq (h_get rFo 6 8) (sq (h_alen rFo) (sq (h_i2l) (sq (h_lcmp) (t_if (fun a => rNot (vLt a 0)) 3 2))))))),
  sq (h_ld isR 0) (sq (h_get rFo 13 3) (sq (h_get rFo 6 8) (sq (h_ld isJ 3) (sq (h_l2iV vF) (sq (h_aldC rFo okI) (t_go 4)))))),
  sq (h_v (.inl 4294967295)) (t_go 4),
  t_retv isI]
noncomputable def evG_X11_where (vLt vEq vLe : Nat → Nat → Bool) (vF : Nat → Nat) : rEv := fun as w n => rIni 5 as (fun ls => rRun (bsG_X11_where vLt vEq vLe vF) 100000 0 ls [] w n 0)
theorem evG_X11_where_e : evG_X11_where rLt rEq rLe (fun a => rOf (lN a).toInt32) = ev_X11_where := by rfl
set_option maxRecDepth 1000000 in
set_option maxHeartbeats 40000000 in
theorem se_where (vLt vEq vLe : Nat → Nat → Bool) (vF : Nat → Nat) : (fun (a n : Nat) => evG_X11_where vLt vEq vLe vF [.inr (.inr 1), .inr (.inl (a))] wL n) = fun a n => rB (vLt (rOf (lg_cmp (lN (rOL ((lN (a)) - (lN 4194304)))) (lN 0))) 0) (some (some (.inl 4294967295), (wL, (n, 0)))) (rB (rNot (vLt (rOf (lg_cmp (lN (rOL ((lN (a)) - (lN 4194304)))) (lN 131072))) 0)) (some (some (.inl 4294967295), (wL, (n, 0)))) (rB (Nat.blt (vF (rOL ((lN (a)) - (lN 4194304)))) 131072) (some (some (.inl 4294967295), (wL, (n, 0)))) (none))) := by rfl
set_option maxRecDepth 1000000 in
set_option maxHeartbeats 40000000 in
theorem f_where (a n : Nat) : ∃ w1, ev_X11_where [.inr (.inr 1), .inr (.inl (a))] wL n = some (some (.inl 4294967295), (w1, (n, 0))) ∧ ∀ (i : Nat) (x : rCC), wGet i wM = some x → wGet i w1 = some x := by
  have e := congrFun (congrFun (se_where rLt rEq rLe (fun a => rOf (lN a).toInt32)) a) n
  try dsimp only at e
  rw [evG_X11_where_e] at e
  cases h1 : rLt (rOf (lg_cmp (lN (rOL ((lN (a)) - (lN 4194304)))) (lN 0))) 0
  · rw [h1] at e
    cases h2 : rLt (rOf (lg_cmp (lN (rOL ((lN (a)) - (lN 4194304)))) (lN 131072))) 0
    · rw [h2] at e
      exact ⟨_, e, wCutE (k := 13454) rfl⟩
    · rw [h2] at e
      cases h3 : Nat.blt (rOf (lN (rOL ((lN (a)) - (lN 4194304)))).toInt32) 131072
      · rw [h3] at e
        exact absurd e (fun _ => by rw [blt_long h1 h2] at h3; cases h3)
      · rw [h3] at e
        exact ⟨_, e, wCutE (k := 13454) rfl⟩
  · rw [h1] at e
    exact ⟨_, e, wCutE (k := 13454) rfl⟩
-- mfeed: 766 steps
set_option maxRecDepth 1000000 in
set_option maxHeartbeats 40000000 in
theorem f_mfeed (a b c d e n : Nat) : ∃ w1, ev_X13_feed [.inr (.inr 26909), .inl (a), .inl (b), .inl (c), .inl (d), .inl (e)] wM n = some (some (.inl 20), (w1, (n, 0))) ∧ ∀ (i : Nat) (x : rCC), wGet i [] = some x → wGet i w1 = some x := ⟨_, rfl, wNo⟩
