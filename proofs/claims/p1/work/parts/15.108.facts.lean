/-! WHAT THE SINGLE CALLS COMPUTE -/
-- mclear: 28 steps
set_option maxRecDepth 1000000 in
set_option maxHeartbeats 40000000 in
theorem f_mclear (n : Nat) : ∃ w1, ev_X13_clear [.inr (.inr 26909)] wM n = some (none, (w1, (n, 0))) ∧ ∀ (i : Nat) (x : rCC), wGet i [] = some x → wGet i w1 = some x := ⟨_, rfl, wNo⟩
-- mfault: 49 steps
noncomputable def bsG_X13_fault (vLt vEq vLe : Nat → Nat → Bool) : List rBl := [sq (h_ld isR 0) (sq (h_v (.inl 0)) (sq (h_ld isI 1) (t_if (fun a => rNot (vEq a 0)) 2 1))),
  sq (h_ld isR 0) (sq (h_get rFo 15 28) (t_go 7)),
  sq (h_ld isI 1) (sq (h_v (.inl 1)) (t_icmp (fun a b => rNot (vEq a b)) 4 3)),
  sq (h_ld isR 0) (sq (h_get rFo 15 29) (t_go 7)),
  sq (h_ld isI 1) (sq (h_v (.inl 2)) (t_icmp (fun a b => rNot (vEq a b)) 6 5)),
  sq (h_ld isR 0) (sq (h_get rFo 15 30) (t_go 7)),
  sq (h_v (.inl 4294967295)) (t_go 7),
  sq (h_call 3 (rRecv rFo 15) ev_X13_give) (t_retv isI)]
noncomputable def evG_X13_fault (vLt vEq vLe : Nat → Nat → Bool) : rEv := fun as w n => rIni 2 as (fun ls => rRun (bsG_X13_fault vLt vEq vLe) 100000 0 ls [] w n 0)
theorem evG_X13_fault_e : evG_X13_fault rLt rEq rLe = ev_X13_fault := by rfl
set_option maxRecDepth 1000000 in
set_option maxHeartbeats 40000000 in
theorem se_mfault (vLt vEq vLe : Nat → Nat → Bool) : (fun (a n : Nat) => evG_X13_fault vLt vEq vLe [.inr (.inr 26909), .inl (a)] wM n) = fun a n => rB (rNot (vEq (a) 0)) (rB (rNot (vEq (a) 1)) (rB (rNot (vEq (a) 2)) (some (some (.inl 4294967295), (wM, (n, 0)))) (some (some (.inl 4294967295), (wM, (n, 0))))) (some (some (.inl 0), (wM, (n, 0))))) (some (some (.inl 0), (wM, (n, 0)))) := by rfl
set_option maxRecDepth 1000000 in
set_option maxHeartbeats 40000000 in
theorem f_mfault (a n : Nat) : ∃ w1, ev_X13_fault [.inr (.inr 26909), .inl (a)] wM n = some (some (.inl (rB (rNot (rEq (a) 0)) (rB (rNot (rEq (a) 1)) (4294967295) (0)) (0))), (w1, (n, 0))) ∧ ∀ (i : Nat) (x : rCC), wGet i [] = some x → wGet i w1 = some x := by
  have e := congrFun (congrFun (se_mfault rLt rEq rLe) a) n
  try dsimp only at e
  rw [evG_X13_fault_e] at e
  cases h1 : rEq (a) 0
  · rw [h1] at e
    cases h2 : rEq (a) 1
    · rw [h2] at e
      cases h3 : rEq (a) 2
      · rw [h3] at e
        exact ⟨_, e, wNo⟩
      · rw [h3] at e
        exact ⟨_, e, wNo⟩
    · rw [h2] at e
      exact ⟨_, e, wNo⟩
  · rw [h1] at e
    exact ⟨_, e, wNo⟩
-- msize: 27 steps
noncomputable def bsG_X13_size (vLt vEq vLe : Nat → Nat → Bool) : List rBl := [sq (h_ld isR 0) (sq (h_v (.inl 0)) (sq (h_ld isI 1) (t_if (fun a => vLt a 0) 5 1))),
  sq (h_ld isI 1) (sq (h_ld isR 0) (sq (h_get rFo 15 20) (t_icmp (fun a b => rNot (vLt a b)) 5 2))),
  t_no,
  t_no,
  t_no,
  sq (h_v (.inl 4294967295)) (t_go 6),
  sq (h_call 3 (rRecv rFo 15) ev_X13_give) (t_retv isI)]
noncomputable def evG_X13_size (vLt vEq vLe : Nat → Nat → Bool) : rEv := fun as w n => rIni 3 as (fun ls => rRun (bsG_X13_size vLt vEq vLe) 100000 0 ls [] w n 0)
theorem evG_X13_size_e : evG_X13_size rLt rEq rLe = ev_X13_size := by rfl
set_option maxRecDepth 1000000 in
set_option maxHeartbeats 40000000 in
theorem se_msize (vLt vEq vLe : Nat → Nat → Bool) : (fun (a b n : Nat) => evG_X13_size vLt vEq vLe [.inr (.inr 26909), .inl (a), .inl (b)] wM n) = fun a b n => rB (vLt (a) 0) (some (some (.inl 4294967295), (wM, (n, 0)))) (rB (rNot (vLt (a) 0)) (some (some (.inl 4294967295), (wM, (n, 0)))) (none)) := by rfl
set_option maxRecDepth 1000000 in
set_option maxHeartbeats 40000000 in
theorem f_msize (a b n : Nat) : ∃ w1, ev_X13_size [.inr (.inr 26909), .inl (a), .inl (b)] wM n = some (some (.inl 4294967295), (w1, (n, 0))) ∧ ∀ (i : Nat) (x : rCC), wGet i [] = some x → wGet i w1 = some x := by
  have e := congrFun (congrFun (congrFun (se_msize rLt rEq rLe) a) b) n
  try dsimp only at e
  rw [evG_X13_size_e] at e
  cases h1 : rLt (a) 0
  · rw [h1] at e
    exact ⟨_, e, wNo⟩
  · rw [h1] at e
    exact ⟨_, e, wNo⟩
-- moctet: 14 steps
noncomputable def bsG_X13_octet (vLt vEq vLe : Nat → Nat → Bool) : List rBl := [sq (h_ld isR 0) (sq (h_v (.inl 0)) (sq (h_put 15 0 isI) (sq (h_ld isI 1) (t_if (fun a => vLt a 0) 6 1)))),
  sq (h_ld isI 1) (sq (h_ld isR 0) (sq (h_get rFo 15 20) (t_icmp (fun a b => rNot (vLt a b)) 6 2))),
  t_no,
  t_no,
  t_no,
  t_no,
  sq (h_v (.inl 4294967295)) (t_retv isI),
  t_no,
  t_no,
  t_no,
  t_no,
  t_no,
  t_no,
  t_no,
  t_no]
noncomputable def evG_X13_octet (vLt vEq vLe : Nat → Nat → Bool) : rEv := fun as w n => rIni 5 as (fun ls => rRun (bsG_X13_octet vLt vEq vLe) 100000 0 ls [] w n 0)
theorem evG_X13_octet_e : evG_X13_octet rLt rEq rLe = ev_X13_octet := by rfl
set_option maxRecDepth 1000000 in
set_option maxHeartbeats 40000000 in
theorem se_moctet (vLt vEq vLe : Nat → Nat → Bool) : (fun (a b c n : Nat) => evG_X13_octet vLt vEq vLe [.inr (.inr 26909), .inl (a), .inl (b), .inl (c)] wM n) = fun a b c n => rB (vLt (a) 0) (some (some (.inl 4294967295), (wM, (n, 0)))) (rB (rNot (vLt (a) 0)) (some (some (.inl 4294967295), (wM, (n, 0)))) (none)) := by rfl
set_option maxRecDepth 1000000 in
set_option maxHeartbeats 40000000 in
theorem f_moctet (a b c n : Nat) : ∃ w1, ev_X13_octet [.inr (.inr 26909), .inl (a), .inl (b), .inl (c)] wM n = some (some (.inl 4294967295), (w1, (n, 0))) ∧ ∀ (i : Nat) (x : rCC), wGet i [] = some x → wGet i w1 = some x := by
  have e := congrFun (congrFun (congrFun (congrFun (se_moctet rLt rEq rLe) a) b) c) n
  try dsimp only at e
  rw [evG_X13_octet_e] at e
  cases h1 : rLt (a) 0
  · rw [h1] at e
    exact ⟨_, e, wNo⟩
  · rw [h1] at e
    exact ⟨_, e, wNo⟩
set_option maxRecDepth 1000000 in
set_option maxHeartbeats 40000000 in
noncomputable def wk_mlink : rWd := [(13454, .inl (15, [.inl 1, .inr (.inr 26911), .inl 0, .inl 137, .inl 48, .inr (.inr 26913), .inr (.inr 26915), .inr (.inr 26917), .inr (.inr 26919), .inr (.inl 1952807028), .inr (.inl 125822751044705), .inr (.inl 1684108385), .inr (.inl 6452083), .inr (.inl 1652126821), .inr (.inl 431500522084), .inr (.inl 487335096932), .inr (.inl 7497068), .inr (.inl 6648181), .inr (.inl 7497072), .inr (.inl 495873782388), .inl 0, .inr (.inr 26921), .inr (.inr 26923), .inr (.inr 26925), .inr (.inr 26927), .inr (.inr 26929), .inr (.inr 26931), .inr (.inr 26933), .inl 1, .inl 0, .inl 4294967295, .inl 0, .inl 0, .inr (.inr 26935), .inr (.inr 26937), .inr (.inr 26939), .inr (.inr 26941), .inr (.inr 26943), .inr (.inr 26945), .inr (.inr 26947), .inr (.inr 26949), .inr (.inr 26951), .inr (.inr 26953), .inl 0, .inl 0, .inr (.inr 26955), .inr (.inr 26957), .inr (.inr 26959), .inr (.inr 26961), .inr (.inr 26963), .inr (.inr 26965), .inr (.inr 26967), .inr (.inr 26969), .inr (.inr 26971), .inl 0, .inl 0, .inr (.inr 26973), .inl 0, .inr (.inr 26975), .inr (.inr 26977), .inr (.inr 26979), .inr (.inr 26981), .inr (.inr 26983), .inr (.inr 26985), .inr (.inr 26987), .inl 0, .inl 0, .inl 0, .inl 0, .inl 0, .inl 0, .inl 0, .inl 0, .inl 0, .inl 0, .inl 0, .inl 0, .inl 0, .inr (.inr 26989), .inl 0, .inl 0, .inr (.inr 26991), .inr (.inr 26993), .inr (.inr 26995), .inr (.inr 26997), .inr (.inr 26999), .inr (.inr 27001), .inr (.inr 27003), .inr (.inr 27005), .inr (.inr 27007), .inr (.inr 27009), .inr (.inr 27011), .inr (.inr 27055), .inr (.inr 27099), .inl 0, .inr (.inr 27101), .inr (.inr 27103), .inr (.inr 27105), .inr (.inr 27107), .inr (.inr 27109), .inr (.inr 27111), .inr (.inr 27113), .inl 0, .inr (.inr 27115), .inr (.inr 27117), .inr (.inr 27119), .inr (.inr 27121), .inr (.inr 27123), .inl 5, .inl 0, .inl 0, .inr (.inr 27125), .inr (.inr 27127), .inr (.inr 27129), .inr (.inr 27131), .inl 0, .inr (.inr 27133), .inl 0, .inl 0, .inr (.inr 27135), .inr (.inr 27137), .inr (.inr 27139), .inl 0, .inl 0, .inl 0, .inl 0, .inr (.inr 27141), .inr (.inr 27143), .inr (.inr 27145), .inr (.inr 27147), .inr (.inr 27149), .inl 0, .inl 0, .inl 0, .inl 0, .inr (.inl 0), .inr (.inl 0), .inl 0, .inl 0, .inl 0, .inl 0, .inl 110, .inr (.inr 27151), .inr (.inr 27153), .inr (.inr 27155), .inr (.inr 27157), .inr (.inr 27159), .inr (.inr 27161), .inr (.inr 27163), .inr (.inr 27165), .inr (.inr 27167), .inl 0, .inl 0, .inl 0, .inl 0, .inl 0, .inl 0, .inl 0, .inl 0, .inl 0, .inl 0, .inl 0, .inl 0, .inl 0, .inr (.inr 27169), .inr (.inr 27171), .inr (.inr 27173), .inr (.inr 27185), .inl 0, .inr (.inr 27197), .inr (.inr 27199), .inr (.inr 27201), .inr (.inr 27203), .inl 0, .inl 0, .inr (.inr 27205), .inr (.inr 27207), .inr (.inr 27209), .inr (.inr 27211), .inl 0, .inr (.inr 27213), .inr (.inr 27215), .inr (.inr 27217), .inr (.inr 27219), .inr (.inr 27221), .inl 0, .inl 0, .inl 0, .inr (.inr 27223), .inr (.inr 27225), .inr (.inl 0), .inr (.inl 0), .inr (.inl 0), .inl 0, .inl 0, .inl 0, .inl 0, .inl 0, .inl 0, .inr (.inr 27227), .inl 0, .inl 0, .inl 0, .inr (.inl 0), .inr (.inl 0)]))]
-- mlink: 186 steps
set_option maxRecDepth 1000000 in
set_option maxHeartbeats 40000000 in
theorem f_mlink (n : Nat) : ∃ w1, ev_X13_link [.inr (.inr 26909)] wM n = some (some (.inl 0), (w1, (n, 0))) ∧ ∀ (i : Nat) (x : rCC), wGet i wk_mlink = some x → wGet i w1 = some x := ⟨_, rfl, wOne rfl⟩
-- msymbol: 19 steps
set_option maxRecDepth 1000000 in
set_option maxHeartbeats 40000000 in
theorem f_msymbol (a n : Nat) : ∃ w1, ev_X13_symbol [.inr (.inr 26909), .inl (a)] wM n = some (some (.inr (.inl 0)), (w1, (n, 0))) ∧ ∀ (i : Nat) (x : rCC), wGet i wk_mrun_0 = some x → wGet i w1 = some x := ⟨_, rfl, wOne rfl⟩
-- mload: 8 steps
set_option maxRecDepth 1000000 in
set_option maxHeartbeats 40000000 in
theorem f_mload (n : Nat) : ∃ w1, ev_X13_load [.inr (.inr 26909)] wM n = some (some (.inr (.inl 0)), (w1, (n, 0))) ∧ ∀ (i : Nat) (x : rCC), wGet i wk_mrun_0 = some x → wGet i w1 = some x := ⟨_, rfl, wOne rfl⟩
-- minput: 19 steps
set_option maxRecDepth 1000000 in
set_option maxHeartbeats 40000000 in
theorem f_minput (a n : Nat) : ∃ w1, ev_X13_input [.inr (.inr 26909), .inl (a)] wM n = some (some (.inl 0), (w1, (n, 0))) ∧ ∀ (i : Nat) (x : rCC), wGet i [] = some x → wGet i w1 = some x := ⟨_, rfl, wNo⟩
-- mstop: 20 steps
noncomputable def bsG_X13_stop (vLt vEq vLe : Nat → Nat → Bool) : List rBl := [sq (h_ld isR 0) (sq (h_v (.inl 0)) (sq (h_put 15 0 isI) (sq (h_ld isI 1) (t_if (fun a => rNot (vEq a 0)) 2 1)))),
  sq (h_ld isR 0) (sq (h_get rFo 15 198) (sq (h_i2l) (t_go 5))),
  sq (h_ld isI 1) (sq (h_v (.inl 1)) (t_icmp (fun a b => rNot (vEq a b)) 4 3)),
  sq (h_ld isR 0) (sq (h_get rFo 15 191) (t_go 5)),
  sq (h_v (.inr (.inl 0))) (t_go 5),
  t_retv isJ]
noncomputable def evG_X13_stop (vLt vEq vLe : Nat → Nat → Bool) : rEv := fun as w n => rIni 2 as (fun ls => rRun (bsG_X13_stop vLt vEq vLe) 100000 0 ls [] w n 0)
theorem evG_X13_stop_e : evG_X13_stop rLt rEq rLe = ev_X13_stop := by rfl
set_option maxRecDepth 1000000 in
set_option maxHeartbeats 40000000 in
theorem se_mstop (vLt vEq vLe : Nat → Nat → Bool) : (fun (a n : Nat) => evG_X13_stop vLt vEq vLe [.inr (.inr 26909), .inl (a)] wM n) = fun a n => rB (rNot (vEq (a) 0)) (rB (rNot (vEq (a) 1)) (some (some (.inr (.inl 0)), (wM, (n, 0)))) (some (some (.inr (.inl 0)), (wM, (n, 0))))) (some (some (.inr (.inl 0)), (wM, (n, 0)))) := by rfl
set_option maxRecDepth 1000000 in
set_option maxHeartbeats 40000000 in
theorem f_mstop (a n : Nat) : ∃ w1, ev_X13_stop [.inr (.inr 26909), .inl (a)] wM n = some (some (.inr (.inl 0)), (w1, (n, 0))) ∧ ∀ (i : Nat) (x : rCC), wGet i [] = some x → wGet i w1 = some x := by
  have e := congrFun (congrFun (se_mstop rLt rEq rLe) a) n
  try dsimp only at e
  rw [evG_X13_stop_e] at e
  cases h1 : rEq (a) 0
  · rw [h1] at e
    cases h2 : rEq (a) 1
    · rw [h2] at e
      exact ⟨_, e, wNo⟩
    · rw [h2] at e
      exact ⟨_, e, wNo⟩
  · rw [h1] at e
    exact ⟨_, e, wNo⟩
-- mregister: 169 steps
noncomputable def bsG_X13_register (vLt vEq vLe : Nat → Nat → Bool) : List rBl := [sq (h_ld isR 0) (sq (h_v (.inl 0)) (sq (h_put 15 0 isI) (sq (h_ld isI 1) (t_if (fun a => vLt a 0) 3 1)))),
  sq (h_ld isI 1) (sq (h_v (.inl 16)) (t_icmp (fun a b => rNot (vLt a b)) 3 2)),
  sq (h_ld isR 0) (sq (h_get rFo 15 188) (sq (h_ld isI 1) (sq (h_aldC rFo okJ) (t_retv isJ)))),
  sq (h_ld isI 1) (sq (h_v (.inl 16)) (t_icmp (fun a b => rNot (vEq a b)) 5 4)),
  sq (h_ld isR 0) (sq (h_get rFo 15 190) (t_go 12)),
  sq (h_ld isI 1) (sq (h_v (.inl 17)) (t_icmp (fun a b => rNot (vEq a b)) 7 6)),
  sq (h_ld isR 0) (sq (h_call 1 (rRecv rFo 15) ev_X13_flags) (t_go 12)),
  sq (h_ld isI 1) (sq (h_v (.inl 18)) (t_icmp (fun a b => rNot (vEq a b)) 9 8)),
  sq (h_ld isR 0) (sq (h_call 1 (rRecv rFo 15) ev_X13_heapBegin) (sq (h_ld isR 0) (sq (h_get rFo 15 185) (sq (h_i2l) (sq (h_lbinZ (fun x y => x + y)) (t_go 12)))))),
  sq (h_ld isI 1) (sq (h_v (.inl 19)) (t_icmp (fun a b => rNot (vEq a b)) 11 10)),
  sq (h_ld isR 0) (sq (h_get rFo 15 192) (t_go 12)),
  sq (h_v (.inr (.inl 0))) (t_go 12),
  t_retv isJ]
noncomputable def evG_X13_register (vLt vEq vLe : Nat → Nat → Bool) : rEv := fun as w n => rIni 2 as (fun ls => rRun (bsG_X13_register vLt vEq vLe) 100000 0 ls [] w n 0)
theorem evG_X13_register_e : evG_X13_register rLt rEq rLe = ev_X13_register := by rfl
set_option maxRecDepth 1000000 in
set_option maxHeartbeats 40000000 in
theorem se_mregister (vLt vEq vLe : Nat → Nat → Bool) : (fun (a n : Nat) => evG_X13_register vLt vEq vLe [.inr (.inr 26909), .inl (a)] wM n) = fun a n => rB (vLt (a) 0) (rB (rNot (vEq (a) 16)) (rB (rNot (vEq (a) 17)) (rB (rNot (vEq (a) 18)) (rB (rNot (vEq (a) 19)) (some (some (.inr (.inl 0)), (wM, (n, 0)))) (some (some (.inr (.inl 0)), (wM, (n, 0))))) (some (some (.inr (.inl 4194304)), (wM, (n, 0))))) (some (some (.inr (.inl 2)), (wM, (n, 0))))) (some (some (.inr (.inl 0)), (wM, (n, 0))))) (rB (rNot (vLt (a) 16)) (rB (rNot (vEq (a) 16)) (rB (rNot (vEq (a) 17)) (rB (rNot (vEq (a) 18)) (rB (rNot (vEq (a) 19)) (some (some (.inr (.inl 0)), (wM, (n, 0)))) (some (some (.inr (.inl 0)), (wM, (n, 0))))) (some (some (.inr (.inl 4194304)), (wM, (n, 0))))) (some (some (.inr (.inl 2)), (wM, (n, 0))))) (some (some (.inr (.inl 0)), (wM, (n, 0))))) (rB (Nat.blt (a) 16) (some (some (.inr (.inl 0)), (wM, (n, 0)))) (none))) := by rfl
set_option maxRecDepth 1000000 in
set_option maxHeartbeats 40000000 in
theorem f_mregister (a n : Nat) (ha : a < 4294967296) : ∃ w1, ev_X13_register [.inr (.inr 26909), .inl (a)] wM n = some (some (.inr (.inl (rB (rLt (a) 0) (rB (rNot (rEq (a) 16)) (rB (rNot (rEq (a) 17)) (rB (rNot (rEq (a) 18)) (0) (4194304)) (2)) (0)) (rB (rNot (rLt (a) 16)) (rB (rNot (rEq (a) 16)) (rB (rNot (rEq (a) 17)) (rB (rNot (rEq (a) 18)) (0) (4194304)) (2)) (0)) (0))))), (w1, (n, 0))) ∧ ∀ (i : Nat) (x : rCC), wGet i [] = some x → wGet i w1 = some x := by
  have e := congrFun (congrFun (se_mregister rLt rEq rLe) a) n
  try dsimp only at e
  rw [evG_X13_register_e] at e
  cases h1 : rLt (a) 0
  · rw [h1] at e
    cases h2 : rLt (a) 16
    · rw [h2] at e
      cases h3 : rEq (a) 16
      · rw [h3] at e
        cases h4 : rEq (a) 17
        · rw [h4] at e
          cases h5 : rEq (a) 18
          · rw [h5] at e
            cases h6 : rEq (a) 19
            · rw [h6] at e
              exact ⟨_, e, wNo⟩
            · rw [h6] at e
              exact ⟨_, e, wNo⟩
          · rw [h5] at e
            exact ⟨_, e, wNo⟩
        · rw [h4] at e
          exact ⟨_, e, wNo⟩
      · rw [h3] at e
        exact ⟨_, e, wNo⟩
    · rw [h2] at e
      cases h7 : Nat.blt (a) 16
      · rw [h7] at e
        exact absurd e (fun _ => by rw [blt_of ha (by decide) h1 h2] at h7; cases h7)
      · rw [h7] at e
        exact ⟨_, e, wNo⟩
  · rw [h1] at e
    cases h8 : rEq (a) 16
    · rw [h8] at e
      cases h9 : rEq (a) 17
      · rw [h9] at e
        cases h10 : rEq (a) 18
        · rw [h10] at e
          cases h11 : rEq (a) 19
          · rw [h11] at e
            exact ⟨_, e, wNo⟩
          · rw [h11] at e
            exact ⟨_, e, wNo⟩
        · rw [h10] at e
          exact ⟨_, e, wNo⟩
      · rw [h9] at e
        exact ⟨_, e, wNo⟩
    · rw [h8] at e
      exact ⟨_, e, wNo⟩
-- mset: 29 steps
noncomputable def bsG_X13_set (vLt vEq vLe : Nat → Nat → Bool) : List rBl := [sq (h_ld isR 0) (sq (h_v (.inl 0)) (sq (h_put 15 0 isI) (sq (h_ld isI 1) (t_if (fun a => vLt a 0) 2 1)))),
  sq (h_ld isI 1) (sq (h_v (.inl 16)) (t_icmp vLe 3 2)),
  sq (h_v (.inl 0)) (t_retv isZ),
  sq (h_ld isI 1) (sq (h_v (.inl 16)) (t_icmp (fun a b => rNot (vEq a b)) 5 4)),
  sq (h_ld isR 0) (sq (h_ld isJ 2) (sq (h_put 15 190 isJ) (t_go 6))),
  sq (h_ld isR 0) (sq (h_get rFo 15 188) (sq (h_ld isI 1) (sq (h_ld isJ 2) (sq (h_lastF) (t_go 6))))),
  sq (h_v (.inl 1)) (t_retv isZ)]
noncomputable def evG_X13_set (vLt vEq vLe : Nat → Nat → Bool) : rEv := fun as w n => rIni 4 as (fun ls => rRun (bsG_X13_set vLt vEq vLe) 100000 0 ls [] w n 0)
theorem evG_X13_set_e : evG_X13_set rLt rEq rLe = ev_X13_set := by rfl
set_option maxRecDepth 1000000 in
set_option maxHeartbeats 40000000 in
theorem se_mset (vLt vEq vLe : Nat → Nat → Bool) : (fun (a b n : Nat) => evG_X13_set vLt vEq vLe [.inr (.inr 26909), .inl (a), .inr (.inl (b))] wM n) = fun a b n => rB (vLt (a) 0) (some (some (.inl 0), (wM, (n, 0)))) (rB (vLe (a) 16) (rB (rNot (vEq (a) 16)) (rB (Nat.blt (a) 16) (some (some (.inl 1), ([(14080, .inr (1, 1, .inr (.inl 0), [])),
  (13613, .inr (1, 16, .inr (.inl 0), [])),
  (13592, .inl (14, [.inl 0, .inl 0, .inl 0, .inl 0, .inl 0, .inl 0, .inl 0, .inr (.inl 0), .inr (.inr 27187), .inr (.inr 27189), .inr (.inr 27191), .inr (.inr 27193), .inr (.inr 27195)])),
  (13561, .inr (2, 140, .inl 0, [])),
  (13466, .inr (3, 128, .inl 0, [])),
  (13465, .inr (0, 128, .inl 0, [])),
  (13464, .inr (0, 33, .inl 0, [])),
  (13463, .inr (0, 33, .inl 0, [])),
  (13462, .inr (0, 33, .inl 0, [])),
  (13461, .inr (3, 32, .inl 0, [])),
  (13455, .inr (2, 65536, .inl 0, [])),
  (13454, .inl (15, [.inl 0, .inr (.inr 26911), .inl 0, .inl 137, .inl 48, .inr (.inr 26913), .inr (.inr 26915), .inr (.inr 26917), .inr (.inr 26919), .inr (.inl 1952807028), .inr (.inl 125822751044705), .inr (.inl 1684108385), .inr (.inl 6452083), .inr (.inl 1652126821), .inr (.inl 431500522084), .inr (.inl 487335096932), .inr (.inl 7497068), .inr (.inl 6648181), .inr (.inl 7497072), .inr (.inl 495873782388), .inl 0, .inr (.inr 26921), .inr (.inr 26923), .inr (.inr 26925), .inr (.inr 26927), .inr (.inr 26929), .inr (.inr 26931), .inr (.inr 26933), .inl 0, .inl 0, .inl 4294967295, .inl 0, .inl 0, .inr (.inr 26935), .inr (.inr 26937), .inr (.inr 26939), .inr (.inr 26941), .inr (.inr 26943), .inr (.inr 26945), .inr (.inr 26947), .inr (.inr 26949), .inr (.inr 26951), .inr (.inr 26953), .inl 0, .inl 0, .inr (.inr 26955), .inr (.inr 26957), .inr (.inr 26959), .inr (.inr 26961), .inr (.inr 26963), .inr (.inr 26965), .inr (.inr 26967), .inr (.inr 26969), .inr (.inr 26971), .inl 0, .inl 0, .inr (.inr 26973), .inl 0, .inr (.inr 26975), .inr (.inr 26977), .inr (.inr 26979), .inr (.inr 26981), .inr (.inr 26983), .inr (.inr 26985), .inr (.inr 26987), .inl 0, .inl 0, .inl 0, .inl 0, .inl 0, .inl 0, .inl 0, .inl 0, .inl 0, .inl 0, .inl 0, .inl 0, .inl 0, .inr (.inr 26989), .inl 0, .inl 0, .inr (.inr 26991), .inr (.inr 26993), .inr (.inr 26995), .inr (.inr 26997), .inr (.inr 26999), .inr (.inr 27001), .inr (.inr 27003), .inr (.inr 27005), .inr (.inr 27007), .inr (.inr 27009), .inr (.inr 27011), .inr (.inr 27055), .inr (.inr 27099), .inl 0, .inr (.inr 27101), .inr (.inr 27103), .inr (.inr 27105), .inr (.inr 27107), .inr (.inr 27109), .inr (.inr 27111), .inr (.inr 27113), .inl 0, .inr (.inr 27115), .inr (.inr 27117), .inr (.inr 27119), .inr (.inr 27121), .inr (.inr 27123), .inl 0, .inl 0, .inl 0, .inr (.inr 27125), .inr (.inr 27127), .inr (.inr 27129), .inr (.inr 27131), .inl 0, .inr (.inr 27133), .inl 0, .inl 0, .inr (.inr 27135), .inr (.inr 27137), .inr (.inr 27139), .inl 0, .inl 0, .inl 0, .inl 0, .inr (.inr 27141), .inr (.inr 27143), .inr (.inr 27145), .inr (.inr 27147), .inr (.inr 27149), .inl 0, .inl 0, .inl 0, .inl 0, .inr (.inl 0), .inr (.inl 0), .inl 0, .inl 0, .inl 0, .inl 0, .inl 110, .inr (.inr 27151), .inr (.inr 27153), .inr (.inr 27155), .inr (.inr 27157), .inr (.inr 27159), .inr (.inr 27161), .inr (.inr 27163), .inr (.inr 27165), .inr (.inr 27167), .inl 0, .inl 0, .inl 0, .inl 0, .inl 0, .inl 0, .inl 0, .inl 0, .inl 0, .inl 0, .inl 0, .inl 0, .inl 0, .inr (.inr 27169), .inr (.inr 27171), .inr (.inr 27173), .inr (.inr 27185), .inl 0, .inr (.inr 27197), .inr (.inr 27199), .inr (.inr 27201), .inr (.inr 27203), .inl 0, .inl 0, .inr (.inr 27205), .inr (.inr 27207), .inr (.inr 27209), .inr (.inr 27211), .inl 0, .inr (.inr 27213), .inr (.inr 27215), .inr (.inr 27217), .inr (.inr 27219), .inr (.inr 27221), .inl 0, .inl 0, .inl 0, .inr (.inr 27223), .inr (.inr 27225), .inr (.inl 0), .inr (.inl 0), .inr (.inl 0), .inl 0, .inl 0, .inl 0, .inl 0, .inl 0, .inl 0, .inr (.inr 27227), .inl 0, .inl 0, .inl 0, .inr (.inl 0), .inr (.inl 0)]))], (n, 0)))) (none)) (some (some (.inl 1), ([(14080, .inr (1, 1, .inr (.inl 0), [])),
  (13613, .inr (1, 16, .inr (.inl 0), [])),
  (13611, .inr (1, 16, .inr (.inl 0), [])),
  (13592, .inl (14, [.inl 0, .inl 0, .inl 0, .inl 0, .inl 0, .inl 0, .inl 0, .inr (.inl 0), .inr (.inr 27187), .inr (.inr 27189), .inr (.inr 27191), .inr (.inr 27193), .inr (.inr 27195)])),
  (13561, .inr (2, 140, .inl 0, [])),
  (13466, .inr (3, 128, .inl 0, [])),
  (13465, .inr (0, 128, .inl 0, [])),
  (13464, .inr (0, 33, .inl 0, [])),
  (13463, .inr (0, 33, .inl 0, [])),
  (13462, .inr (0, 33, .inl 0, [])),
  (13461, .inr (3, 32, .inl 0, [])),
  (13455, .inr (2, 65536, .inl 0, [])),
  (13454, .inl (15, [.inl 0, .inr (.inr 26911), .inl 0, .inl 137, .inl 48, .inr (.inr 26913), .inr (.inr 26915), .inr (.inr 26917), .inr (.inr 26919), .inr (.inl 1952807028), .inr (.inl 125822751044705), .inr (.inl 1684108385), .inr (.inl 6452083), .inr (.inl 1652126821), .inr (.inl 431500522084), .inr (.inl 487335096932), .inr (.inl 7497068), .inr (.inl 6648181), .inr (.inl 7497072), .inr (.inl 495873782388), .inl 0, .inr (.inr 26921), .inr (.inr 26923), .inr (.inr 26925), .inr (.inr 26927), .inr (.inr 26929), .inr (.inr 26931), .inr (.inr 26933), .inl 0, .inl 0, .inl 4294967295, .inl 0, .inl 0, .inr (.inr 26935), .inr (.inr 26937), .inr (.inr 26939), .inr (.inr 26941), .inr (.inr 26943), .inr (.inr 26945), .inr (.inr 26947), .inr (.inr 26949), .inr (.inr 26951), .inr (.inr 26953), .inl 0, .inl 0, .inr (.inr 26955), .inr (.inr 26957), .inr (.inr 26959), .inr (.inr 26961), .inr (.inr 26963), .inr (.inr 26965), .inr (.inr 26967), .inr (.inr 26969), .inr (.inr 26971), .inl 0, .inl 0, .inr (.inr 26973), .inl 0, .inr (.inr 26975), .inr (.inr 26977), .inr (.inr 26979), .inr (.inr 26981), .inr (.inr 26983), .inr (.inr 26985), .inr (.inr 26987), .inl 0, .inl 0, .inl 0, .inl 0, .inl 0, .inl 0, .inl 0, .inl 0, .inl 0, .inl 0, .inl 0, .inl 0, .inl 0, .inr (.inr 26989), .inl 0, .inl 0, .inr (.inr 26991), .inr (.inr 26993), .inr (.inr 26995), .inr (.inr 26997), .inr (.inr 26999), .inr (.inr 27001), .inr (.inr 27003), .inr (.inr 27005), .inr (.inr 27007), .inr (.inr 27009), .inr (.inr 27011), .inr (.inr 27055), .inr (.inr 27099), .inl 0, .inr (.inr 27101), .inr (.inr 27103), .inr (.inr 27105), .inr (.inr 27107), .inr (.inr 27109), .inr (.inr 27111), .inr (.inr 27113), .inl 0, .inr (.inr 27115), .inr (.inr 27117), .inr (.inr 27119), .inr (.inr 27121), .inr (.inr 27123), .inl 0, .inl 0, .inl 0, .inr (.inr 27125), .inr (.inr 27127), .inr (.inr 27129), .inr (.inr 27131), .inl 0, .inr (.inr 27133), .inl 0, .inl 0, .inr (.inr 27135), .inr (.inr 27137), .inr (.inr 27139), .inl 0, .inl 0, .inl 0, .inl 0, .inr (.inr 27141), .inr (.inr 27143), .inr (.inr 27145), .inr (.inr 27147), .inr (.inr 27149), .inl 0, .inl 0, .inl 0, .inl 0, .inr (.inl 0), .inr (.inl 0), .inl 0, .inl 0, .inl 0, .inl 0, .inl 110, .inr (.inr 27151), .inr (.inr 27153), .inr (.inr 27155), .inr (.inr 27157), .inr (.inr 27159), .inr (.inr 27161), .inr (.inr 27163), .inr (.inr 27165), .inr (.inr 27167), .inl 0, .inl 0, .inl 0, .inl 0, .inl 0, .inl 0, .inl 0, .inl 0, .inl 0, .inl 0, .inl 0, .inl 0, .inl 0, .inr (.inr 27169), .inr (.inr 27171), .inr (.inr 27173), .inr (.inr 27185), .inl 0, .inr (.inr 27197), .inr (.inr 27199), .inr (.inr 27201), .inr (.inr 27203), .inl 0, .inl 0, .inr (.inr 27205), .inr (.inr 27207), .inr (.inr 27209), .inr (.inr 27211), .inl 0, .inr (.inr 27213), .inr (.inr 27215), .inr (.inr 27217), .inr (.inr 27219), .inr (.inr 27221), .inl 0, .inl 0, .inl 0, .inr (.inr 27223), .inr (.inr 27225), .inr (.inl (b)), .inr (.inl 0), .inr (.inl 0), .inl 0, .inl 0, .inl 0, .inl 0, .inl 0, .inl 0, .inr (.inr 27227), .inl 0, .inl 0, .inl 0, .inr (.inl 0), .inr (.inl 0)]))], (n, 0))))) (some (some (.inl 0), (wM, (n, 0))))) := by rfl
set_option maxRecDepth 1000000 in
set_option maxHeartbeats 40000000 in
theorem f_mset (a b n : Nat) (ha : a < 4294967296) : ∃ w1, ev_X13_set [.inr (.inr 26909), .inl (a), .inr (.inl (b))] wM n = some (some (.inl (rB (rLt (a) 0) (0) (rB (rLe (a) 16) (1) (0)))), (w1, (n, 0))) ∧ ∀ (i : Nat) (x : rCC), wGet i [] = some x → wGet i w1 = some x := by
  have e := congrFun (congrFun (congrFun (se_mset rLt rEq rLe) a) b) n
  try dsimp only at e
  rw [evG_X13_set_e] at e
  cases h1 : rLt (a) 0
  · rw [h1] at e
    cases h2 : rLe (a) 16
    · rw [h2] at e
      exact ⟨_, e, wNo⟩
    · rw [h2] at e
      cases h3 : rEq (a) 16
      · rw [h3] at e
        cases h4 : Nat.blt (a) 16
        · rw [h4] at e
          exact absurd e (fun _ => by rw [blt_of2 ha h1 h2 h3] at h4; cases h4)
        · rw [h4] at e
          exact ⟨_, e, wNo⟩
      · rw [h3] at e
        exact ⟨_, e, wNo⟩
  · rw [h1] at e
    exact ⟨_, e, wNo⟩
-- mpeek: 18 steps
set_option maxRecDepth 1000000 in
set_option maxHeartbeats 40000000 in
theorem f_mpeek (a n : Nat) : ∃ w1, ev_X13_peek [.inr (.inr 26909), .inr (.inl (a))] wM n = some (some (.inl 4294967295), (w1, (n, 0))) ∧ ∀ (i : Nat) (x : rCC), wGet i [] = some x → wGet i w1 = some x := ⟨_, rfl, wNo⟩
-- mpoke: 20 steps
set_option maxRecDepth 1000000 in
set_option maxHeartbeats 40000000 in
theorem f_mpoke (a b n : Nat) : ∃ w1, ev_X13_poke [.inr (.inr 26909), .inr (.inl (a)), .inl (b)] wM n = some (some (.inl 0), (w1, (n, 0))) ∧ ∀ (i : Nat) (x : rCC), wGet i [] = some x → wGet i w1 = some x := ⟨_, rfl, wNo⟩
-- mstopAt0: 19 steps
set_option maxRecDepth 1000000 in
set_option maxHeartbeats 40000000 in
theorem f_mstopAt0 (a n : Nat) : ∃ w1, ev_X13_stopAt [.inr (.inr 26909), .inr (.inl (a)), .inl 0] wM n = some (some (.inl 0), (w1, (n, 0))) ∧ ∀ (i : Nat) (x : rCC), wGet i [] = some x → wGet i w1 = some x := ⟨_, rfl, wNo⟩
-- mstopAt1: 39 steps
set_option maxRecDepth 1000000 in
set_option maxHeartbeats 40000000 in
theorem f_mstopAt1 (a n : Nat) : ∃ w1, ev_X13_stopAt [.inr (.inr 26909), .inr (.inl (a)), .inl 1] wM n = some (some (.inl 1), (w1, (n, 0))) ∧ ∀ (i : Nat) (x : rCC), wGet i [] = some x → wGet i w1 = some x := ⟨_, rfl, wNo⟩
-- moutput: 23 steps
noncomputable def bsG_X13_output (vLt vEq vLe : Nat → Nat → Bool) : List rBl := [sq (h_ld isR 0) (sq (h_v (.inl 0)) (sq (h_put 15 0 isI) (sq (h_ld isI 1) (sq (h_v (.inl 4294967295)) (t_icmp (fun a b => rNot (vEq a b)) 2 1))))),
  sq (h_ld isR 0) (sq (h_get rFo 15 187) (t_go 6)),
  sq (h_ld isI 1) (t_if (fun a => vLt a 0) 5 3),
  sq (h_ld isI 1) (sq (h_ld isR 0) (sq (h_get rFo 15 187) (t_icmp (fun a b => rNot (vLt a b)) 5 4))),
  t_no,
  sq (h_v (.inl 4294967295)) (t_go 6),
  t_retv isI]
noncomputable def evG_X13_output (vLt vEq vLe : Nat → Nat → Bool) : rEv := fun as w n => rIni 2 as (fun ls => rRun (bsG_X13_output vLt vEq vLe) 100000 0 ls [] w n 0)
theorem evG_X13_output_e : evG_X13_output rLt rEq rLe = ev_X13_output := by rfl
set_option maxRecDepth 1000000 in
set_option maxHeartbeats 40000000 in
theorem se_moutput (vLt vEq vLe : Nat → Nat → Bool) : (fun (a n : Nat) => evG_X13_output vLt vEq vLe [.inr (.inr 26909), .inl (a)] wM n) = fun a n => rB (rNot (vEq (a) 4294967295)) (rB (vLt (a) 0) (some (some (.inl 4294967295), (wM, (n, 0)))) (rB (rNot (vLt (a) 0)) (some (some (.inl 4294967295), (wM, (n, 0)))) (none))) (some (some (.inl 0), (wM, (n, 0)))) := by rfl
set_option maxRecDepth 1000000 in
set_option maxHeartbeats 40000000 in
theorem f_moutput (a n : Nat) : ∃ w1, ev_X13_output [.inr (.inr 26909), .inl (a)] wM n = some (some (.inl (rB (rNot (rEq (a) 4294967295)) (4294967295) (0))), (w1, (n, 0))) ∧ ∀ (i : Nat) (x : rCC), wGet i [] = some x → wGet i w1 = some x := by
  have e := congrFun (congrFun (se_moutput rLt rEq rLe) a) n
  try dsimp only at e
  rw [evG_X13_output_e] at e
  cases h1 : rEq (a) 4294967295
  · rw [h1] at e
    cases h2 : rLt (a) 0
    · rw [h2] at e
      exact ⟨_, e, wNo⟩
    · rw [h2] at e
      exact ⟨_, e, wNo⟩
  · rw [h1] at e
    exact ⟨_, e, wNo⟩
-- mwhere: 14 steps
set_option maxRecDepth 1000000 in
set_option maxHeartbeats 40000000 in
theorem f_mwhere (a n : Nat) : ∃ w1, ev_X13_where [.inr (.inr 26909), .inr (.inl (a))] wM n = some (some (.inl 4294967295), (w1, (n, 0))) ∧ ∀ (i : Nat) (x : rCC), wGet i [] = some x → wGet i w1 = some x := ⟨_, rfl, wNo⟩
-- thrown, link
set_option maxRecDepth 1000000 in
set_option maxHeartbeats 40000000 in
theorem f_thr_link (n : Nat) : ∃ w1, ev_X13_thrown [.inr (.inr 26909)] wk_mlink n = some (some (.inl 1), (w1, (n, 0))) ∧ ∀ (i : Nat) (x : rCC), wGet i [] = some x → wGet i w1 = some x := ⟨_, rfl, wNo⟩
-- thrown, symbol
set_option maxRecDepth 1000000 in
set_option maxHeartbeats 40000000 in
theorem f_thr_symbol (n : Nat) : ∃ w1, ev_X13_thrown [.inr (.inr 26909)] wk_mrun_0 n = some (some (.inl 1), (w1, (n, 0))) ∧ ∀ (i : Nat) (x : rCC), wGet i [] = some x → wGet i w1 = some x := ⟨_, rfl, wNo⟩
-- thrown, load
set_option maxRecDepth 1000000 in
set_option maxHeartbeats 40000000 in
theorem f_thr_load (n : Nat) : ∃ w1, ev_X13_thrown [.inr (.inr 26909)] wk_mrun_0 n = some (some (.inl 1), (w1, (n, 0))) ∧ ∀ (i : Nat) (x : rCC), wGet i [] = some x → wGet i w1 = some x := ⟨_, rfl, wNo⟩
-- thrown, run0
set_option maxRecDepth 1000000 in
set_option maxHeartbeats 40000000 in
theorem f_thr_run0 (n : Nat) : ∃ w1, ev_X13_thrown [.inr (.inr 26909)] wk_mrun_0 n = some (some (.inl 1), (w1, (n, 0))) ∧ ∀ (i : Nat) (x : rCC), wGet i [] = some x → wGet i w1 = some x := ⟨_, rfl, wNo⟩
-- thrown, run1
set_option maxRecDepth 1000000 in
set_option maxHeartbeats 40000000 in
theorem f_thr_run1 (n : Nat) : ∃ w1, ev_X13_thrown [.inr (.inr 26909)] wk_mrun_1 n = some (some (.inl 2), (w1, (n, 0))) ∧ ∀ (i : Nat) (x : rCC), wGet i [] = some x → wGet i w1 = some x := ⟨_, rfl, wNo⟩
-- thrown, run2
set_option maxRecDepth 1000000 in
set_option maxHeartbeats 40000000 in
theorem f_thr_run2 (n : Nat) : ∃ w1, ev_X13_thrown [.inr (.inr 26909)] wk_mrun_0 n = some (some (.inl 1), (w1, (n, 0))) ∧ ∀ (i : Nat) (x : rCC), wGet i [] = some x → wGet i w1 = some x := ⟨_, rfl, wNo⟩
-- thrown, unit
set_option maxRecDepth 1000000 in
set_option maxHeartbeats 40000000 in
theorem f_thr_unit (n : Nat) : ∃ w1, ev_X13_thrown [.inr (.inr 26909)] wk_munit0 n = some (some (.inl 0), (w1, (n, 0))) ∧ ∀ (i : Nat) (x : rCC), wGet i wk_munit0 = some x → wGet i w1 = some x := ⟨_, rfl, wTwo rfl rfl⟩
