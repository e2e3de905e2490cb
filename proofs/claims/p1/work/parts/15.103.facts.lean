/-! WHAT THE SINGLE CALLS COMPUTE -/
-- clear: 29 steps
set_option maxRecDepth 1000000 in
set_option maxHeartbeats 40000000 in
theorem f_clear (n : Nat) : ∃ w1, ev_X11_clear [.inr (.inr 1)] wL n = some (none, (w1, (n, 0))) ∧ ∀ (i : Nat) (x : rCC), wGet i wM = some x → wGet i w1 = some x := ⟨_, rfl, wCutE (k := 13454) rfl⟩
-- fault: 23 steps
noncomputable def bsG_X11_fault (vLt vEq vLe : Nat → Nat → Bool) : List rBl := [sq (h_ld isI 1) (t_if (fun a => rNot (vEq a 0)) 2 1),
  sq (h_ld isR 0) (sq (h_get rFo 13 6) (t_go 7)),
  sq (h_ld isI 1) (sq (h_v (.inl 1)) (t_icmp (fun a b => rNot (vEq a b)) 4 3)),
  sq (h_ld isR 0) (sq (h_get rFo 13 7) (t_go 7)),
  sq (h_ld isI 1) (sq (h_v (.inl 2)) (t_icmp (fun a b => rNot (vEq a b)) 6 5)),
  sq (h_ld isR 0) (sq (h_get rFo 13 8) (t_go 7)),
  sq (h_v (.inl 4294967295)) (t_go 7),
  t_retv isI]
noncomputable def evG_X11_fault (vLt vEq vLe : Nat → Nat → Bool) : rEv := fun as w n => rIni 2 as (fun ls => rRun (bsG_X11_fault vLt vEq vLe) 100000 0 ls [] w n 0)
theorem evG_X11_fault_e : evG_X11_fault rLt rEq rLe = ev_X11_fault := by rfl
set_option maxRecDepth 1000000 in
set_option maxHeartbeats 40000000 in
theorem se_fault (vLt vEq vLe : Nat → Nat → Bool) : (fun (a n : Nat) => evG_X11_fault vLt vEq vLe [.inr (.inr 1), .inl (a)] wL n) = fun a n => rB (rNot (vEq (a) 0)) (rB (rNot (vEq (a) 1)) (rB (rNot (vEq (a) 2)) (some (some (.inl 4294967295), (wL, (n, 0)))) (some (some (.inl 4294967295), (wL, (n, 0))))) (some (some (.inl 0), (wL, (n, 0))))) (some (some (.inl 0), (wL, (n, 0)))) := by rfl
set_option maxRecDepth 1000000 in
set_option maxHeartbeats 40000000 in
theorem f_fault (a n : Nat) : ∃ w1, ev_X11_fault [.inr (.inr 1), .inl (a)] wL n = some (some (.inl (rB (rNot (rEq (a) 0)) (rB (rNot (rEq (a) 1)) (4294967295) (0)) (0))), (w1, (n, 0))) ∧ ∀ (i : Nat) (x : rCC), wGet i wM = some x → wGet i w1 = some x := by
  have e := congrFun (congrFun (se_fault rLt rEq rLe) a) n
  try dsimp only at e
  rw [evG_X11_fault_e] at e
  cases h1 : rEq (a) 0
  · rw [h1] at e
    cases h2 : rEq (a) 1
    · rw [h2] at e
      cases h3 : rEq (a) 2
      · rw [h3] at e
        exact ⟨_, e, wCutE (k := 13454) rfl⟩
      · rw [h3] at e
        exact ⟨_, e, wCutE (k := 13454) rfl⟩
    · rw [h2] at e
      exact ⟨_, e, wCutE (k := 13454) rfl⟩
  · rw [h1] at e
    exact ⟨_, e, wCutE (k := 13454) rfl⟩
-- size: 9 steps
set_option maxRecDepth 1000000 in
set_option maxHeartbeats 40000000 in
theorem f_size (a b n : Nat) : ∃ w1, ev_X11_size [.inr (.inr 1), .inl (a), .inl (b)] wL n = some (some (.inl 4294967295), (w1, (n, 0))) ∧ ∀ (i : Nat) (x : rCC), wGet i wM = some x → wGet i w1 = some x := ⟨_, rfl, wCutE (k := 13454) rfl⟩
-- octet: 8 steps
set_option maxRecDepth 1000000 in
set_option maxHeartbeats 40000000 in
theorem f_octet (a b c n : Nat) : ∃ w1, ev_X11_octet [.inr (.inr 1), .inl (a), .inl (b), .inl (c)] wL n = some (some (.inl 4294967295), (w1, (n, 0))) ∧ ∀ (i : Nat) (x : rCC), wGet i wM = some x → wGet i w1 = some x := ⟨_, rfl, wCutE (k := 13454) rfl⟩
-- link: 213 steps
set_option maxRecDepth 1000000 in
set_option maxHeartbeats 40000000 in
theorem f_link (n : Nat) : ∃ w1, ev_X11_link [.inr (.inr 1)] wL n = some (some (.inl 0), (w1, (Nat.succ (n), 6))) ∧ ∀ (i : Nat) (x : rCC), wGet i wM = some x → wGet i w1 = some x := ⟨_, rfl, wCutE (k := 13454) rfl⟩
-- symbol: 47 steps
set_option maxRecDepth 1000000 in
set_option maxHeartbeats 40000000 in
theorem f_symbol (a n : Nat) : ∃ w1, ev_X11_symbol [.inr (.inr 1), .inl (a)] wL n = some (some (.inl 1), (w1, (Nat.succ (n), 6))) ∧ ∀ (i : Nat) (x : rCC), wGet i wM = some x → wGet i w1 = some x := ⟨_, rfl, wCutE (k := 13454) rfl⟩
-- load: 5 steps
set_option maxRecDepth 1000000 in
set_option maxHeartbeats 40000000 in
theorem f_load (n : Nat) : ∃ w1, ev_X11_load [.inr (.inr 1)] wL n = some (some (.inl 0), (w1, (Nat.succ (n), 6))) ∧ ∀ (i : Nat) (x : rCC), wGet i wM = some x → wGet i w1 = some x := ⟨_, rfl, wCutE (k := 13454) rfl⟩
-- input: 33 steps
set_option maxRecDepth 1000000 in
set_option maxHeartbeats 40000000 in
theorem f_input (a n : Nat) : ∃ w1, ev_X11_input [.inr (.inr 1), .inl (a)] wL n = some (some (.inl 0), (w1, (n, 0))) ∧ ∀ (i : Nat) (x : rCC), wGet i wM = some x → wGet i w1 = some x := ⟨_, rfl, wCutE (k := 13454) rfl⟩
-- run
noncomputable def bsG_X11_run (vLt vEq vLe : Nat → Nat → Bool) : List rBl := [sq (h_ld isI 1) (sq (h_v (.inl 1)) (t_icmp vLt 2 1)),
  sq (h_ld isI 1) (sq (h_v (.inl 4000)) (t_icmp vLe 3 2)),
  t_thr 2,
  sq (h_ld isR 0) (sq (h_get rFo 13 4) (sq (h_get rFo 7 0) (sq (h_get rFo 8 3) (t_if (fun a => rEq a 0) 5 4)))),
  t_no,
  t_thr 0,
  t_no]
noncomputable def evG_X11_run (vLt vEq vLe : Nat → Nat → Bool) : rEv := fun as w n => rIni 2 as (fun ls => rRun (bsG_X11_run vLt vEq vLe) 100000 0 ls [] w n 0)
theorem evG_X11_run_e : evG_X11_run rLt rEq rLe = ev_X11_run := by rfl
set_option maxRecDepth 1000000 in
set_option maxHeartbeats 40000000 in
theorem se_run (vLt vEq vLe : Nat → Nat → Bool) : (fun (a n : Nat) => evG_X11_run vLt vEq vLe [.inr (.inr 1), .inl (a)] wL n) = fun a n => rB (vLt (a) 1) (some (some (.inl 2), (wL, (Nat.succ (n), 6)))) (rB (vLe (a) 4000) (some (some (.inl 0), (wL, (Nat.succ (n), 6)))) (some (some (.inl 2), (wL, (Nat.succ (n), 6))))) := by rfl
set_option maxRecDepth 1000000 in
set_option maxHeartbeats 40000000 in
theorem f_run_0 (a n : Nat) (h0 : rLt (a) 1 = true) : ∃ w1, ev_X11_run [.inr (.inr 1), .inl (a)] wL n = some (some (.inl 2), (w1, (Nat.succ (n), 6))) ∧ ∀ (i : Nat) (x : rCC), wGet i wM = some x → wGet i w1 = some x := by
  have e := congrFun (congrFun (se_run rLt rEq rLe) a) n
  try dsimp only at e
  rw [evG_X11_run_e] at e
  rw [h0] at e
  exact ⟨_, e, wCutE (k := 13454) rfl⟩
set_option maxRecDepth 1000000 in
set_option maxHeartbeats 40000000 in
theorem f_run_1 (a n : Nat) (h0 : rLt (a) 1 = false) (h1 : rLe (a) 4000 = true) : ∃ w1, ev_X11_run [.inr (.inr 1), .inl (a)] wL n = some (some (.inl 0), (w1, (Nat.succ (n), 6))) ∧ ∀ (i : Nat) (x : rCC), wGet i wM = some x → wGet i w1 = some x := by
  have e := congrFun (congrFun (se_run rLt rEq rLe) a) n
  try dsimp only at e
  rw [evG_X11_run_e] at e
  rw [h0, h1] at e
  exact ⟨_, e, wCutE (k := 13454) rfl⟩
set_option maxRecDepth 1000000 in
set_option maxHeartbeats 40000000 in
theorem f_run_2 (a n : Nat) (h0 : rLt (a) 1 = false) (h1 : rLe (a) 4000 = false) : ∃ w1, ev_X11_run [.inr (.inr 1), .inl (a)] wL n = some (some (.inl 2), (w1, (Nat.succ (n), 6))) ∧ ∀ (i : Nat) (x : rCC), wGet i wM = some x → wGet i w1 = some x := by
  have e := congrFun (congrFun (se_run rLt rEq rLe) a) n
  try dsimp only at e
  rw [evG_X11_run_e] at e
  rw [h0, h1] at e
  exact ⟨_, e, wCutE (k := 13454) rfl⟩
-- mrun
noncomputable def bsG_X13_run (vLt vEq vLe : Nat → Nat → Bool) : List rBl := [sq (h_ld isI 1) (sq (h_v (.inl 1)) (t_icmp vLt 2 1)),
  sq (h_ld isI 1) (sq (h_v (.inl 4000)) (t_icmp vLe 3 2)),
  sq (h_ld isR 0) (sq (h_v (.inl 1)) (sq (h_v (.inl 0)) (sq (h_call 3 (rRecv rFo 15) ev_X13_give) (t_retv isI)))),
  sq (h_ld isR 0) (sq (h_get rFo 15 179) (t_if (fun a => rEq a 0) 5 4)),
  t_no,
  sq (h_ld isR 0) (sq (h_v (.inl 2)) (sq (h_v (.inl 0)) (sq (h_call 3 (rRecv rFo 15) ev_X13_give) (t_retv isI)))),
  t_no,
  t_no,
  t_no,
  t_no,
  t_no,
  t_no,
  t_no,
  t_no,
  t_no]
noncomputable def evG_X13_run (vLt vEq vLe : Nat → Nat → Bool) : rEv := fun as w n => rIni 3 as (fun ls => rRun (bsG_X13_run vLt vEq vLe) 100000 0 ls [] w n 0)
theorem evG_X13_run_e : evG_X13_run rLt rEq rLe = ev_X13_run := by rfl
set_option maxRecDepth 1000000 in
set_option maxHeartbeats 40000000 in
theorem se_mrun (vLt vEq vLe : Nat → Nat → Bool) : (fun (a n : Nat) => evG_X13_run vLt vEq vLe [.inr (.inr 26909), .inl (a)] wM n) = fun a n => rB (vLt (a) 1) (some (some (.inl 0), ([(14080, .inr (1, 1, .inr (.inl 0), [])),
  (13613, .inr (1, 16, .inr (.inl 0), [])),
  (13611, .inr (1, 16, .inr (.inl 0), [])),
  (13592, .inl (14, [.inl 0, .inl 0, .inl 0, .inl 0, .inl 0, .inl 0, .inl 0, .inr (.inl 0), .inr (.inr 27187), .inr (.inr 27189), .inr (.inr 27191), .inr (.inr 27193), .inr (.inr 27195)])),
  (13561, .inr (2, 140, .inl 0, [])),
  (13466, .inr (3, 128, .inl 0, [])),
  (13465, .inr (0, 128, .inl 0, [])),
  (13464, .inr (0, 33, .inl 0, [])),
  (13463, .inr (0, 33, .inl 0, [])),
  (13462, .inr (0, 33, .inl 0, [])),
  (13461, .inr (3, 32, .inl 0, [])),
  (13455, .inr (2, 65536, .inl 0, [])),
  (13454, .inl (15, [.inl 1, .inr (.inr 26911), .inl 0, .inl 137, .inl 48, .inr (.inr 26913), .inr (.inr 26915), .inr (.inr 26917), .inr (.inr 26919), .inr (.inl 1952807028), .inr (.inl 125822751044705), .inr (.inl 1684108385), .inr (.inl 6452083), .inr (.inl 1652126821), .inr (.inl 431500522084), .inr (.inl 487335096932), .inr (.inl 7497068), .inr (.inl 6648181), .inr (.inl 7497072), .inr (.inl 495873782388), .inl 0, .inr (.inr 26921), .inr (.inr 26923), .inr (.inr 26925), .inr (.inr 26927), .inr (.inr 26929), .inr (.inr 26931), .inr (.inr 26933), .inl 0, .inl 0, .inl 4294967295, .inl 0, .inl 0, .inr (.inr 26935), .inr (.inr 26937), .inr (.inr 26939), .inr (.inr 26941), .inr (.inr 26943), .inr (.inr 26945), .inr (.inr 26947), .inr (.inr 26949), .inr (.inr 26951), .inr (.inr 26953), .inl 0, .inl 0, .inr (.inr 26955), .inr (.inr 26957), .inr (.inr 26959), .inr (.inr 26961), .inr (.inr 26963), .inr (.inr 26965), .inr (.inr 26967), .inr (.inr 26969), .inr (.inr 26971), .inl 0, .inl 0, .inr (.inr 26973), .inl 0, .inr (.inr 26975), .inr (.inr 26977), .inr (.inr 26979), .inr (.inr 26981), .inr (.inr 26983), .inr (.inr 26985), .inr (.inr 26987), .inl 0, .inl 0, .inl 0, .inl 0, .inl 0, .inl 0, .inl 0, .inl 0, .inl 0, .inl 0, .inl 0, .inl 0, .inl 0, .inr (.inr 26989), .inl 0, .inl 0, .inr (.inr 26991), .inr (.inr 26993), .inr (.inr 26995), .inr (.inr 26997), .inr (.inr 26999), .inr (.inr 27001), .inr (.inr 27003), .inr (.inr 27005), .inr (.inr 27007), .inr (.inr 27009), .inr (.inr 27011), .inr (.inr 27055), .inr (.inr 27099), .inl 0, .inr (.inr 27101), .inr (.inr 27103), .inr (.inr 27105), .inr (.inr 27107), .inr (.inr 27109), .inr (.inr 27111), .inr (.inr 27113), .inl 0, .inr (.inr 27115), .inr (.inr 27117), .inr (.inr 27119), .inr (.inr 27121), .inr (.inr 27123), .inl 0, .inl 0, .inl 0, .inr (.inr 27125), .inr (.inr 27127), .inr (.inr 27129), .inr (.inr 27131), .inl 0, .inr (.inr 27133), .inl 0, .inl 0, .inr (.inr 27135), .inr (.inr 27137), .inr (.inr 27139), .inl 0, .inl 0, .inl 0, .inl 0, .inr (.inr 27141), .inr (.inr 27143), .inr (.inr 27145), .inr (.inr 27147), .inr (.inr 27149), .inl 0, .inl 0, .inl 0, .inl 0, .inr (.inl 0), .inr (.inl 0), .inl 0, .inl 0, .inl 0, .inl 0, .inl 110, .inr (.inr 27151), .inr (.inr 27153), .inr (.inr 27155), .inr (.inr 27157), .inr (.inr 27159), .inr (.inr 27161), .inr (.inr 27163), .inr (.inr 27165), .inr (.inr 27167), .inl 0, .inl 0, .inl 0, .inl 0, .inl 0, .inl 0, .inl 0, .inl 0, .inl 0, .inl 0, .inl 0, .inl 0, .inl 0, .inr (.inr 27169), .inr (.inr 27171), .inr (.inr 27173), .inr (.inr 27185), .inl 0, .inr (.inr 27197), .inr (.inr 27199), .inr (.inr 27201), .inr (.inr 27203), .inl 0, .inl 0, .inr (.inr 27205), .inr (.inr 27207), .inr (.inr 27209), .inr (.inr 27211), .inl 0, .inr (.inr 27213), .inr (.inr 27215), .inr (.inr 27217), .inr (.inr 27219), .inr (.inr 27221), .inl 0, .inl 0, .inl 0, .inr (.inr 27223), .inr (.inr 27225), .inr (.inl 0), .inr (.inl 0), .inr (.inl 0), .inl 0, .inl 0, .inl 0, .inl 0, .inl 0, .inl 0, .inr (.inr 27227), .inl 0, .inl 0, .inl 0, .inr (.inl 0), .inr (.inl 0)]))], (n, 0)))) (rB (vLe (a) 4000) (some (some (.inl 0), ([(14080, .inr (1, 1, .inr (.inl 0), [])),
  (13613, .inr (1, 16, .inr (.inl 0), [])),
  (13611, .inr (1, 16, .inr (.inl 0), [])),
  (13592, .inl (14, [.inl 0, .inl 0, .inl 0, .inl 0, .inl 0, .inl 0, .inl 0, .inr (.inl 0), .inr (.inr 27187), .inr (.inr 27189), .inr (.inr 27191), .inr (.inr 27193), .inr (.inr 27195)])),
  (13561, .inr (2, 140, .inl 0, [])),
  (13466, .inr (3, 128, .inl 0, [])),
  (13465, .inr (0, 128, .inl 0, [])),
  (13464, .inr (0, 33, .inl 0, [])),
  (13463, .inr (0, 33, .inl 0, [])),
  (13462, .inr (0, 33, .inl 0, [])),
  (13461, .inr (3, 32, .inl 0, [])),
  (13455, .inr (2, 65536, .inl 0, [])),
  (13454, .inl (15, [.inl 2, .inr (.inr 26911), .inl 0, .inl 137, .inl 48, .inr (.inr 26913), .inr (.inr 26915), .inr (.inr 26917), .inr (.inr 26919), .inr (.inl 1952807028), .inr (.inl 125822751044705), .inr (.inl 1684108385), .inr (.inl 6452083), .inr (.inl 1652126821), .inr (.inl 431500522084), .inr (.inl 487335096932), .inr (.inl 7497068), .inr (.inl 6648181), .inr (.inl 7497072), .inr (.inl 495873782388), .inl 0, .inr (.inr 26921), .inr (.inr 26923), .inr (.inr 26925), .inr (.inr 26927), .inr (.inr 26929), .inr (.inr 26931), .inr (.inr 26933), .inl 0, .inl 0, .inl 4294967295, .inl 0, .inl 0, .inr (.inr 26935), .inr (.inr 26937), .inr (.inr 26939), .inr (.inr 26941), .inr (.inr 26943), .inr (.inr 26945), .inr (.inr 26947), .inr (.inr 26949), .inr (.inr 26951), .inr (.inr 26953), .inl 0, .inl 0, .inr (.inr 26955), .inr (.inr 26957), .inr (.inr 26959), .inr (.inr 26961), .inr (.inr 26963), .inr (.inr 26965), .inr (.inr 26967), .inr (.inr 26969), .inr (.inr 26971), .inl 0, .inl 0, .inr (.inr 26973), .inl 0, .inr (.inr 26975), .inr (.inr 26977), .inr (.inr 26979), .inr (.inr 26981), .inr (.inr 26983), .inr (.inr 26985), .inr (.inr 26987), .inl 0, .inl 0, .inl 0, .inl 0, .inl 0, .inl 0, .inl 0, .inl 0, .inl 0, .inl 0, .inl 0, .inl 0, .inl 0, .inr (.inr 26989), .inl 0, .inl 0, .inr (.inr 26991), .inr (.inr 26993), .inr (.inr 26995), .inr (.inr 26997), .inr (.inr 26999), .inr (.inr 27001), .inr (.inr 27003), .inr (.inr 27005), .inr (.inr 27007), .inr (.inr 27009), .inr (.inr 27011), .inr (.inr 27055), .inr (.inr 27099), .inl 0, .inr (.inr 27101), .inr (.inr 27103), .inr (.inr 27105), .inr (.inr 27107), .inr (.inr 27109), .inr (.inr 27111), .inr (.inr 27113), .inl 0, .inr (.inr 27115), .inr (.inr 27117), .inr (.inr 27119), .inr (.inr 27121), .inr (.inr 27123), .inl 0, .inl 0, .inl 0, .inr (.inr 27125), .inr (.inr 27127), .inr (.inr 27129), .inr (.inr 27131), .inl 0, .inr (.inr 27133), .inl 0, .inl 0, .inr (.inr 27135), .inr (.inr 27137), .inr (.inr 27139), .inl 0, .inl 0, .inl 0, .inl 0, .inr (.inr 27141), .inr (.inr 27143), .inr (.inr 27145), .inr (.inr 27147), .inr (.inr 27149), .inl 0, .inl 0, .inl 0, .inl 0, .inr (.inl 0), .inr (.inl 0), .inl 0, .inl 0, .inl 0, .inl 0, .inl 110, .inr (.inr 27151), .inr (.inr 27153), .inr (.inr 27155), .inr (.inr 27157), .inr (.inr 27159), .inr (.inr 27161), .inr (.inr 27163), .inr (.inr 27165), .inr (.inr 27167), .inl 0, .inl 0, .inl 0, .inl 0, .inl 0, .inl 0, .inl 0, .inl 0, .inl 0, .inl 0, .inl 0, .inl 0, .inl 0, .inr (.inr 27169), .inr (.inr 27171), .inr (.inr 27173), .inr (.inr 27185), .inl 0, .inr (.inr 27197), .inr (.inr 27199), .inr (.inr 27201), .inr (.inr 27203), .inl 0, .inl 0, .inr (.inr 27205), .inr (.inr 27207), .inr (.inr 27209), .inr (.inr 27211), .inl 0, .inr (.inr 27213), .inr (.inr 27215), .inr (.inr 27217), .inr (.inr 27219), .inr (.inr 27221), .inl 0, .inl 0, .inl 0, .inr (.inr 27223), .inr (.inr 27225), .inr (.inl 0), .inr (.inl 0), .inr (.inl 0), .inl 0, .inl 0, .inl 0, .inl 0, .inl 0, .inl 0, .inr (.inr 27227), .inl 0, .inl 0, .inl 0, .inr (.inl 0), .inr (.inl 0)]))], (n, 0)))) (some (some (.inl 0), ([(14080, .inr (1, 1, .inr (.inl 0), [])),
  (13613, .inr (1, 16, .inr (.inl 0), [])),
  (13611, .inr (1, 16, .inr (.inl 0), [])),
  (13592, .inl (14, [.inl 0, .inl 0, .inl 0, .inl 0, .inl 0, .inl 0, .inl 0, .inr (.inl 0), .inr (.inr 27187), .inr (.inr 27189), .inr (.inr 27191), .inr (.inr 27193), .inr (.inr 27195)])),
  (13561, .inr (2, 140, .inl 0, [])),
  (13466, .inr (3, 128, .inl 0, [])),
  (13465, .inr (0, 128, .inl 0, [])),
  (13464, .inr (0, 33, .inl 0, [])),
  (13463, .inr (0, 33, .inl 0, [])),
  (13462, .inr (0, 33, .inl 0, [])),
  (13461, .inr (3, 32, .inl 0, [])),
  (13455, .inr (2, 65536, .inl 0, [])),
  (13454, .inl (15, [.inl 1, .inr (.inr 26911), .inl 0, .inl 137, .inl 48, .inr (.inr 26913), .inr (.inr 26915), .inr (.inr 26917), .inr (.inr 26919), .inr (.inl 1952807028), .inr (.inl 125822751044705), .inr (.inl 1684108385), .inr (.inl 6452083), .inr (.inl 1652126821), .inr (.inl 431500522084), .inr (.inl 487335096932), .inr (.inl 7497068), .inr (.inl 6648181), .inr (.inl 7497072), .inr (.inl 495873782388), .inl 0, .inr (.inr 26921), .inr (.inr 26923), .inr (.inr 26925), .inr (.inr 26927), .inr (.inr 26929), .inr (.inr 26931), .inr (.inr 26933), .inl 0, .inl 0, .inl 4294967295, .inl 0, .inl 0, .inr (.inr 26935), .inr (.inr 26937), .inr (.inr 26939), .inr (.inr 26941), .inr (.inr 26943), .inr (.inr 26945), .inr (.inr 26947), .inr (.inr 26949), .inr (.inr 26951), .inr (.inr 26953), .inl 0, .inl 0, .inr (.inr 26955), .inr (.inr 26957), .inr (.inr 26959), .inr (.inr 26961), .inr (.inr 26963), .inr (.inr 26965), .inr (.inr 26967), .inr (.inr 26969), .inr (.inr 26971), .inl 0, .inl 0, .inr (.inr 26973), .inl 0, .inr (.inr 26975), .inr (.inr 26977), .inr (.inr 26979), .inr (.inr 26981), .inr (.inr 26983), .inr (.inr 26985), .inr (.inr 26987), .inl 0, .inl 0, .inl 0, .inl 0, .inl 0, .inl 0, .inl 0, .inl 0, .inl 0, .inl 0, .inl 0, .inl 0, .inl 0, .inr (.inr 26989), .inl 0, .inl 0, .inr (.inr 26991), .inr (.inr 26993), .inr (.inr 26995), .inr (.inr 26997), .inr (.inr 26999), .inr (.inr 27001), .inr (.inr 27003), .inr (.inr 27005), .inr (.inr 27007), .inr (.inr 27009), .inr (.inr 27011), .inr (.inr 27055), .inr (.inr 27099), .inl 0, .inr (.inr 27101), .inr (.inr 27103), .inr (.inr 27105), .inr (.inr 27107), .inr (.inr 27109), .inr (.inr 27111), .inr (.inr 27113), .inl 0, .inr (.inr 27115), .inr (.inr 27117), .inr (.inr 27119), .inr (.inr 27121), .inr (.inr 27123), .inl 0, .inl 0, .inl 0, .inr (.inr 27125), .inr (.inr 27127), .inr (.inr 27129), .inr (.inr 27131), .inl 0, .inr (.inr 27133), .inl 0, .inl 0, .inr (.inr 27135), .inr (.inr 27137), .inr (.inr 27139), .inl 0, .inl 0, .inl 0, .inl 0, .inr (.inr 27141), .inr (.inr 27143), .inr (.inr 27145), .inr (.inr 27147), .inr (.inr 27149), .inl 0, .inl 0, .inl 0, .inl 0, .inr (.inl 0), .inr (.inl 0), .inl 0, .inl 0, .inl 0, .inl 0, .inl 110, .inr (.inr 27151), .inr (.inr 27153), .inr (.inr 27155), .inr (.inr 27157), .inr (.inr 27159), .inr (.inr 27161), .inr (.inr 27163), .inr (.inr 27165), .inr (.inr 27167), .inl 0, .inl 0, .inl 0, .inl 0, .inl 0, .inl 0, .inl 0, .inl 0, .inl 0, .inl 0, .inl 0, .inl 0, .inl 0, .inr (.inr 27169), .inr (.inr 27171), .inr (.inr 27173), .inr (.inr 27185), .inl 0, .inr (.inr 27197), .inr (.inr 27199), .inr (.inr 27201), .inr (.inr 27203), .inl 0, .inl 0, .inr (.inr 27205), .inr (.inr 27207), .inr (.inr 27209), .inr (.inr 27211), .inl 0, .inr (.inr 27213), .inr (.inr 27215), .inr (.inr 27217), .inr (.inr 27219), .inr (.inr 27221), .inl 0, .inl 0, .inl 0, .inr (.inr 27223), .inr (.inr 27225), .inr (.inl 0), .inr (.inl 0), .inr (.inl 0), .inl 0, .inl 0, .inl 0, .inl 0, .inl 0, .inl 0, .inr (.inr 27227), .inl 0, .inl 0, .inl 0, .inr (.inl 0), .inr (.inl 0)]))], (n, 0))))) := by rfl
set_option maxRecDepth 1000000 in
set_option maxHeartbeats 40000000 in
noncomputable def wk_mrun_0 : rWd := [(13454, .inl (15, [.inl 1, .inr (.inr 26911), .inl 0, .inl 137, .inl 48, .inr (.inr 26913), .inr (.inr 26915), .inr (.inr 26917), .inr (.inr 26919), .inr (.inl 1952807028), .inr (.inl 125822751044705), .inr (.inl 1684108385), .inr (.inl 6452083), .inr (.inl 1652126821), .inr (.inl 431500522084), .inr (.inl 487335096932), .inr (.inl 7497068), .inr (.inl 6648181), .inr (.inl 7497072), .inr (.inl 495873782388), .inl 0, .inr (.inr 26921), .inr (.inr 26923), .inr (.inr 26925), .inr (.inr 26927), .inr (.inr 26929), .inr (.inr 26931), .inr (.inr 26933), .inl 0, .inl 0, .inl 4294967295, .inl 0, .inl 0, .inr (.inr 26935), .inr (.inr 26937), .inr (.inr 26939), .inr (.inr 26941), .inr (.inr 26943), .inr (.inr 26945), .inr (.inr 26947), .inr (.inr 26949), .inr (.inr 26951), .inr (.inr 26953), .inl 0, .inl 0, .inr (.inr 26955), .inr (.inr 26957), .inr (.inr 26959), .inr (.inr 26961), .inr (.inr 26963), .inr (.inr 26965), .inr (.inr 26967), .inr (.inr 26969), .inr (.inr 26971), .inl 0, .inl 0, .inr (.inr 26973), .inl 0, .inr (.inr 26975), .inr (.inr 26977), .inr (.inr 26979), .inr (.inr 26981), .inr (.inr 26983), .inr (.inr 26985), .inr (.inr 26987), .inl 0, .inl 0, .inl 0, .inl 0, .inl 0, .inl 0, .inl 0, .inl 0, .inl 0, .inl 0, .inl 0, .inl 0, .inl 0, .inr (.inr 26989), .inl 0, .inl 0, .inr (.inr 26991), .inr (.inr 26993), .inr (.inr 26995), .inr (.inr 26997), .inr (.inr 26999), .inr (.inr 27001), .inr (.inr 27003), .inr (.inr 27005), .inr (.inr 27007), .inr (.inr 27009), .inr (.inr 27011), .inr (.inr 27055), .inr (.inr 27099), .inl 0, .inr (.inr 27101), .inr (.inr 27103), .inr (.inr 27105), .inr (.inr 27107), .inr (.inr 27109), .inr (.inr 27111), .inr (.inr 27113), .inl 0, .inr (.inr 27115), .inr (.inr 27117), .inr (.inr 27119), .inr (.inr 27121), .inr (.inr 27123), .inl 0, .inl 0, .inl 0, .inr (.inr 27125), .inr (.inr 27127), .inr (.inr 27129), .inr (.inr 27131), .inl 0, .inr (.inr 27133), .inl 0, .inl 0, .inr (.inr 27135), .inr (.inr 27137), .inr (.inr 27139), .inl 0, .inl 0, .inl 0, .inl 0, .inr (.inr 27141), .inr (.inr 27143), .inr (.inr 27145), .inr (.inr 27147), .inr (.inr 27149), .inl 0, .inl 0, .inl 0, .inl 0, .inr (.inl 0), .inr (.inl 0), .inl 0, .inl 0, .inl 0, .inl 0, .inl 110, .inr (.inr 27151), .inr (.inr 27153), .inr (.inr 27155), .inr (.inr 27157), .inr (.inr 27159), .inr (.inr 27161), .inr (.inr 27163), .inr (.inr 27165), .inr (.inr 27167), .inl 0, .inl 0, .inl 0, .inl 0, .inl 0, .inl 0, .inl 0, .inl 0, .inl 0, .inl 0, .inl 0, .inl 0, .inl 0, .inr (.inr 27169), .inr (.inr 27171), .inr (.inr 27173), .inr (.inr 27185), .inl 0, .inr (.inr 27197), .inr (.inr 27199), .inr (.inr 27201), .inr (.inr 27203), .inl 0, .inl 0, .inr (.inr 27205), .inr (.inr 27207), .inr (.inr 27209), .inr (.inr 27211), .inl 0, .inr (.inr 27213), .inr (.inr 27215), .inr (.inr 27217), .inr (.inr 27219), .inr (.inr 27221), .inl 0, .inl 0, .inl 0, .inr (.inr 27223), .inr (.inr 27225), .inr (.inl 0), .inr (.inl 0), .inr (.inl 0), .inl 0, .inl 0, .inl 0, .inl 0, .inl 0, .inl 0, .inr (.inr 27227), .inl 0, .inl 0, .inl 0, .inr (.inl 0), .inr (.inl 0)]))]
set_option maxRecDepth 1000000 in
set_option maxHeartbeats 40000000 in
theorem f_mrun_0 (a n : Nat) (h0 : rLt (a) 1 = true) : ∃ w1, ev_X13_run [.inr (.inr 26909), .inl (a)] wM n = some (some (.inl 0), (w1, (n, 0))) ∧ ∀ (i : Nat) (x : rCC), wGet i wk_mrun_0 = some x → wGet i w1 = some x := by
  have e := congrFun (congrFun (se_mrun rLt rEq rLe) a) n
  try dsimp only at e
  rw [evG_X13_run_e] at e
  rw [h0] at e
  exact ⟨_, e, wOne rfl⟩
set_option maxRecDepth 1000000 in
set_option maxHeartbeats 40000000 in
noncomputable def wk_mrun_1 : rWd := [(13454, .inl (15, [.inl 2, .inr (.inr 26911), .inl 0, .inl 137, .inl 48, .inr (.inr 26913), .inr (.inr 26915), .inr (.inr 26917), .inr (.inr 26919), .inr (.inl 1952807028), .inr (.inl 125822751044705), .inr (.inl 1684108385), .inr (.inl 6452083), .inr (.inl 1652126821), .inr (.inl 431500522084), .inr (.inl 487335096932), .inr (.inl 7497068), .inr (.inl 6648181), .inr (.inl 7497072), .inr (.inl 495873782388), .inl 0, .inr (.inr 26921), .inr (.inr 26923), .inr (.inr 26925), .inr (.inr 26927), .inr (.inr 26929), .inr (.inr 26931), .inr (.inr 26933), .inl 0, .inl 0, .inl 4294967295, .inl 0, .inl 0, .inr (.inr 26935), .inr (.inr 26937), .inr (.inr 26939), .inr (.inr 26941), .inr (.inr 26943), .inr (.inr 26945), .inr (.inr 26947), .inr (.inr 26949), .inr (.inr 26951), .inr (.inr 26953), .inl 0, .inl 0, .inr (.inr 26955), .inr (.inr 26957), .inr (.inr 26959), .inr (.inr 26961), .inr (.inr 26963), .inr (.inr 26965), .inr (.inr 26967), .inr (.inr 26969), .inr (.inr 26971), .inl 0, .inl 0, .inr (.inr 26973), .inl 0, .inr (.inr 26975), .inr (.inr 26977), .inr (.inr 26979), .inr (.inr 26981), .inr (.inr 26983), .inr (.inr 26985), .inr (.inr 26987), .inl 0, .inl 0, .inl 0, .inl 0, .inl 0, .inl 0, .inl 0, .inl 0, .inl 0, .inl 0, .inl 0, .inl 0, .inl 0, .inr (.inr 26989), .inl 0, .inl 0, .inr (.inr 26991), .inr (.inr 26993), .inr (.inr 26995), .inr (.inr 26997), .inr (.inr 26999), .inr (.inr 27001), .inr (.inr 27003), .inr (.inr 27005), .inr (.inr 27007), .inr (.inr 27009), .inr (.inr 27011), .inr (.inr 27055), .inr (.inr 27099), .inl 0, .inr (.inr 27101), .inr (.inr 27103), .inr (.inr 27105), .inr (.inr 27107), .inr (.inr 27109), .inr (.inr 27111), .inr (.inr 27113), .inl 0, .inr (.inr 27115), .inr (.inr 27117), .inr (.inr 27119), .inr (.inr 27121), .inr (.inr 27123), .inl 0, .inl 0, .inl 0, .inr (.inr 27125), .inr (.inr 27127), .inr (.inr 27129), .inr (.inr 27131), .inl 0, .inr (.inr 27133), .inl 0, .inl 0, .inr (.inr 27135), .inr (.inr 27137), .inr (.inr 27139), .inl 0, .inl 0, .inl 0, .inl 0, .inr (.inr 27141), .inr (.inr 27143), .inr (.inr 27145), .inr (.inr 27147), .inr (.inr 27149), .inl 0, .inl 0, .inl 0, .inl 0, .inr (.inl 0), .inr (.inl 0), .inl 0, .inl 0, .inl 0, .inl 0, .inl 110, .inr (.inr 27151), .inr (.inr 27153), .inr (.inr 27155), .inr (.inr 27157), .inr (.inr 27159), .inr (.inr 27161), .inr (.inr 27163), .inr (.inr 27165), .inr (.inr 27167), .inl 0, .inl 0, .inl 0, .inl 0, .inl 0, .inl 0, .inl 0, .inl 0, .inl 0, .inl 0, .inl 0, .inl 0, .inl 0, .inr (.inr 27169), .inr (.inr 27171), .inr (.inr 27173), .inr (.inr 27185), .inl 0, .inr (.inr 27197), .inr (.inr 27199), .inr (.inr 27201), .inr (.inr 27203), .inl 0, .inl 0, .inr (.inr 27205), .inr (.inr 27207), .inr (.inr 27209), .inr (.inr 27211), .inl 0, .inr (.inr 27213), .inr (.inr 27215), .inr (.inr 27217), .inr (.inr 27219), .inr (.inr 27221), .inl 0, .inl 0, .inl 0, .inr (.inr 27223), .inr (.inr 27225), .inr (.inl 0), .inr (.inl 0), .inr (.inl 0), .inl 0, .inl 0, .inl 0, .inl 0, .inl 0, .inl 0, .inr (.inr 27227), .inl 0, .inl 0, .inl 0, .inr (.inl 0), .inr (.inl 0)]))]
set_option maxRecDepth 1000000 in
set_option maxHeartbeats 40000000 in
theorem f_mrun_1 (a n : Nat) (h0 : rLt (a) 1 = false) (h1 : rLe (a) 4000 = true) : ∃ w1, ev_X13_run [.inr (.inr 26909), .inl (a)] wM n = some (some (.inl 0), (w1, (n, 0))) ∧ ∀ (i : Nat) (x : rCC), wGet i wk_mrun_1 = some x → wGet i w1 = some x := by
  have e := congrFun (congrFun (se_mrun rLt rEq rLe) a) n
  try dsimp only at e
  rw [evG_X13_run_e] at e
  rw [h0, h1] at e
  exact ⟨_, e, wOne rfl⟩
set_option maxRecDepth 1000000 in
set_option maxHeartbeats 40000000 in
theorem f_mrun_2 (a n : Nat) (h0 : rLt (a) 1 = false) (h1 : rLe (a) 4000 = false) : ∃ w1, ev_X13_run [.inr (.inr 26909), .inl (a)] wM n = some (some (.inl 0), (w1, (n, 0))) ∧ ∀ (i : Nat) (x : rCC), wGet i wk_mrun_0 = some x → wGet i w1 = some x := by
  have e := congrFun (congrFun (se_mrun rLt rEq rLe) a) n
  try dsimp only at e
  rw [evG_X13_run_e] at e
  rw [h0, h1] at e
  exact ⟨_, e, wOne rfl⟩
-- stop: 19 steps
noncomputable def bsG_X11_stop (vLt vEq vLe : Nat → Nat → Bool) : List rBl := [sq (h_ld isI 1) (t_if (fun a => rNot (vEq a 0)) 2 1),
  sq (h_ld isR 0) (sq (h_get rFo 13 4) (sq (h_get rFo 7 11) (sq (h_i2l) (t_go 5)))),
  sq (h_ld isI 1) (sq (h_v (.inl 1)) (t_icmp (fun a b => rNot (vEq a b)) 4 3)),
  sq (h_ld isR 0) (sq (h_get rFo 13 4) (sq (h_get rFo 7 12) (t_go 5))),
  sq (h_v (.inr (.inl 0))) (t_go 5),
  t_retv isJ]
noncomputable def evG_X11_stop (vLt vEq vLe : Nat → Nat → Bool) : rEv := fun as w n => rIni 2 as (fun ls => rRun (bsG_X11_stop vLt vEq vLe) 100000 0 ls [] w n 0)
theorem evG_X11_stop_e : evG_X11_stop rLt rEq rLe = ev_X11_stop := by rfl
set_option maxRecDepth 1000000 in
set_option maxHeartbeats 40000000 in
theorem se_stop (vLt vEq vLe : Nat → Nat → Bool) : (fun (a n : Nat) => evG_X11_stop vLt vEq vLe [.inr (.inr 1), .inl (a)] wL n) = fun a n => rB (rNot (vEq (a) 0)) (rB (rNot (vEq (a) 1)) (some (some (.inr (.inl 0)), (wL, (n, 0)))) (some (some (.inr (.inl 0)), (wL, (n, 0))))) (some (some (.inr (.inl 0)), (wL, (n, 0)))) := by rfl
set_option maxRecDepth 1000000 in
set_option maxHeartbeats 40000000 in
theorem f_stop (a n : Nat) : ∃ w1, ev_X11_stop [.inr (.inr 1), .inl (a)] wL n = some (some (.inr (.inl 0)), (w1, (n, 0))) ∧ ∀ (i : Nat) (x : rCC), wGet i wM = some x → wGet i w1 = some x := by
  have e := congrFun (congrFun (se_stop rLt rEq rLe) a) n
  try dsimp only at e
  rw [evG_X11_stop_e] at e
  cases h1 : rEq (a) 0
  · rw [h1] at e
    cases h2 : rEq (a) 1
    · rw [h2] at e
      exact ⟨_, e, wCutE (k := 13454) rfl⟩
    · rw [h2] at e
      exact ⟨_, e, wCutE (k := 13454) rfl⟩
  · rw [h1] at e
    exact ⟨_, e, wCutE (k := 13454) rfl⟩
-- register: 97 steps
noncomputable def bsG_X11_register (vLt vEq vLe : Nat → Nat → Bool) : List rBl := [sq (h_ld isI 1) (t_if (fun a => vLt a 0) 3 1),
  sq (h_ld isI 1) (sq (h_v (.inl 16)) (t_icmp (fun a b => rNot (vLt a b)) 3 2)),
  sq (h_ld isR 0) (sq (h_get rFo 13 4) (sq (h_get rFo 7 2) (sq (h_ld isI 1) (sq (h_aldC rFo okJ) (t_retv isJ))))),
  sq (h_ld isI 1) (sq (h_v (.inl 16)) (t_icmp (fun a b => rNot (vEq a b)) 5 4)),
  sq (h_ld isR 0) (sq (h_get rFo 13 4) (sq (h_get rFo 7 6) (t_go 12))),
  sq (h_ld isI 1) (sq (h_v (.inl 17)) (t_icmp (fun a b => rNot (vEq a b)) 7 6)),
  sq (h_ld isR 0) (sq (h_get rFo 13 4) (sq (h_call 1 (rRecv rFo 7) ev_X5_told) (sq (h_i2l) (t_go 12)))),
  sq (h_ld isI 1) (sq (h_v (.inl 18)) (t_icmp (fun a b => rNot (vEq a b)) 9 8)),
  sq (h_ld isR 0) (sq (h_get rFo 13 4) (sq (h_get rFo 7 0) (sq (h_get rFo 8 11) (t_go 12)))),
  sq (h_ld isI 1) (sq (h_v (.inl 19)) (t_icmp (fun a b => rNot (vEq a b)) 11 10)),
  sq (h_ld isR 0) (sq (h_get rFo 13 4) (sq (h_get rFo 7 13) (sq (h_i2l) (t_go 12)))),
  sq (h_v (.inr (.inl 0))) (t_go 12),
  t_retv isJ]
noncomputable def evG_X11_register (vLt vEq vLe : Nat → Nat → Bool) : rEv := fun as w n => rIni 2 as (fun ls => rRun (bsG_X11_register vLt vEq vLe) 100000 0 ls [] w n 0)
theorem evG_X11_register_e : evG_X11_register rLt rEq rLe = ev_X11_register := by rfl
set_option maxRecDepth 1000000 in
set_option maxHeartbeats 40000000 in
theorem se_register (vLt vEq vLe : Nat → Nat → Bool) : (fun (a n : Nat) => evG_X11_register vLt vEq vLe [.inr (.inr 1), .inl (a)] wL n) = fun a n => rB (vLt (a) 0) (rB (rNot (vEq (a) 16)) (rB (rNot (vEq (a) 17)) (rB (rNot (vEq (a) 18)) (rB (rNot (vEq (a) 19)) (some (some (.inr (.inl 0)), (wL, (n, 0)))) (some (some (.inr (.inl 0)), (wL, (n, 0))))) (some (some (.inr (.inl 4194304)), (wL, (n, 0))))) (some (some (.inr (.inl 2)), (wL, (n, 0))))) (some (some (.inr (.inl 0)), (wL, (n, 0))))) (rB (rNot (vLt (a) 16)) (rB (rNot (vEq (a) 16)) (rB (rNot (vEq (a) 17)) (rB (rNot (vEq (a) 18)) (rB (rNot (vEq (a) 19)) (some (some (.inr (.inl 0)), (wL, (n, 0)))) (some (some (.inr (.inl 0)), (wL, (n, 0))))) (some (some (.inr (.inl 4194304)), (wL, (n, 0))))) (some (some (.inr (.inl 2)), (wL, (n, 0))))) (some (some (.inr (.inl 0)), (wL, (n, 0))))) (rB (Nat.blt (a) 16) (some (some (.inr (.inl 0)), (wL, (n, 0)))) (none))) := by rfl
set_option maxRecDepth 1000000 in
set_option maxHeartbeats 40000000 in
theorem f_register (a n : Nat) (ha : a < 4294967296) : ∃ w1, ev_X11_register [.inr (.inr 1), .inl (a)] wL n = some (some (.inr (.inl (rB (rLt (a) 0) (rB (rNot (rEq (a) 16)) (rB (rNot (rEq (a) 17)) (rB (rNot (rEq (a) 18)) (0) (4194304)) (2)) (0)) (rB (rNot (rLt (a) 16)) (rB (rNot (rEq (a) 16)) (rB (rNot (rEq (a) 17)) (rB (rNot (rEq (a) 18)) (0) (4194304)) (2)) (0)) (0))))), (w1, (n, 0))) ∧ ∀ (i : Nat) (x : rCC), wGet i wM = some x → wGet i w1 = some x := by
  have e := congrFun (congrFun (se_register rLt rEq rLe) a) n
  try dsimp only at e
  rw [evG_X11_register_e] at e
  cases h1 : rLt (a) 0
  · rw [h1] at e
    cases h2 : rLt (a) 16
    · rw [h2] at e
      cases h3 : rEq (a) 16
      · rw [h3] at e
        cases h4 : rEq (a) 17
        · rw [h4] at e
          cases h5 : rEq (a) 18
          · rw [h5] at e
            cases h6 : rEq (a) 19
            · rw [h6] at e
              exact ⟨_, e, wCutE (k := 13454) rfl⟩
            · rw [h6] at e
              exact ⟨_, e, wCutE (k := 13454) rfl⟩
          · rw [h5] at e
            exact ⟨_, e, wCutE (k := 13454) rfl⟩
        · rw [h4] at e
          exact ⟨_, e, wCutE (k := 13454) rfl⟩
      · rw [h3] at e
        exact ⟨_, e, wCutE (k := 13454) rfl⟩
    · rw [h2] at e
      cases h7 : Nat.blt (a) 16
      · rw [h7] at e
        exact absurd e (fun _ => by rw [blt_of ha (by decide) h1 h2] at h7; cases h7)
      · rw [h7] at e
        exact ⟨_, e, wCutE (k := 13454) rfl⟩
  · rw [h1] at e
    cases h8 : rEq (a) 16
    · rw [h8] at e
      cases h9 : rEq (a) 17
      · rw [h9] at e
        cases h10 : rEq (a) 18
        · rw [h10] at e
          cases h11 : rEq (a) 19
          · rw [h11] at e
            exact ⟨_, e, wCutE (k := 13454) rfl⟩
          · rw [h11] at e
            exact ⟨_, e, wCutE (k := 13454) rfl⟩
        · rw [h10] at e
          exact ⟨_, e, wCutE (k := 13454) rfl⟩
      · rw [h9] at e
        exact ⟨_, e, wCutE (k := 13454) rfl⟩
    · rw [h8] at e
      exact ⟨_, e, wCutE (k := 13454) rfl⟩
-- set: 28 steps
noncomputable def bsG_X11_set (vLt vEq vLe : Nat → Nat → Bool) : List rBl := [sq (h_ld isI 1) (t_if (fun a => vLt a 0) 2 1),
  sq (h_ld isI 1) (sq (h_v (.inl 16)) (t_icmp vLe 3 2)),
  sq (h_v (.inl 0)) (t_retv isZ),
  sq (h_ld isI 1) (sq (h_v (.inl 16)) (t_icmp (fun a b => rNot (vEq a b)) 5 4)),
  sq (h_ld isR 0) (sq (h_get rFo 13 4) (sq (h_ld isJ 2) (sq (h_put 7 6 isJ) (t_go 6)))),
  sq (h_ld isR 0) (sq (h_get rFo 13 4) (sq (h_get rFo 7 2) (sq (h_ld isI 1) (sq (h_ld isJ 2) (sq (h_lastF) (t_go 6)))))),
  sq (h_v (.inl 1)) (t_retv isZ)]
noncomputable def evG_X11_set (vLt vEq vLe : Nat → Nat → Bool) : rEv := fun as w n => rIni 4 as (fun ls => rRun (bsG_X11_set vLt vEq vLe) 100000 0 ls [] w n 0)
theorem evG_X11_set_e : evG_X11_set rLt rEq rLe = ev_X11_set := by rfl
set_option maxRecDepth 1000000 in
set_option maxHeartbeats 40000000 in
theorem se_set (vLt vEq vLe : Nat → Nat → Bool) : (fun (a b n : Nat) => evG_X11_set vLt vEq vLe [.inr (.inr 1), .inl (a), .inr (.inl (b))] wL n) = fun a b n => rB (vLt (a) 0) (some (some (.inl 0), (wL, (n, 0)))) (rB (vLe (a) 16) (rB (rNot (vEq (a) 16)) (rB (Nat.blt (a) 16) (some (some (.inl 1), ([(14080, .inr (1, 1, .inr (.inl 0), [])),
  (13613, .inr (1, 16, .inr (.inl 0), [])),
  (13611, .inr (1, 16, .inr (.inl 0), [])),
  (13592, .inl (14, [.inl 0, .inl 0, .inl 0, .inl 0, .inl 0, .inl 0, .inl 0, .inr (.inl 0), .inr (.inr 27187), .inr (.inr 27189), .inr (.inr 27191), .inr (.inr 27193), .inr (.inr 27195)])),
  (13561, .inr (2, 140, .inl 0, [])),
  (13466, .inr (3, 128, .inl 0, [])),
  (13465, .inr (0, 128, .inl 0, [])),
  (13464, .inr (0, 33, .inl 0, [])),
  (13463, .inr (0, 33, .inl 0, [])),
  (13462, .inr (0, 33, .inl 0, [])),
  (13461, .inr (3, 32, .inl 0, [])),
  (13455, .inr (2, 65536, .inl 0, [])),
  (13454, .inl (15, [.inl 0, .inr (.inr 26911), .inl 0, .inl 137, .inl 48, .inr (.inr 26913), .inr (.inr 26915), .inr (.inr 26917), .inr (.inr 26919), .inr (.inl 1952807028), .inr (.inl 125822751044705), .inr (.inl 1684108385), .inr (.inl 6452083), .inr (.inl 1652126821), .inr (.inl 431500522084), .inr (.inl 487335096932), .inr (.inl 7497068), .inr (.inl 6648181), .inr (.inl 7497072), .inr (.inl 495873782388), .inl 0, .inr (.inr 26921), .inr (.inr 26923), .inr (.inr 26925), .inr (.inr 26927), .inr (.inr 26929), .inr (.inr 26931), .inr (.inr 26933), .inl 0, .inl 0, .inl 4294967295, .inl 0, .inl 0, .inr (.inr 26935), .inr (.inr 26937), .inr (.inr 26939), .inr (.inr 26941), .inr (.inr 26943), .inr (.inr 26945), .inr (.inr 26947), .inr (.inr 26949), .inr (.inr 26951), .inr (.inr 26953), .inl 0, .inl 0, .inr (.inr 26955), .inr (.inr 26957), .inr (.inr 26959), .inr (.inr 26961), .inr (.inr 26963), .inr (.inr 26965), .inr (.inr 26967), .inr (.inr 26969), .inr (.inr 26971), .inl 0, .inl 0, .inr (.inr 26973), .inl 0, .inr (.inr 26975), .inr (.inr 26977), .inr (.inr 26979), .inr (.inr 26981), .inr (.inr 26983), .inr (.inr 26985), .inr (.inr 26987), .inl 0, .inl 0, .inl 0, .inl 0, .inl 0, .inl 0, .inl 0, .inl 0, .inl 0, .inl 0, .inl 0, .inl 0, .inl 0, .inr (.inr 26989), .inl 0, .inl 0, .inr (.inr 26991), .inr (.inr 26993), .inr (.inr 26995), .inr (.inr 26997), .inr (.inr 26999), .inr (.inr 27001), .inr (.inr 27003), .inr (.inr 27005), .inr (.inr 27007), .inr (.inr 27009), .inr (.inr 27011), .inr (.inr 27055), .inr (.inr 27099), .inl 0, .inr (.inr 27101), .inr (.inr 27103), .inr (.inr 27105), .inr (.inr 27107), .inr (.inr 27109), .inr (.inr 27111), .inr (.inr 27113), .inl 0, .inr (.inr 27115), .inr (.inr 27117), .inr (.inr 27119), .inr (.inr 27121), .inr (.inr 27123), .inl 0, .inl 0, .inl 0, .inr (.inr 27125), .inr (.inr 27127), .inr (.inr 27129), .inr (.inr 27131), .inl 0, .inr (.inr 27133), .inl 0, .inl 0, .inr (.inr 27135), .inr (.inr 27137), .inr (.inr 27139), .inl 0, .inl 0, .inl 0, .inl 0, .inr (.inr 27141), .inr (.inr 27143), .inr (.inr 27145), .inr (.inr 27147), .inr (.inr 27149), .inl 0, .inl 0, .inl 0, .inl 0, .inr (.inl 0), .inr (.inl 0), .inl 0, .inl 0, .inl 0, .inl 0, .inl 110, .inr (.inr 27151), .inr (.inr 27153), .inr (.inr 27155), .inr (.inr 27157), .inr (.inr 27159), .inr (.inr 27161), .inr (.inr 27163), .inr (.inr 27165), .inr (.inr 27167), .inl 0, .inl 0, .inl 0, .inl 0, .inl 0, .inl 0, .inl 0, .inl 0, .inl 0, .inl 0, .inl 0, .inl 0, .inl 0, .inr (.inr 27169), .inr (.inr 27171), .inr (.inr 27173), .inr (.inr 27185), .inl 0, .inr (.inr 27197), .inr (.inr 27199), .inr (.inr 27201), .inr (.inr 27203), .inl 0, .inl 0, .inr (.inr 27205), .inr (.inr 27207), .inr (.inr 27209), .inr (.inr 27211), .inl 0, .inr (.inr 27213), .inr (.inr 27215), .inr (.inr 27217), .inr (.inr 27219), .inr (.inr 27221), .inl 0, .inl 0, .inl 0, .inr (.inr 27223), .inr (.inr 27225), .inr (.inl 0), .inr (.inl 0), .inr (.inl 0), .inl 0, .inl 0, .inl 0, .inl 0, .inl 0, .inl 0, .inr (.inr 27227), .inl 0, .inl 0, .inl 0, .inr (.inl 0), .inr (.inl 0)])),
  (13453, .inr (1, 16, .inr (.inl 0), [])),
  (13451, .inr (2, 65536, .inl 0, [])),
  (13439, .inl (8, [.inr (.inr 26881), .inr (.inr 26883), .inr (.inr 26885), .inl 0, .inr (.inl 0), .inr (.inl 0), .inr (.inl 0), .inr (.inl 0), .inr (.inl 0), .inr (.inl 0), .inr (.inl 4194304), .inr (.inl 4194304)])),
  (13438, .inl (7, [.inr (.inr 26879), .inr (.inr 26887), .inr (.inr 26901), .inr (.inr 26903), .inr (.inr 26905), .inr (.inr 26907), .inr (.inl 0), .inl 0, .inl 0, .inl 0, .inl 0, .inl 0, .inr (.inl 0), .inl 0, .inr (.inl 0), .inr (.inl 0), .inr (.inl 0)])),
  (13436, .inr (0, 1024, .inl 4294967295, [])),
  (13431, .inl (9, [.inr (.inr 26865), .inr (.inr 26867), .inr (.inr 26869), .inr (.inr 26871), .inr (.inr 26873), .inl 0])),
  (13430, .inr (0, 131072, .inl 4294967295, [])),
  (13422, .inl (6, [.inr (.inr 5), .inr (.inr 26847), .inr (.inr 26849), .inr (.inr 26851), .inr (.inr 26853), .inr (.inr 26855), .inr (.inr 26857), .inr (.inr 26859), .inr (.inr 26861), .inr (.inr 26863), .inr (.inr 26875), .inl 0, .inl 0, .inl 0, .inl 0, .inl 0, .inl 0, .inl 0])),
  (13407, .inl (3, [.inr (.inr 26731), .inr (.inr 5), .inr (.inr 26817), .inr (.inr 26819), .inr (.inr 26821), .inr (.inr 26823), .inr (.inr 26825), .inr (.inr 26827), .inl 0, .inl 0, .inl 0])),
  (13400, .inr (0, 21, .inl 0, [])),
  (13399, .inr (0, 21, .inl 0, [])),
  (13398, .inr (0, 21, .inl 0, [])),
  (13397, .inr (0, 21, .inl 0, [])),
  (13396, .inr (0, 21, .inl 0, [])),
  (13395, .inr (0, 21, .inl 0, [])),
  (13384, .inl (9, [.inr (.inr 26771), .inr (.inr 26773), .inr (.inr 26775), .inr (.inr 26777), .inr (.inr 26779), .inl 0])),
  (13383, .inr (0, 65538, .inl 0, [])),
  (13382, .inr (0, 65538, .inl 0, [])),
  (13381, .inr (0, 65538, .inl 0, [])),
  (13379, .inr (0, 65538, .inl 0, [])),
  (13378, .inl (11, [.inr (.inr 3), .inr (.inr 26735), .inr (.inr 26759), .inr (.inr 26761), .inr (.inr 26763), .inr (.inr 26765), .inr (.inr 26767), .inr (.inr 26769), .inr (.inr 26781), .inr (.inr 26783), .inr (.inr 26785), .inr (.inr 26787), .inr (.inr 26789), .inl 0])),
  (13377, .inl (10, [.inr (.inr 26757), .inr (.inr 26731), .inl 0, .inr (.inr 26791), .inr (.inr 26793), .inr (.inr 26795), .inr (.inr 26797), .inr (.inr 26799), .inr (.inr 26801), .inr (.inr 26803), .inr (.inr 26805), .inr (.inr 26807), .inr (.inr 26809), .inr (.inr 26811), .inr (.inr 26813), .inl 0, .inl 0, .inl 0, .inl 0, .inl 0])),
  (13364, .inl (2, [.inr (.inr 26731), .inr (.inr 26755), .inr (.inr 5), .inr (.inr 26815), .inr (.inr 26829), .inr (.inr 26843), .inl 0, .inl 0, .inl 0, .inl 0, .inl 0, .inl 0, .inl 0, .inl 0, .inl 0])),
  (13363, .inr (0, 4, .inl 0, [])),
  (13329, .inr (5, 33, .inr (.inr 0), [(0, [(32, .inr (.inr 26725)), (31, .inr (.inr 26723)), (30, .inr (.inr 26721)), (29, .inr (.inr 26719)), (28, .inr (.inr 26717)), (27, .inr (.inr 26715)), (26, .inr (.inr 26713)), (25, .inr (.inr 26711)), (24, .inr (.inr 26709)), (23, .inr (.inr 26707)), (22, .inr (.inr 26705)), (21, .inr (.inr 26703)), (20, .inr (.inr 26701)), (19, .inr (.inr 26699)), (18, .inr (.inr 26697)), (17, .inr (.inr 26695)), (16, .inr (.inr 26693)), (15, .inr (.inr 26691)), (14, .inr (.inr 26689)), (13, .inr (.inr 26687)), (12, .inr (.inr 26685)), (11, .inr (.inr 26683)), (10, .inr (.inr 26681)), (9, .inr (.inr 26679)), (8, .inr (.inr 26677)), (7, .inr (.inr 26675)), (6, .inr (.inr 26673)), (5, .inr (.inr 26671)), (4, .inr (.inr 26669)), (3, .inr (.inr 26667)), (2, .inr (.inr 26665)), (1, .inr (.inr 26663)), (0, .inr (.inr 26661))])])),
  (13330, .inr (0, 17, .inl 0, [])),
  (13331, .inr (0, 17, .inl 0, [])),
  (13328, .inr (2, 131072, .inl 0, [])),
  (8, .inr (0, 1024, .inl 4294967295, [])),
  (3, .inl (9, [.inr (.inr 9), .inr (.inr 11), .inr (.inr 13), .inr (.inr 15), .inr (.inr 17), .inl 0])),
  (2, .inl (12, [.inr (.inr 7), .inr (.inr 19), .inr (.inr 2069), .inr (.inr 2071), .inr (.inr 2073), .inr (.inr 18459), .inr (.inr 26653), .inr (.inr 26655), .inr (.inr 26657), .inr (.inr 26659), .inr (.inr 26727), .inl 0, .inl 0, .inl 0, .inl 0, .inl 0, .inl 0, .inl 0, .inl 0])),
  (1, .inr (2, 65536, .inl 0, [])),
  (0, .inl (13, [.inr (.inr 3), .inr (.inr 5), .inr (.inr 26729), .inr (.inr 26845), .inr (.inr 26877), .inl 0, .inl 0, .inl 0, .inl 4294967295]))], (n, 0)))) (none)) (some (some (.inl 1), ([(14080, .inr (1, 1, .inr (.inl 0), [])),
  (13613, .inr (1, 16, .inr (.inl 0), [])),
  (13611, .inr (1, 16, .inr (.inl 0), [])),
  (13592, .inl (14, [.inl 0, .inl 0, .inl 0, .inl 0, .inl 0, .inl 0, .inl 0, .inr (.inl 0), .inr (.inr 27187), .inr (.inr 27189), .inr (.inr 27191), .inr (.inr 27193), .inr (.inr 27195)])),
  (13561, .inr (2, 140, .inl 0, [])),
  (13466, .inr (3, 128, .inl 0, [])),
  (13465, .inr (0, 128, .inl 0, [])),
  (13464, .inr (0, 33, .inl 0, [])),
  (13463, .inr (0, 33, .inl 0, [])),
  (13462, .inr (0, 33, .inl 0, [])),
  (13461, .inr (3, 32, .inl 0, [])),
  (13455, .inr (2, 65536, .inl 0, [])),
  (13454, .inl (15, [.inl 0, .inr (.inr 26911), .inl 0, .inl 137, .inl 48, .inr (.inr 26913), .inr (.inr 26915), .inr (.inr 26917), .inr (.inr 26919), .inr (.inl 1952807028), .inr (.inl 125822751044705), .inr (.inl 1684108385), .inr (.inl 6452083), .inr (.inl 1652126821), .inr (.inl 431500522084), .inr (.inl 487335096932), .inr (.inl 7497068), .inr (.inl 6648181), .inr (.inl 7497072), .inr (.inl 495873782388), .inl 0, .inr (.inr 26921), .inr (.inr 26923), .inr (.inr 26925), .inr (.inr 26927), .inr (.inr 26929), .inr (.inr 26931), .inr (.inr 26933), .inl 0, .inl 0, .inl 4294967295, .inl 0, .inl 0, .inr (.inr 26935), .inr (.inr 26937), .inr (.inr 26939), .inr (.inr 26941), .inr (.inr 26943), .inr (.inr 26945), .inr (.inr 26947), .inr (.inr 26949), .inr (.inr 26951), .inr (.inr 26953), .inl 0, .inl 0, .inr (.inr 26955), .inr (.inr 26957), .inr (.inr 26959), .inr (.inr 26961), .inr (.inr 26963), .inr (.inr 26965), .inr (.inr 26967), .inr (.inr 26969), .inr (.inr 26971), .inl 0, .inl 0, .inr (.inr 26973), .inl 0, .inr (.inr 26975), .inr (.inr 26977), .inr (.inr 26979), .inr (.inr 26981), .inr (.inr 26983), .inr (.inr 26985), .inr (.inr 26987), .inl 0, .inl 0, .inl 0, .inl 0, .inl 0, .inl 0, .inl 0, .inl 0, .inl 0, .inl 0, .inl 0, .inl 0, .inl 0, .inr (.inr 26989), .inl 0, .inl 0, .inr (.inr 26991), .inr (.inr 26993), .inr (.inr 26995), .inr (.inr 26997), .inr (.inr 26999), .inr (.inr 27001), .inr (.inr 27003), .inr (.inr 27005), .inr (.inr 27007), .inr (.inr 27009), .inr (.inr 27011), .inr (.inr 27055), .inr (.inr 27099), .inl 0, .inr (.inr 27101), .inr (.inr 27103), .inr (.inr 27105), .inr (.inr 27107), .inr (.inr 27109), .inr (.inr 27111), .inr (.inr 27113), .inl 0, .inr (.inr 27115), .inr (.inr 27117), .inr (.inr 27119), .inr (.inr 27121), .inr (.inr 27123), .inl 0, .inl 0, .inl 0, .inr (.inr 27125), .inr (.inr 27127), .inr (.inr 27129), .inr (.inr 27131), .inl 0, .inr (.inr 27133), .inl 0, .inl 0, .inr (.inr 27135), .inr (.inr 27137), .inr (.inr 27139), .inl 0, .inl 0, .inl 0, .inl 0, .inr (.inr 27141), .inr (.inr 27143), .inr (.inr 27145), .inr (.inr 27147), .inr (.inr 27149), .inl 0, .inl 0, .inl 0, .inl 0, .inr (.inl 0), .inr (.inl 0), .inl 0, .inl 0, .inl 0, .inl 0, .inl 110, .inr (.inr 27151), .inr (.inr 27153), .inr (.inr 27155), .inr (.inr 27157), .inr (.inr 27159), .inr (.inr 27161), .inr (.inr 27163), .inr (.inr 27165), .inr (.inr 27167), .inl 0, .inl 0, .inl 0, .inl 0, .inl 0, .inl 0, .inl 0, .inl 0, .inl 0, .inl 0, .inl 0, .inl 0, .inl 0, .inr (.inr 27169), .inr (.inr 27171), .inr (.inr 27173), .inr (.inr 27185), .inl 0, .inr (.inr 27197), .inr (.inr 27199), .inr (.inr 27201), .inr (.inr 27203), .inl 0, .inl 0, .inr (.inr 27205), .inr (.inr 27207), .inr (.inr 27209), .inr (.inr 27211), .inl 0, .inr (.inr 27213), .inr (.inr 27215), .inr (.inr 27217), .inr (.inr 27219), .inr (.inr 27221), .inl 0, .inl 0, .inl 0, .inr (.inr 27223), .inr (.inr 27225), .inr (.inl 0), .inr (.inl 0), .inr (.inl 0), .inl 0, .inl 0, .inl 0, .inl 0, .inl 0, .inl 0, .inr (.inr 27227), .inl 0, .inl 0, .inl 0, .inr (.inl 0), .inr (.inl 0)])),
  (13453, .inr (1, 16, .inr (.inl 0), [])),
  (13451, .inr (2, 65536, .inl 0, [])),
  (13450, .inr (1, 16, .inr (.inl 0), [])),
  (13439, .inl (8, [.inr (.inr 26881), .inr (.inr 26883), .inr (.inr 26885), .inl 0, .inr (.inl 0), .inr (.inl 0), .inr (.inl 0), .inr (.inl 0), .inr (.inl 0), .inr (.inl 0), .inr (.inl 4194304), .inr (.inl 4194304)])),
  (13438, .inl (7, [.inr (.inr 26879), .inr (.inr 26887), .inr (.inr 26901), .inr (.inr 26903), .inr (.inr 26905), .inr (.inr 26907), .inr (.inl (b)), .inl 0, .inl 0, .inl 0, .inl 0, .inl 0, .inr (.inl 0), .inl 0, .inr (.inl 0), .inr (.inl 0), .inr (.inl 0)])),
  (13436, .inr (0, 1024, .inl 4294967295, [])),
  (13431, .inl (9, [.inr (.inr 26865), .inr (.inr 26867), .inr (.inr 26869), .inr (.inr 26871), .inr (.inr 26873), .inl 0])),
  (13430, .inr (0, 131072, .inl 4294967295, [])),
  (13422, .inl (6, [.inr (.inr 5), .inr (.inr 26847), .inr (.inr 26849), .inr (.inr 26851), .inr (.inr 26853), .inr (.inr 26855), .inr (.inr 26857), .inr (.inr 26859), .inr (.inr 26861), .inr (.inr 26863), .inr (.inr 26875), .inl 0, .inl 0, .inl 0, .inl 0, .inl 0, .inl 0, .inl 0])),
  (13407, .inl (3, [.inr (.inr 26731), .inr (.inr 5), .inr (.inr 26817), .inr (.inr 26819), .inr (.inr 26821), .inr (.inr 26823), .inr (.inr 26825), .inr (.inr 26827), .inl 0, .inl 0, .inl 0])),
  (13400, .inr (0, 21, .inl 0, [])),
  (13399, .inr (0, 21, .inl 0, [])),
  (13398, .inr (0, 21, .inl 0, [])),
  (13397, .inr (0, 21, .inl 0, [])),
  (13396, .inr (0, 21, .inl 0, [])),
  (13395, .inr (0, 21, .inl 0, [])),
  (13384, .inl (9, [.inr (.inr 26771), .inr (.inr 26773), .inr (.inr 26775), .inr (.inr 26777), .inr (.inr 26779), .inl 0])),
  (13383, .inr (0, 65538, .inl 0, [])),
  (13382, .inr (0, 65538, .inl 0, [])),
  (13381, .inr (0, 65538, .inl 0, [])),
  (13379, .inr (0, 65538, .inl 0, [])),
  (13378, .inl (11, [.inr (.inr 3), .inr (.inr 26735), .inr (.inr 26759), .inr (.inr 26761), .inr (.inr 26763), .inr (.inr 26765), .inr (.inr 26767), .inr (.inr 26769), .inr (.inr 26781), .inr (.inr 26783), .inr (.inr 26785), .inr (.inr 26787), .inr (.inr 26789), .inl 0])),
  (13377, .inl (10, [.inr (.inr 26757), .inr (.inr 26731), .inl 0, .inr (.inr 26791), .inr (.inr 26793), .inr (.inr 26795), .inr (.inr 26797), .inr (.inr 26799), .inr (.inr 26801), .inr (.inr 26803), .inr (.inr 26805), .inr (.inr 26807), .inr (.inr 26809), .inr (.inr 26811), .inr (.inr 26813), .inl 0, .inl 0, .inl 0, .inl 0, .inl 0])),
  (13364, .inl (2, [.inr (.inr 26731), .inr (.inr 26755), .inr (.inr 5), .inr (.inr 26815), .inr (.inr 26829), .inr (.inr 26843), .inl 0, .inl 0, .inl 0, .inl 0, .inl 0, .inl 0, .inl 0, .inl 0, .inl 0])),
  (13363, .inr (0, 4, .inl 0, [])),
  (13329, .inr (5, 33, .inr (.inr 0), [(0, [(32, .inr (.inr 26725)), (31, .inr (.inr 26723)), (30, .inr (.inr 26721)), (29, .inr (.inr 26719)), (28, .inr (.inr 26717)), (27, .inr (.inr 26715)), (26, .inr (.inr 26713)), (25, .inr (.inr 26711)), (24, .inr (.inr 26709)), (23, .inr (.inr 26707)), (22, .inr (.inr 26705)), (21, .inr (.inr 26703)), (20, .inr (.inr 26701)), (19, .inr (.inr 26699)), (18, .inr (.inr 26697)), (17, .inr (.inr 26695)), (16, .inr (.inr 26693)), (15, .inr (.inr 26691)), (14, .inr (.inr 26689)), (13, .inr (.inr 26687)), (12, .inr (.inr 26685)), (11, .inr (.inr 26683)), (10, .inr (.inr 26681)), (9, .inr (.inr 26679)), (8, .inr (.inr 26677)), (7, .inr (.inr 26675)), (6, .inr (.inr 26673)), (5, .inr (.inr 26671)), (4, .inr (.inr 26669)), (3, .inr (.inr 26667)), (2, .inr (.inr 26665)), (1, .inr (.inr 26663)), (0, .inr (.inr 26661))])])),
  (13330, .inr (0, 17, .inl 0, [])),
  (13331, .inr (0, 17, .inl 0, [])),
  (13328, .inr (2, 131072, .inl 0, [])),
  (8, .inr (0, 1024, .inl 4294967295, [])),
  (3, .inl (9, [.inr (.inr 9), .inr (.inr 11), .inr (.inr 13), .inr (.inr 15), .inr (.inr 17), .inl 0])),
  (2, .inl (12, [.inr (.inr 7), .inr (.inr 19), .inr (.inr 2069), .inr (.inr 2071), .inr (.inr 2073), .inr (.inr 18459), .inr (.inr 26653), .inr (.inr 26655), .inr (.inr 26657), .inr (.inr 26659), .inr (.inr 26727), .inl 0, .inl 0, .inl 0, .inl 0, .inl 0, .inl 0, .inl 0, .inl 0])),
  (1, .inr (2, 65536, .inl 0, [])),
  (0, .inl (13, [.inr (.inr 3), .inr (.inr 5), .inr (.inr 26729), .inr (.inr 26845), .inr (.inr 26877), .inl 0, .inl 0, .inl 0, .inl 4294967295]))], (n, 0))))) (some (some (.inl 0), (wL, (n, 0))))) := by rfl
set_option maxRecDepth 1000000 in
set_option maxHeartbeats 40000000 in
theorem f_set (a b n : Nat) (ha : a < 4294967296) : ∃ w1, ev_X11_set [.inr (.inr 1), .inl (a), .inr (.inl (b))] wL n = some (some (.inl (rB (rLt (a) 0) (0) (rB (rLe (a) 16) (1) (0)))), (w1, (n, 0))) ∧ ∀ (i : Nat) (x : rCC), wGet i wM = some x → wGet i w1 = some x := by
  have e := congrFun (congrFun (congrFun (se_set rLt rEq rLe) a) b) n
  try dsimp only at e
  rw [evG_X11_set_e] at e
  cases h1 : rLt (a) 0
  · rw [h1] at e
    cases h2 : rLe (a) 16
    · rw [h2] at e
      exact ⟨_, e, wCutE (k := 13454) rfl⟩
    · rw [h2] at e
      cases h3 : rEq (a) 16
      · rw [h3] at e
        cases h4 : Nat.blt (a) 16
        · rw [h4] at e
          exact absurd e (fun _ => by rw [blt_of2 ha h1 h2 h3] at h4; cases h4)
        · rw [h4] at e
          exact ⟨_, e, wCutE (k := 13454) rfl⟩
      · rw [h3] at e
        exact ⟨_, e, wCutE (k := 13454) rfl⟩
  · rw [h1] at e
    exact ⟨_, e, wCutE (k := 13454) rfl⟩
