/-! WHAT THE SINGLE CALLS COMPUTE -/
-- unit0: 632 steps
set_option maxRecDepth 1000000 in
set_option maxHeartbeats 40000000 in
theorem f_unit0 (a n : Nat) : ∃ w1, ev_X11_unit [.inr (.inr 1), .inl (a), .inl 0] wL n = some (some (.inl 0), (w1, (n, 0))) ∧ ∀ (i : Nat) (x : rCC), wGet i wM = some x → wGet i w1 = some x := ⟨_, rfl, wCutE (k := 13454) rfl⟩
