/-! WHAT THE SINGLE CALLS COMPUTE -/
-- munit0: 454 steps
set_option maxRecDepth 1000000 in
set_option maxHeartbeats 40000000 in
theorem f_munit0 (a n : Nat) : ∃ w1, ev_X13_unit [.inr (.inr 26909), .inl (a), .inl 0] wU n = some (some (.inl 0), (w1, (n, 0))) ∧ ∀ (i : Nat) (x : rCC), wGet i wk_munit0 = some x → wGet i w1 = some x := ⟨_, rfl, wTwo rfl rfl⟩
