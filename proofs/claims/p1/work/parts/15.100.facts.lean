/-! WHAT THE SINGLE CALLS COMPUTE -/
/-- l2i, whatever it makes of a long -/
noncomputable def h_l2iV (f : Nat → Nat) (k : rK) : rK := fun ls st w n c => rP st (fun x st => rJ x (fun a => k ls (.inl (f a) :: st) w n c))
theorem wOne {j : Nat} {y : rCC} {w1 : rWd} (h : wGet j w1 = some y) : ∀ (i : Nat) (x : rCC), wGet i [(j, y)] = some x → wGet i w1 = some x := fun i x hx => by
  have hx' : (if j = i then some y else none) = some x := hx
  by_cases e : j = i
  · rw [if_pos e] at hx'
    rw [← e, h]; exact hx'
  · rw [if_neg e] at hx'; cases hx'
theorem wTwo {j k : Nat} {y z : rCC} {w1 : rWd} (h : wGet j w1 = some y) (h2 : wGet k w1 = some z) : ∀ (i : Nat) (x : rCC), wGet i [(j, y), (k, z)] = some x → wGet i w1 = some x := fun i x hx => by
  have hx' : (if j = i then some y else wGet i [(k, z)]) = some x := hx
  by_cases e : j = i
  · rw [if_pos e] at hx'
    rw [← e, h]; exact hx'
  · rw [if_neg e] at hx'
    exact wOne h2 i x hx'
theorem blt_of {a K : Nat} (ha : a < 4294967296) (hK : K < 2147483648) (h0 : rLt a 0 = false) (h1 : rLt a K = true) : Nat.blt a K = true := by
  have g0 : ¬ Nat.blt ((a + 2147483648) % 4294967296) ((0 + 2147483648) % 4294967296) = true := by
    intro q
    have q' : rLt a 0 = true := q
    rw [h0] at q'; cases q'
  have g1 : Nat.blt ((a + 2147483648) % 4294967296) ((K + 2147483648) % 4294967296) = true := h1
  rw [Nat.blt_eq] at g0 g1
  exact Nat.blt_eq.mpr (by omega)
theorem blt_of2 {a : Nat} (ha : a < 4294967296) (h0 : rLt a 0 = false) (h1 : rLe a 16 = true) (h2 : rEq a 16 = false) : Nat.blt a 16 = true := by
  have g0 : ¬ Nat.blt ((a + 2147483648) % 4294967296) ((0 + 2147483648) % 4294967296) = true := by
    intro q
    have q' : rLt a 0 = true := q
    rw [h0] at q'; cases q'
  have g1 : Nat.ble ((a + 2147483648) % 4294967296) ((16 + 2147483648) % 4294967296) = true := h1
  have g2 : ¬ a = 16 := by
    intro q
    subst q
    have q' : rEq 16 16 = true := by decide
    rw [h2] at q'; cases q'
  rw [Nat.blt_eq] at g0
  rw [Nat.ble_eq] at g1
  exact Nat.blt_eq.mpr (by omega)
theorem rLt0 (x : Int32) : rLt (rOf x) 0 = true ↔ x < 0 := by
  have h := (n_lt (rOf x) 0).symm
  rw [rOf_e] at h
  exact h
theorem blt_long {x : Int64} (h0 : rLt (rOf (lg_cmp x (lN 0))) 0 = false) (h1 : rLt (rOf (lg_cmp x (lN 131072))) 0 = true) : Nat.blt (rOf x.toInt32) 131072 = true := by
  have g0 : ¬ x < lN 0 := fun q => by rw [(rLt0 _).mpr ((lg_cmp_lt _ _).mpr q)] at h0; cases h0
  have g1 : x < lN 131072 := (lg_cmp_lt _ _).mp ((rLt0 _).mp h1)
  rw [Int64.lt_iff_toInt_lt] at g0 g1
  have e0 : (lN 0).toInt = 0 := by decide +kernel
  have e1 : (lN 131072).toInt = 131072 := by decide +kernel
  rw [e0] at g0
  rw [e1] at g1
  have hy : x.toInt32.toInt = x.toInt := by
    rw [Int64.toInt_toInt32]
    show Int.bmod x.toInt 4294967296 = _
    rw [Int.bmod_def]
    split <;> omega
  have hz := n_toInt (rOf x.toInt32)
  rw [rOf_e, hy] at hz
  have hlt := rOf_lt x.toInt32
  have hz' : x.toInt + 2147483648 = (((rOf x.toInt32 + 2147483648) % 4294967296 : Nat) : Int) := hz
  exact Nat.blt_eq.mpr (by omega)
-- feed: 414 steps
set_option maxRecDepth 1000000 in
set_option maxHeartbeats 40000000 in
theorem f_feed (a b c d e n : Nat) : ∃ w1, ev_X11_feed [.inr (.inr 1), .inl (a), .inl (b), .inl (c), .inl (d), .inl (e)] wL n = some (some (.inl 20), (w1, (n, 0))) ∧ ∀ (i : Nat) (x : rCC), wGet i wM = some x → wGet i w1 = some x := ⟨_, rfl, wCutE (k := 13454) rfl⟩
