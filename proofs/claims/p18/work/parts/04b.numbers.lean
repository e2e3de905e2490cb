/-! THE RUNNER'S NUMBERS -/
theorem r_beq (a b : Nat) : (a == b) = Nat.beq a b := by
  rw [Bool.eq_iff_iff]
  simp [Nat.beq_eq]
theorem rI_mod (n : Nat) : nI (n % 4294967296) = nI n := by
  apply Int32.toBitVec_inj.mp
  apply BitVec.eq_of_toNat_eq
  show (BitVec.ofNat 32 _).toNat = (BitVec.ofNat 32 _).toNat
  rw [BitVec.toNat_ofNat, BitVec.toNat_ofNat, Nat.mod_mod]
theorem rJ_mod (n : Nat) : lN (n % 18446744073709551616) = lN n := by
  apply Int64.toBitVec_inj.mp
  apply BitVec.eq_of_toNat_eq
  show (BitVec.ofNat 64 _).toNat = (BitVec.ofNat 64 _).toNat
  rw [BitVec.toNat_ofNat, BitVec.toNat_ofNat, Nat.mod_mod]
theorem n_add (a b : Nat) : nI a + nI b = nI (rAdd a b) := (nI_add a b).trans (rI_mod (a + b)).symm
theorem n_neg (a : Nat) : -nI a = nI (rNeg a) := by
  have h : nI a + nI (rNeg a) = 0 := by
    show nI a + nI ((4294967296 - a % 4294967296) % 4294967296) = 0
    rw [nI_add, ← rI_mod, show (a + (4294967296 - a % 4294967296) % 4294967296) % 4294967296 = 0 by omega]
    rfl
  have h2 : -nI a + (nI a + nI (rNeg a)) = -nI a + 0 := by rw [h]
  rw [← Int32.add_assoc, Int32.add_left_neg, Int32.zero_add, Int32.add_zero] at h2
  exact h2.symm
theorem n_sub (a b : Nat) : nI a - nI b = nI (rSub a b) := by
  rw [Int32.sub_eq_add_neg, n_neg, n_add]
  rfl
theorem n_mul (a b : Nat) : nI a * nI b = nI (rMul a b) := (pk_mul a b).trans (rI_mod (a * b)).symm
theorem n_land (a b : Nat) : nI a &&& nI b = nI (Nat.land a b) := by
  apply Int32.toBitVec_inj.mp
  apply BitVec.eq_of_toNat_eq
  rw [Int32.toBitVec_and, BitVec.toNat_and]
  show (BitVec.ofNat 32 _).toNat &&& (BitVec.ofNat 32 _).toNat = (BitVec.ofNat 32 (a &&& b)).toNat
  rw [BitVec.toNat_ofNat, BitVec.toNat_ofNat, BitVec.toNat_ofNat, ← Nat.and_mod_two_pow]
theorem n_lor (a b : Nat) : nI a ||| nI b = nI (Nat.lor a b) := by
  apply Int32.toBitVec_inj.mp
  apply BitVec.eq_of_toNat_eq
  rw [Int32.toBitVec_or, BitVec.toNat_or]
  show (BitVec.ofNat 32 _).toNat ||| (BitVec.ofNat 32 _).toNat = (BitVec.ofNat 32 (a ||| b)).toNat
  rw [BitVec.toNat_ofNat, BitVec.toNat_ofNat, BitVec.toNat_ofNat, ← Nat.or_mod_two_pow]
theorem n_lorL (a b : Nat) : lN a ||| lN b = lN (Nat.lor a b) := by
  apply Int64.toBitVec_inj.mp
  apply BitVec.eq_of_toNat_eq
  rw [Int64.toBitVec_or, BitVec.toNat_or]
  show (BitVec.ofNat 64 _).toNat ||| (BitVec.ofNat 64 _).toNat = (BitVec.ofNat 64 (a ||| b)).toNat
  rw [BitVec.toNat_ofNat, BitVec.toNat_ofNat, BitVec.toNat_ofNat, ← Nat.or_mod_two_pow]
theorem n_sh : ∀ b, b < 32 → ((nI b &&& 31).toBitVec.smod 32).toNat = b := by decide +kernel
theorem n_shL : ∀ b, b < 64 → (((nI b).toInt64 &&& 63).toBitVec.smod 64).toNat = b := by decide +kernel
theorem n_shl {a b : Nat} (hb : b < 32) : nI a <<< (nI b &&& 31) = nI (rShl a b) := by
  apply Int32.toBitVec_inj.mp
  apply BitVec.eq_of_toNat_eq
  rw [pk_shl _ _ b (n_sh b hb)]
  show (BitVec.ofNat 32 a).toNat * 2 ^ b % 2 ^ 32 = (BitVec.ofNat 32 ((a * 2 ^ (b % 32)) % 4294967296)).toNat
  rw [BitVec.toNat_ofNat, BitVec.toNat_ofNat, Nat.mod_eq_of_lt hb, Nat.mod_mod, Nat.mod_mul_mod]
theorem n_shlL {a b : Nat} (hb : b < 64) : lN a <<< ((nI b).toInt64 &&& 63) = lN (rShlL a b) := by
  apply Int64.toBitVec_inj.mp
  apply BitVec.eq_of_toNat_eq
  show ((lN a).toBitVec <<< (((nI b).toInt64 &&& 63).toBitVec.smod 64).toNat).toNat = (BitVec.ofNat 64 ((a * 2 ^ (b % 64)) % 18446744073709551616)).toNat
  rw [n_shL b hb, BitVec.toNat_shiftLeft, Nat.shiftLeft_eq, BitVec.toNat_ofNat]
  show (BitVec.ofNat 64 a).toNat * 2 ^ b % 2 ^ 64 = _
  rw [BitVec.toNat_ofNat, Nat.mod_eq_of_lt hb, Nat.mod_mod, Nat.mod_mul_mod]
theorem n_shr {a b : Nat} (ha : a < 2147483648) (hb : b < 32) : nI a >>> (nI b &&& 31) = nI (rShr a b) := by
  rw [pk_shrN ha _ b (n_sh b hb)]
  show _ = nI (a / 2 ^ (b % 32))
  rw [Nat.mod_eq_of_lt hb]
theorem n_toInt (a : Nat) : (nI a).toInt + 2147483648 = (rSg a : Nat) := by
  show (Int32.ofNat a).toInt + 2147483648 = (((a + 2147483648) % 4294967296 : Nat) : Int)
  rw [Int32.toInt_ofNat', show Int32.size = 4294967296 from rfl]
  rw [Int.bmod_def]
  split <;> omega
theorem n_lt (a b : Nat) : nI a < nI b ↔ rLt a b = true := by
  show _ ↔ Nat.blt (rSg a) (rSg b) = true
  rw [Int32.lt_iff_toInt_lt, Nat.blt_eq]
  have h1 := n_toInt a
  have h2 := n_toInt b
  omega
theorem n_le (a b : Nat) : nI a ≤ nI b ↔ rLe a b = true := by
  show _ ↔ Nat.ble (rSg a) (rSg b) = true
  rw [Int32.le_iff_toInt_le, Nat.ble_eq]
  have h1 := n_toInt a
  have h2 := n_toInt b
  omega
theorem n_eq (a b : Nat) : nI a = nI b ↔ rEq a b = true := by
  show _ ↔ Nat.beq (a % 4294967296) (b % 4294967296) = true
  rw [Nat.beq_eq]
  constructor
  · intro h
    have h2 : (BitVec.ofNat 32 a).toNat = (BitVec.ofNat 32 b).toNat := congrArg (fun x : Int32 => x.toBitVec.toNat) h
    rw [BitVec.toNat_ofNat, BitVec.toNat_ofNat] at h2
    exact h2
  · intro h
    rw [← rI_mod a, ← rI_mod b, h]
theorem n_i2b : ∀ a, a < 128 → (nI a).toInt8.toInt32 = nI a := by decide +kernel
theorem n_i2c {a : Nat} (h : a ≤ 65535) : ((nI a).toUInt32 % 65536).toInt32 = nI a := by
  rw [pk_char, pk_tn (by omega), Nat.mod_eq_of_lt (by omega)]
theorem n_bb : ∀ a, a < 128 → narrow .byte (.int (nI a)) = .int (nI a) := by decide +kernel
theorem n_bb2 : ∀ a, a < 128 → narrow .byte (.int (nI (a + 4294967168))) = .int (nI (a + 4294967168)) := by decide +kernel
theorem rNot_e {b : Bool} : rNot b = true ↔ ¬ b = true := by cases b <;> simp [rNot, rB]
theorem rB_and {x y : Bool} (h : rB x y false = true) : x = true ∧ y = true := by
  cases x
  · cases h
  · exact ⟨rfl, h⟩
theorem n_ne (a b : Nat) : ¬ nI a = nI b ↔ rNot (rEq a b) = true := by rw [rNot_e, n_eq]
theorem n_ge (a b : Nat) : nI b ≤ nI a ↔ rNot (rLt a b) = true := by
  rw [rNot_e, ← n_lt, Int32.le_iff_toInt_le, Int32.lt_iff_toInt_lt]
  omega
theorem n_gt (a b : Nat) : nI b < nI a ↔ rNot (rLe a b) = true := by
  rw [rNot_e, ← n_le, Int32.le_iff_toInt_le, Int32.lt_iff_toInt_lt]
  omega
theorem rDok_e {a b : Nat} (h : rDok a b = true) : 0 < b ∧ a < 2 ^ 31 ∧ b < 2 ^ 31 := by
  have h' : rB (Nat.beq b 0) false (rB (Nat.blt a 2147483648) (Nat.blt b 2147483648) false) = true := h
  cases e : Nat.beq b 0
  · rw [e] at h'
    obtain ⟨h1, h2⟩ := rB_and h'
    refine ⟨?_, Nat.blt_eq.mp h1, Nat.blt_eq.mp h2⟩
    rcases Nat.eq_zero_or_pos b with q | q
    · subst q; cases e
    · exact q
  · rw [e] at h'; cases h'
