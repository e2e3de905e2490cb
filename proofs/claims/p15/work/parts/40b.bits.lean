/-! BITS: a number without its lowest ones; shifts up -/
theorem n_up {n p : Nat} (hn : n < 2147483648) (hp : p < 31) : n &&& (2 ^ 32 - 2 ^ p) = 2 ^ p * (n / 2 ^ p) := by
  apply Nat.eq_of_testBit_eq
  intro i
  have hpos := Nat.two_pow_pos p
  have hlt : 2 ^ p < 2 ^ 32 := Nat.pow_lt_pow_right (by omega) (by omega)
  rw [Nat.testBit_and, show 2 ^ 32 - 2 ^ p = 2 ^ 32 - ((2 ^ p - 1) + 1) by omega, Nat.testBit_two_pow_sub_succ (by omega), Nat.testBit_two_pow_sub_one, Nat.testBit_two_pow_mul, Nat.testBit_div_two_pow]
  by_cases c : p ≤ i
  · rw [decide_eq_true c, decide_eq_false (show ¬ i < p by omega), show i - p + p = i by omega]
    by_cases c2 : i < 32
    · rw [decide_eq_true c2]; simp
    · have e : n.testBit i = false := Nat.testBit_lt_two_pow (Nat.lt_of_lt_of_le hn (by rw [show (2147483648 : Nat) = 2 ^ 31 from rfl]; exact Nat.pow_le_pow_right (by omega) (by omega)))
      rw [e]; simp
  · rw [decide_eq_false c, decide_eq_true (show i < p by omega)]; simp
theorem i_up {x y : Int32} {p : Nat} (hx : 0 ≤ x.toInt) (hp : p < 31) (hy : y.toInt = -(2 : Int) ^ p) : 0 ≤ (x &&& y).toInt ∧ (x &&& y).toInt ≤ x.toInt ∧ x.toInt ≤ (x &&& y).toInt + (2 ^ p - 1) := by
  obtain ⟨h1, h2⟩ := i_nn hx
  have h3 : (x &&& y).toBitVec.toNat = x.toBitVec.toNat &&& y.toBitVec.toNat := by rw [Int32.toBitVec_and, BitVec.toNat_and]
  have hpp : ((2 ^ p : Nat) : Int) = (2 : Int) ^ p := by rw [Int.natCast_pow]; rfl
  have hpos := Nat.two_pow_pos p
  have hlt : 2 ^ p < 2 ^ 31 := Nat.pow_lt_pow_right (by omega) hp
  have h7 : y.toBitVec.toNat = 2 ^ 32 - 2 ^ p := by
    have h8 : y.toInt = y.toBitVec.toInt := rfl
    rw [h8, BitVec.toInt_eq_toNat_cond] at hy
    have := y.toBitVec.isLt
    split at hy <;> omega
  rw [h7, n_up h2 hp] at h3
  have m1 := Nat.div_add_mod x.toBitVec.toNat (2 ^ p)
  have m2 := Nat.mod_lt x.toBitVec.toNat hpos
  rw [i_lt (x := x &&& y) (by omega), h3]
  omega
theorem i_shl {a : Int} {p : Nat} (ha : 0 ≤ a) (hp : p < 32) (h2 : a * 2 ^ p ≤ 2147483647) (h3 : a ≤ 2147483647) : (Int32.ofInt a <<< (Int32.ofInt (p : Int) &&& 31)).toInt = a * 2 ^ p := by
  obtain ⟨n, rfl⟩ := Int.eq_ofNat_of_zero_le ha
  have hpp : ((2 ^ p : Nat) : Int) = (2 : Int) ^ p := by rw [Int.natCast_pow]; rfl
  have h4 : n * 2 ^ p ≤ 2147483647 := by
    rw [← hpp, ← Int.natCast_mul] at h2; omega
  have e1 : (Int32.ofInt (n : Int) <<< (Int32.ofInt (p : Int) &&& 31)).toBitVec.toNat = n * 2 ^ p := by
    rw [Int32.toBitVec_shiftLeft]
    have e2 := i_smod hp
    have e3 : (Int32.ofInt (n : Int)).toBitVec.toNat = n := by
      have e4 := i_of (a := (n : Int)) ⟨by omega, by omega⟩
      have e5 := (i_nn (x := Int32.ofInt (n : Int)) (by omega)).1
      omega
    rw [BitVec.shiftLeft_eq', e2, BitVec.toNat_shiftLeft, e3, Nat.shiftLeft_eq, Nat.mod_eq_of_lt (by omega)]
  rw [i_lt (by omega), e1, ← hpp, ← Int.natCast_mul]
