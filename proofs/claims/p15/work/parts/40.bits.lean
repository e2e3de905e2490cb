/-! BITS OF INTS -/
theorem i_of {a : Int} (h : in32 a) : (Int32.ofInt a).toInt = a := by
  obtain ⟨h1, h2⟩ := h
  rw [Int32.toInt_ofInt]
  unfold Int.bmod
  simp only [Int32.size]
  omega
theorem j_of {a : Int} (h : in64 a) : (Int64.ofInt a).toInt = a := by
  obtain ⟨h1, h2⟩ := h
  rw [Int64.toInt_ofInt]
  unfold Int.bmod
  simp only [Int64.size]
  omega
theorem i_nn {x : Int32} (h : 0 ≤ x.toInt) : (x.toBitVec.toNat : Int) = x.toInt ∧ x.toBitVec.toNat < 2147483648 := by
  have h1 : x.toInt = x.toBitVec.toInt := rfl
  have h2 := x.toBitVec.isLt
  rw [h1, BitVec.toInt_eq_toNat_cond] at h ⊢
  split at h
  · rename_i c
    rw [if_pos c]
    exact ⟨rfl, by omega⟩
  · omega
theorem i_lt {x : Int32} (h : x.toBitVec.toNat < 2147483648) : x.toInt = x.toBitVec.toNat := by
  have h1 : x.toInt = x.toBitVec.toInt := rfl
  rw [h1, BitVec.toInt_eq_toNat_cond, if_pos (by omega)]
theorem j_nn {x : Int64} (h : 0 ≤ x.toInt) : (x.toBitVec.toNat : Int) = x.toInt ∧ x.toBitVec.toNat < 9223372036854775808 := by
  have h1 : x.toInt = x.toBitVec.toInt := rfl
  have h2 := x.toBitVec.isLt
  rw [h1, BitVec.toInt_eq_toNat_cond] at h ⊢
  split at h
  · rename_i c
    rw [if_pos c]
    exact ⟨rfl, by omega⟩
  · omega
theorem j_lt {x : Int64} (h : x.toBitVec.toNat < 9223372036854775808) : x.toInt = x.toBitVec.toNat := by
  have h1 : x.toInt = x.toBitVec.toInt := rfl
  rw [h1, BitVec.toInt_eq_toNat_cond, if_pos (by omega)]
theorem and_le {m n : Nat} : m &&& n ≤ n := Nat.and_le_right
theorem i_and {x y : Int32} (h : 0 ≤ y.toInt) : 0 ≤ (x &&& y).toInt ∧ (x &&& y).toInt ≤ y.toInt := by
  obtain ⟨h1, h2⟩ := i_nn h
  have h3 : (x &&& y).toBitVec.toNat = x.toBitVec.toNat &&& y.toBitVec.toNat := by rw [Int32.toBitVec_and, BitVec.toNat_and]
  have h4 : x.toBitVec.toNat &&& y.toBitVec.toNat ≤ y.toBitVec.toNat := Nat.and_le_right
  rw [i_lt (by omega), h3]
  omega
theorem i_and' {x y : Int32} (h : 0 ≤ x.toInt) : 0 ≤ (x &&& y).toInt ∧ (x &&& y).toInt ≤ x.toInt := by
  obtain ⟨h1, h2⟩ := i_nn h
  have h3 : (x &&& y).toBitVec.toNat = x.toBitVec.toNat &&& y.toBitVec.toNat := by rw [Int32.toBitVec_and, BitVec.toNat_and]
  have h4 : x.toBitVec.toNat &&& y.toBitVec.toNat ≤ x.toBitVec.toNat := Nat.and_le_left
  rw [i_lt (by omega), h3]
  omega
theorem j_and {x y : Int64} (h : 0 ≤ y.toInt) : 0 ≤ (x &&& y).toInt ∧ (x &&& y).toInt ≤ y.toInt := by
  obtain ⟨h1, h2⟩ := j_nn h
  have h3 : (x &&& y).toBitVec.toNat = x.toBitVec.toNat &&& y.toBitVec.toNat := by rw [Int64.toBitVec_and, BitVec.toNat_and]
  have h4 : x.toBitVec.toNat &&& y.toBitVec.toNat ≤ y.toBitVec.toNat := Nat.and_le_right
  rw [j_lt (by omega), h3]
  omega
theorem j_and' {x y : Int64} (h : 0 ≤ x.toInt) : 0 ≤ (x &&& y).toInt ∧ (x &&& y).toInt ≤ x.toInt := by
  obtain ⟨h1, h2⟩ := j_nn h
  have h3 : (x &&& y).toBitVec.toNat = x.toBitVec.toNat &&& y.toBitVec.toNat := by rw [Int64.toBitVec_and, BitVec.toNat_and]
  have h4 : x.toBitVec.toNat &&& y.toBitVec.toNat ≤ x.toBitVec.toNat := Nat.and_le_left
  rw [j_lt (by omega), h3]
  omega
/-- a mask of p ones -/
theorem i_mask {x y : Int32} {p : Nat} (hx : 0 ≤ x.toInt) (hx2 : x.toInt < 2 ^ p) (hy : y.toInt = 2 ^ p - 1) : (x &&& y).toInt = x.toInt := by
  obtain ⟨h1, h2⟩ := i_nn hx
  obtain ⟨h5, h6⟩ := i_nn (x := y) (by omega)
  have h3 : (x &&& y).toBitVec.toNat = x.toBitVec.toNat &&& y.toBitVec.toNat := by rw [Int32.toBitVec_and, BitVec.toNat_and]
  have hp : ((2 ^ p : Nat) : Int) = (2 : Int) ^ p := by rw [Int.natCast_pow]; rfl
  have h7 : y.toBitVec.toNat = 2 ^ p - 1 := by have := Nat.two_pow_pos p; omega
  rw [h7, Nat.and_two_pow_sub_one_eq_mod, Nat.mod_eq_of_lt (by omega)] at h3
  rw [i_lt (by omega), h3]
  omega
theorem j_mask {x y : Int64} {p : Nat} (hx : 0 ≤ x.toInt) (hx2 : x.toInt < 2 ^ p) (hy : y.toInt = 2 ^ p - 1) : (x &&& y).toInt = x.toInt := by
  obtain ⟨h1, h2⟩ := j_nn hx
  obtain ⟨h5, h6⟩ := j_nn (x := y) (by omega)
  have h3 : (x &&& y).toBitVec.toNat = x.toBitVec.toNat &&& y.toBitVec.toNat := by rw [Int64.toBitVec_and, BitVec.toNat_and]
  have hp : ((2 ^ p : Nat) : Int) = (2 : Int) ^ p := by rw [Int.natCast_pow]; rfl
  have h7 : y.toBitVec.toNat = 2 ^ p - 1 := by have := Nat.two_pow_pos p; omega
  rw [h7, Nat.and_two_pow_sub_one_eq_mod, Nat.mod_eq_of_lt (by omega)] at h3
  rw [j_lt (by omega), h3]
  omega
theorem i_or {x y : Int32} (hx : 0 ≤ x.toInt) (hy : 0 ≤ y.toInt) : x.toInt ≤ (x ||| y).toInt ∧ y.toInt ≤ (x ||| y).toInt ∧ ∀ p : Nat, x.toInt < 2 ^ p → y.toInt < 2 ^ p → (x ||| y).toInt < 2 ^ p := by
  obtain ⟨h1, h2⟩ := i_nn hx
  obtain ⟨h5, h6⟩ := i_nn hy
  have h3 : (x ||| y).toBitVec.toNat = x.toBitVec.toNat ||| y.toBitVec.toNat := by rw [Int32.toBitVec_or, BitVec.toNat_or]
  have h4 : x.toBitVec.toNat ||| y.toBitVec.toNat < 2 ^ 31 := Nat.or_lt_two_pow (by omega) (by omega)
  have h8 : x.toBitVec.toNat ≤ x.toBitVec.toNat ||| y.toBitVec.toNat := Nat.left_le_or
  have h9 : y.toBitVec.toNat ≤ x.toBitVec.toNat ||| y.toBitVec.toNat := Nat.right_le_or
  rw [i_lt (x := x ||| y) (by omega), h3]
  refine ⟨by omega, by omega, fun p hp1 hp2 => ?_⟩
  have hp : ((2 ^ p : Nat) : Int) = (2 : Int) ^ p := by rw [Int.natCast_pow]; rfl
  have := Nat.or_lt_two_pow (x := x.toBitVec.toNat) (y := y.toBitVec.toNat) (n := p) (by omega) (by omega)
  omega
theorem j_or {x y : Int64} (hx : 0 ≤ x.toInt) (hy : 0 ≤ y.toInt) : x.toInt ≤ (x ||| y).toInt ∧ y.toInt ≤ (x ||| y).toInt ∧ ∀ p : Nat, x.toInt < 2 ^ p → y.toInt < 2 ^ p → (x ||| y).toInt < 2 ^ p := by
  obtain ⟨h1, h2⟩ := j_nn hx
  obtain ⟨h5, h6⟩ := j_nn hy
  have h3 : (x ||| y).toBitVec.toNat = x.toBitVec.toNat ||| y.toBitVec.toNat := by rw [Int64.toBitVec_or, BitVec.toNat_or]
  have h4 : x.toBitVec.toNat ||| y.toBitVec.toNat < 2 ^ 63 := Nat.or_lt_two_pow (by omega) (by omega)
  have h8 : x.toBitVec.toNat ≤ x.toBitVec.toNat ||| y.toBitVec.toNat := Nat.left_le_or
  have h9 : y.toBitVec.toNat ≤ x.toBitVec.toNat ||| y.toBitVec.toNat := Nat.right_le_or
  rw [j_lt (x := x ||| y) (by omega), h3]
  refine ⟨by omega, by omega, fun p hp1 hp2 => ?_⟩
  have hp : ((2 ^ p : Nat) : Int) = (2 : Int) ^ p := by rw [Int.natCast_pow]; rfl
  have := Nat.or_lt_two_pow (x := x.toBitVec.toNat) (y := y.toBitVec.toNat) (n := p) (by omega) (by omega)
  omega
theorem i_xor {x y : Int32} (hx : 0 ≤ x.toInt) (hy : 0 ≤ y.toInt) : 0 ≤ (x ^^^ y).toInt ∧ ∀ p : Nat, x.toInt < 2 ^ p → y.toInt < 2 ^ p → (x ^^^ y).toInt < 2 ^ p := by
  obtain ⟨h1, h2⟩ := i_nn hx
  obtain ⟨h5, h6⟩ := i_nn hy
  have h3 : (x ^^^ y).toBitVec.toNat = x.toBitVec.toNat ^^^ y.toBitVec.toNat := by rw [Int32.toBitVec_xor, BitVec.toNat_xor]
  have h4 : x.toBitVec.toNat ^^^ y.toBitVec.toNat < 2 ^ 31 := Nat.xor_lt_two_pow (by omega) (by omega)
  rw [i_lt (by omega), h3]
  refine ⟨by omega, fun p hp1 hp2 => ?_⟩
  have hp : ((2 ^ p : Nat) : Int) = (2 : Int) ^ p := by rw [Int.natCast_pow]; rfl
  have := Nat.xor_lt_two_pow (x := x.toBitVec.toNat) (y := y.toBitVec.toNat) (n := p) (by omega) (by omega)
  omega
/-- the shift's number -/
theorem i_smod {p : Nat} (hp : p < 32) : ((Int32.ofInt (p : Int) &&& 31).toBitVec.smod 32).toNat = p := by
  revert p
  decide
theorem i_shr {a : Int} (ha : in32 a) {p : Nat} (hp : p < 32) : (Int32.ofInt a >>> (Int32.ofInt (p : Int) &&& 31)).toInt = a / 2 ^ p := by
  rw [pk_shr (Int32.ofInt a) (Int32.ofInt (p : Int) &&& 31) p (i_smod hp), i_of ha, Int.shiftRight_eq_div_pow]
  norm_cast
