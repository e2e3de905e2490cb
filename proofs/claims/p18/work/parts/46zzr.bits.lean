theorem bl_toNat (a : Int) : ((BitVec.ofInt 64 a).toNat : Int) = a % 18446744073709551616 := by
  rw [BitVec.toNat_ofInt]
  have := Int.emod_nonneg a (show (18446744073709551616 : Int) ≠ 0 by decide)
  show (((a % 18446744073709551616).toNat : Nat) : Int) = _
  omega
theorem j_mod {k : Nat} (hk : k ≤ 64) (u : BitVec 64) : u.toInt % ((2 ^ k : Nat) : Int) = ((u.toNat % 2 ^ k : Nat) : Int) := by
  rw [BitVec.toInt_eq_toNat_cond]
  split
  · rw [Int.natCast_emod]
  · have e : (2 : Nat) ^ 64 = 2 ^ k * 2 ^ (64 - k) := by rw [← Nat.pow_add]; congr 1; omega
    rw [e, Int.natCast_mul, Int.sub_mul_emod_self_left, Int.natCast_emod]
theorem j_or_lo {a b : Int} {k : Nat} (hk : k ≤ 64) (hb : b % ((2 ^ k : Nat) : Int) = 0) : (Int64.ofInt a ||| Int64.ofInt b).toInt % ((2 ^ k : Nat) : Int) = a % ((2 ^ k : Nat) : Int) := by
  show (BitVec.ofInt 64 a ||| BitVec.ofInt 64 b).toInt % _ = _
  rw [j_mod hk, BitVec.toNat_or, Nat.or_mod_two_pow]
  have q : ∀ c : Int, (((BitVec.ofInt 64 c).toNat % 2 ^ k : Nat) : Int) = c % ((2 ^ k : Nat) : Int) := by
    intro c
    rw [Int.natCast_emod, bl_toNat]
    have e : (18446744073709551616 : Int) = ((2 ^ k : Nat) : Int) * ((2 ^ (64 - k) : Nat) : Int) := by
      rw [← Int.natCast_mul, ← Nat.pow_add, show k + (64 - k) = 64 by omega]; rfl
    rw [e, Int.emod_emod_of_dvd _ ⟨_, rfl⟩]
  have e : (BitVec.ofInt 64 b).toNat % 2 ^ k = 0 := by have := q b; omega
  rw [e, Nat.or_zero, q]
theorem j_smod {p : Nat} (hp : p < 64) : (((Int32.ofInt (p : Int)).toInt64 &&& 63).toBitVec.smod 64).toNat = p := by
  have h : ∀ p : Fin 64, (((Int32.ofInt (p.val : Int)).toInt64 &&& 63).toBitVec.smod 64).toNat = p.val := by decide +kernel
  exact h ⟨p, hp⟩
theorem j_shl_b {a : Int} {p : Nat} (hp : p < 64) : (Int64.ofInt a <<< ((Int32.ofInt (p : Int)).toInt64 &&& 63)).toBitVec = (BitVec.ofInt 64 a) <<< p := by
  show (BitVec.ofInt 64 a) <<< (((Int32.ofInt (p : Int)).toInt64 &&& 63).toBitVec.smod 64) = _
  rw [BitVec.shiftLeft_eq', j_smod hp]
theorem j_shl_lo {a : Int} {k p : Nat} (h : k ≤ p) (hp : p < 64) : (Int64.ofInt a <<< ((Int32.ofInt (p : Int)).toInt64 &&& 63)).toInt % ((2 ^ k : Nat) : Int) = 0 := by
  show (Int64.ofInt a <<< ((Int32.ofInt (p : Int)).toInt64 &&& 63)).toBitVec.toInt % _ = _
  rw [j_shl_b hp, j_mod (by omega), BitVec.toNat_shiftLeft, Nat.shiftLeft_eq]
  have e : (2 : Nat) ^ 64 = 2 ^ k * 2 ^ (64 - k) := by rw [← Nat.pow_add]; congr 1; omega
  have e2 : (2 : Nat) ^ p = 2 ^ k * 2 ^ (p - k) := by rw [← Nat.pow_add]; congr 1; omega
  rw [e, Nat.mod_mul_right_mod, e2, Nat.mul_left_comm, Nat.mul_mod_right]
  rfl
theorem j_ofn {a : Nat} (h : a < 9223372036854775808) : (BitVec.ofInt 64 (a : Int)).toNat = a := by
  have := bl_toNat (a : Int); omega
theorem j_orn {a b : Nat} (ha : a < 9223372036854775808) (hb : b < 9223372036854775808) : (Int64.ofInt (a : Int) ||| Int64.ofInt (b : Int)).toInt = ((a ||| b : Nat) : Int) := by
  have e : (Int64.ofInt (a : Int) ||| Int64.ofInt (b : Int)).toBitVec.toNat = a ||| b := by
    show (BitVec.ofInt 64 (a : Int) ||| BitVec.ofInt 64 (b : Int)).toNat = _
    rw [BitVec.toNat_or, j_ofn ha, j_ofn hb]
  have l : a ||| b < 2 ^ 63 := Nat.or_lt_two_pow ha hb
  rw [j_lt (by rw [e]; exact l), e]
theorem j_andn {a b : Nat} (ha : a < 9223372036854775808) (hb : b < 9223372036854775808) : (Int64.ofInt (a : Int) &&& Int64.ofInt (b : Int)).toInt = ((a &&& b : Nat) : Int) := by
  have e : (Int64.ofInt (a : Int) &&& Int64.ofInt (b : Int)).toBitVec.toNat = a &&& b := by
    show (BitVec.ofInt 64 (a : Int) &&& BitVec.ofInt 64 (b : Int)).toNat = _
    rw [BitVec.toNat_and, j_ofn ha, j_ofn hb]
  have l : a &&& b < 9223372036854775808 := Nat.lt_of_le_of_lt Nat.and_le_left ha
  rw [j_lt (by rw [e]; exact l), e]
theorem j_mask_mod {a : Int} {k : Nat} (hk : k < 63) : (Int64.ofInt a &&& Int64.ofInt (((2 ^ k - 1 : Nat)) : Int)).toInt = a % ((2 ^ k : Nat) : Int) := by
  have hp : (2 : Nat) ^ k < 2 ^ 63 := Nat.pow_lt_pow_right (by omega) hk
  have hp0 : 0 < (2 : Nat) ^ k := Nat.two_pow_pos k
  have e : (Int64.ofInt a &&& Int64.ofInt (((2 ^ k - 1 : Nat)) : Int)).toBitVec.toNat = (BitVec.ofInt 64 a).toNat % 2 ^ k := by
    show (BitVec.ofInt 64 a &&& BitVec.ofInt 64 (((2 ^ k - 1 : Nat)) : Int)).toNat = _
    rw [BitVec.toNat_and, j_ofn (by omega), Nat.and_two_pow_sub_one_eq_mod]
  have l : (BitVec.ofInt 64 a).toNat % 2 ^ k < 2 ^ k := Nat.mod_lt _ hp0
  rw [j_lt (by rw [e]; omega), e, Int.natCast_emod, bl_toNat]
  have e3 : (18446744073709551616 : Int) = ((2 ^ k : Nat) : Int) * ((2 ^ (64 - k) : Nat) : Int) := by
    rw [← Int.natCast_mul, ← Nat.pow_add, show k + (64 - k) = 64 by omega]; rfl
  rw [e3, Int.emod_emod_of_dvd _ ⟨_, rfl⟩]
theorem i_ofn {a : Nat} (h : a < 2147483648) : (BitVec.ofInt 32 (a : Int)).toNat = a := by
  rw [BitVec.toNat_ofInt]
  show ((a : Int) % 4294967296).toNat = a
  omega
theorem i_orn {a b : Nat} (ha : a < 2147483648) (hb : b < 2147483648) : (Int32.ofInt (a : Int) ||| Int32.ofInt (b : Int)).toInt = ((a ||| b : Nat) : Int) := by
  have e : (Int32.ofInt (a : Int) ||| Int32.ofInt (b : Int)).toBitVec.toNat = a ||| b := by
    show (BitVec.ofInt 32 (a : Int) ||| BitVec.ofInt 32 (b : Int)).toNat = _
    rw [BitVec.toNat_or, i_ofn ha, i_ofn hb]
  have l : a ||| b < 2 ^ 31 := Nat.or_lt_two_pow ha hb
  rw [i_lt (by rw [e]; exact l), e]
theorem i_andn {a b : Nat} (ha : a < 2147483648) (hb : b < 2147483648) : (Int32.ofInt (a : Int) &&& Int32.ofInt (b : Int)).toInt = ((a &&& b : Nat) : Int) := by
  have e : (Int32.ofInt (a : Int) &&& Int32.ofInt (b : Int)).toBitVec.toNat = a &&& b := by
    show (BitVec.ofInt 32 (a : Int) &&& BitVec.ofInt 32 (b : Int)).toNat = _
    rw [BitVec.toNat_and, i_ofn ha, i_ofn hb]
  have l : a &&& b < 2147483648 := Nat.lt_of_le_of_lt Nat.and_le_left ha
  rw [i_lt (by rw [e]; exact l), e]
theorem n_or_div (a b k : Nat) : (a ||| b) / 2 ^ k = a / 2 ^ k ||| b / 2 ^ k := by
  rw [← Nat.shiftRight_eq_div_pow, ← Nat.shiftRight_eq_div_pow, ← Nat.shiftRight_eq_div_pow, Nat.shiftRight_or_distrib]
/-- 8 bits taken from an int that isn't negative -/
theorem i_and255 {a r : Int} (h : in32 a) (h0 : 0 ≤ a) (e : r = fI 0 a 255) : r = a % 256 := by
  obtain ⟨n, rfl⟩ := Int.eq_ofNat_of_zero_le h0
  have l : n < 2147483648 := by have := h.2; omega
  have q : r = ((n &&& 255 : Nat) : Int) := by rw [e]; exact i_andn (b := 255) l (by omega)
  rw [Nat.and_two_pow_sub_one_eq_mod n 8] at q
  rw [q]; omega
theorem n_pw2a : ∀ (a : Fin 65) (b : Fin 64), 1 ≤ 64 * a.val + b.val → (64 * a.val + b.val) &&& (64 * a.val + b.val - 1) = 0 → 64 * a.val + b.val = 1 ∨ 64 * a.val + b.val = 2 ∨ 64 * a.val + b.val = 4 ∨ 64 * a.val + b.val = 8 ∨ 64 * a.val + b.val = 16 ∨ 64 * a.val + b.val = 32 ∨ 64 * a.val + b.val = 64 ∨ 64 * a.val + b.val = 128 ∨ 64 * a.val + b.val = 256 ∨ 64 * a.val + b.val = 512 ∨ 64 * a.val + b.val = 1024 ∨ 64 * a.val + b.val = 2048 ∨ 64 * a.val + b.val = 4096 := by decide +kernel
theorem n_pw2 (n : Nat) (h : n ≤ 4096) (h1 : 1 ≤ n) (h2 : n &&& (n - 1) = 0) : n = 1 ∨ n = 2 ∨ n = 4 ∨ n = 8 ∨ n = 16 ∨ n = 32 ∨ n = 64 ∨ n = 128 ∨ n = 256 ∨ n = 512 ∨ n = 1024 ∨ n = 2048 ∨ n = 4096 := by
  have q := n_pw2a ⟨n / 64, by omega⟩ ⟨n % 64, by omega⟩
  have e : 64 * (n / 64) + n % 64 = n := by omega
  simp only [e] at q
  exact q h1 h2
theorem n_i8 : ∀ n : Fin 256, 1 ≤ n.val → (Int32.ofInt (n.val : Int)).toInt8.toInt32.toInt ≠ 0 := by decide +kernel
theorem i_shlN {a : Int} {p : Nat} (h : 0 ≤ a) (hp : p < 32) (h2 : a * 2 ^ p ≤ 2147483647) (h3 : a ≤ 2147483647) : fI 3 a (p : Int) = a * 2 ^ p := i_shl h hp h2 h3
theorem j_shlN {a p : Nat} (hp : p < 64) (h : a * 2 ^ p < 9223372036854775808) : fJ 3 (a : Int) (p : Int) = ((a * 2 ^ p : Nat) : Int) := by
  have hp0 : 0 < (2 : Nat) ^ p := Nat.two_pow_pos p
  have ha : a < 9223372036854775808 := Nat.lt_of_le_of_lt (Nat.le_mul_of_pos_right a hp0) h
  have e : (Int64.ofInt (a : Int) <<< ((Int32.ofInt (p : Int)).toInt64 &&& 63)).toBitVec.toNat = a * 2 ^ p := by
    rw [j_shl_b hp, BitVec.toNat_shiftLeft, j_ofn ha, Nat.shiftLeft_eq, Nat.mod_eq_of_lt (by omega)]
  show (Int64.ofInt (a : Int) <<< ((Int32.ofInt (p : Int)).toInt64 &&& 63)).toInt = _
  rw [j_lt (by rw [e]; exact h), e]
theorem kvWc_1 : ∀ v ∈ kvWc, v ≠ 118 := by decide +kernel
theorem kvWc_2 : ∀ v ∈ kvWc, eWcd v := by unfold eWcd eSzv; decide +kernel
theorem kvRc_1 : ∀ v ∈ kvRc, eRegc v := by unfold eRegc eSzv; decide +kernel
theorem i_modall (a : Int) : (Int32.ofInt a).toInt % 4294967296 = a % 4294967296 := by
  show (BitVec.ofInt 32 a).toInt % _ = _
  rw [BitVec.toInt_eq_toNat_cond, BitVec.toNat_ofInt]
  have e : ((2 ^ 32 : Nat) : Int) = 4294967296 := rfl
  rw [e]
  split <;> omega
theorem n_z1 (z : Nat) : z * 4096 / 256 % 16 = 0 := by omega
theorem n_z2 (z : Nat) : z * 1099511627776 / 1099511627776 = z := by omega
theorem n_z3 (z : Nat) : z * 1099511627776 % 4096 = 0 := by omega
theorem n_f {x y z : Nat} (hx : x < 256) (hy : y < 16) : (((x ||| y * 256) ||| z * 4096) / 256) % 16 = y := by
  show (((x ||| y * 256) ||| z * 4096) / 2 ^ 8) % 2 ^ 4 = y
  rw [n_or_div, n_or_div, Nat.or_mod_two_pow, Nat.or_mod_two_pow]
  have e1 : x / 2 ^ 8 = 0 := (show x / 256 = 0 by omega)
  have e2 : y * 256 / 2 ^ 8 % 2 ^ 4 = y := (show y * 256 / 256 % 16 = y by omega)
  have e3 : z * 4096 / 2 ^ 8 % 2 ^ 4 = 0 := n_z1 z
  rw [e1, e2, e3, Nat.zero_mod, Nat.zero_or, Nat.or_zero]
theorem n_g {x y z : Nat} (hx : x < 1099511627776) (hy : y < 64) : ((x ||| y * 17179869184) ||| z * 1099511627776) / 1099511627776 = z ∧ ((x ||| y * 17179869184) ||| z * 1099511627776) % 4096 = x % 4096 := by
  constructor
  · show ((x ||| y * 17179869184) ||| z * 1099511627776) / 2 ^ 40 = z
    rw [n_or_div, n_or_div]
    have e1 : x / 2 ^ 40 = 0 := (show x / 1099511627776 = 0 by omega)
    have e2 : y * 17179869184 / 2 ^ 40 = 0 := (show y * 17179869184 / 1099511627776 = 0 by omega)
    have e3 : z * 1099511627776 / 2 ^ 40 = z := n_z2 z
    rw [e1, e2, e3, Nat.zero_or, Nat.zero_or]
  · show ((x ||| y * 17179869184) ||| z * 1099511627776) % 2 ^ 12 = x % 2 ^ 12
    rw [Nat.or_mod_two_pow, Nat.or_mod_two_pow]
    have e2 : y * 17179869184 % 2 ^ 12 = 0 := (show y * 17179869184 % 4096 = 0 by omega)
    have e3 : z * 1099511627776 % 2 ^ 12 = 0 := n_z3 z
    rw [e2, e3, Nat.or_zero, Nat.or_zero]
theorem M_af0 {N0 N1 N2 N3 N4 N5 N6 N7 N8 N9 N10 N11 : Int} (H0 : N1 ≤ 0) : eAllf (N0) (N1) (N2) (N3) (N4) (N5) (N6) (N7) (N8) (N9) (N10) (N11) := by
  exact Or.inr (fun j a b => by omega)
theorem M_afG {N0 N1 N2 N3 N4 N5 N6 N7 N8 N9 N10 N11 : Int} (H0 : 1 ≤ N11) : eAllf (N0) (N1) (N2) (N3) (N4) (N5) (N6) (N7) (N8) (N9) (N10) (N11) := by
  exact Or.inl H0
theorem M_afS {N0 N1 N2 N3 N4 N5 N6 N7 N8 N9 N10 N11 N12 N13 N14 N15 N16 : Int} (H0 : eAllf (N0) (N12) (N2) (N3) (N4) (N5) (N6) (N7) (N8) (N9) (N10) (N13)) (H1 : N1 ≤ N12 + 1) (H2 : N13 ≤ N11) (H3 : (N15) = (Int64.ofInt (N14)).toInt) (H4 : N14 = N0 + N12) (H5 : dEv 1030 [] [(N15), (N2), (N3), (N4), (N5), (N6), (N7), (N8), (N9), (N10)] = some (N16)) (H6 : 0 ≤ N16) : eAllf (N0) (N1) (N2) (N3) (N4) (N5) (N6) (N7) (N8) (N9) (N10) (N11) := by
  by_cases g : 1 ≤ N11
  · exact Or.inl g
  rcases H0 with h | h
  · omega
  refine Or.inr (fun j a b r e => ?_)
  by_cases c : j = N12
  · rw [c, ← H4, ← H3, H5] at e
    cases e; exact H6
  · exact h j a (by omega) r e
theorem M_afI {N0 N1 N2 N3 N4 N5 N6 N7 N8 N9 N10 N11 N12 N13 N14 : Int} (H0 : eAllf (N0) (N1) (N2) (N3) (N4) (N5) (N6) (N7) (N8) (N9) (N10) (N11)) (H1 : N11 ≤ 0) (H2 : (N13) = (Int64.ofInt (N12)).toInt) (H3 : N0 ≤ N12) (H4 : N12 + 1 ≤ N0 + N1) (H5 : dEv 1030 [] [(N13), (N2), (N3), (N4), (N5), (N6), (N7), (N8), (N9), (N10)] = some (N14)) : 0 ≤ N14 := by
  rcases H0 with h | h
  · omega
  refine h (N12 - N0) (by omega) (by omega) N14 ?_
  rw [show N0 + (N12 - N0) = N12 by omega, ← H2]; exact H5
theorem M_sv0 {N0 : Int} (H0 : N0 = 0) : eSzv (N0) := by
  unfold eSzv at *
  omega
theorem M_sv1 {N0 : Int} (H0 : N0 = 1) : eSzv (N0) := by
  unfold eSzv at *
  omega
theorem M_sv4 {N0 : Int} (H0 : N0 = 4) : eSzv (N0) := by
  unfold eSzv at *
  omega
theorem M_sv8 {N0 : Int} (H0 : N0 = 8) : eSzv (N0) := by
  unfold eSzv at *
  omega
theorem M_sv7 {N0 : Int} (H0 : eSzv (N0)) (H1 : N0 ≤ 7) : N0 ≤ 4 := by
  unfold eSzv at *
  omega
theorem M_sv3 {N0 : Int} (H0 : eSzv (N0)) (H1 : N0 ≤ 3) : N0 ≤ 1 := by
  unfold eSzv at *
  omega
theorem M_svB {N0 : Int} (H0 : eSzv (N0)) : (N0 ≤ 8) ∧ (0 ≤ N0) := by
  unfold eSzv at *
  omega
theorem M_sv5 {N0 : Int} (H0 : eSzv (N0)) (H1 : 5 ≤ N0) : 8 ≤ N0 := by
  unfold eSzv at *
  omega
theorem M_sv2 {N0 : Int} (H0 : eSzv (N0)) (H1 : 2 ≤ N0) : 4 ≤ N0 := by
  unfold eSzv at *
  omega
theorem M_shV {F0 F1 : Int → Int} {N0 N1 N2 N3 : Int} (H0 : ∀ x : Int, F1 x = if x = N2 then N3 else F0 x) (H1 : eShx (F0) (N0) (N1)) (H2 : eShp (N3)) : eShx (F1) (N0) (N1) := by
  intro j a b
  rw [H0 j]; split
  · exact H2
  · exact H1 j a b
theorem M_shI {F0 : Int → Int} {N0 N1 N2 N3 : Int} (H0 : eShx (F0) (N0) (N1)) (H1 : F0 N2 = N3) (H2 : N0 ≤ N2) (H3 : N2 + 1 ≤ N1) : eShp (N3) := by
  rw [← H1]; exact H0 N2 H2 (by omega)
theorem M_szW {F0 F1 : Int → Int} {N0 N1 N2 N3 : Int} (H0 : ∀ x : Int, F1 x = if x = N2 then N3 else F0 x) (H1 : eSzx (F0) (N0) (N1)) (H2 : eSzv (N3)) : eSzx (F1) (N0) (N1) := by
  intro j a b
  rw [H0 j]; split
  · exact H2
  · exact H1 j a b
theorem M_szI {F0 : Int → Int} {N0 N1 N2 N3 : Int} (H0 : eSzx (F0) (N0) (N1)) (H1 : F0 N2 = N3) (H2 : N0 ≤ N2) (H3 : N2 + 1 ≤ N1) : eSzv (N3) := by
  rw [← H1]; exact H0 N2 H2 (by omega)
theorem M_shO {N0 N1 N2 N3 N4 : Int} (H0 : (in64 (N1) ∧ in64 (N4)) ∧ (N0) = fJ 1 (N1) (N4)) (H1 : (in64 (N2) ∧ in64 (N3)) ∧ (N4) = fJ 3 (N2) (N3)) (H2 : N3 = 50) (H3 : eShp (N1)) : eShp (N0) := by
  obtain ⟨-, e0⟩ := H0
  obtain ⟨-, e1⟩ := H1
  subst H2
  have a := j_or_lo (k := 50) (a := N1) (b := N4) (by omega) (by rw [e1]; exact j_shl_lo (p := 50) (by omega) (by omega))
  have e50 : ((2 ^ 50 : Nat) : Int) = 1125899906842624 := rfl
  rw [show (Int64.ofInt N1 ||| Int64.ofInt N4).toInt = N0 from e0.symm, e50] at a
  unfold eShp eSzv at *; omega
theorem M_shR {F0 : Int → Int} {N0 N1 N2 N3 N4 N5 N6 : Int} (H0 : eShx (F0) (N4) (N5)) (H1 : F0 N6 = N0) (H2 : N4 ≤ N6) (H3 : N6 + 1 ≤ N5) (H4 : (in64 (N1) ∧ in64 (N2)) ∧ (N3) = fJ 0 (N1) (N2)) (H5 : N2 = 63) (H6 : 1099511627776 * N1 ≤ N0) (H7 : N0 ≤ 1099511627776 * N1 + 1099511627775) : (N3 ≤ 16) ∧ (0 ≤ N3) := by
  have q := H0 N6 H2 (by omega)
  rw [H1] at q
  obtain ⟨-, e⟩ := H4
  subst H5
  have e : N3 = N1 % 64 := e.trans (j_mask_mod (a := N1) (k := 6) (by omega))
  unfold eShp at q; omega
theorem M_shS {F0 : Int → Int} {N0 N1 N2 N3 N4 N5 N6 N7 : Int} (H0 : (in64 (N1) ∧ in64 (N2)) ∧ (N3) = fJ 0 (N1) (N2)) (H1 : N2 = 15) (H2 : eShx (F0) (N5) (N6)) (H3 : F0 N7 = N4) (H4 : N5 ≤ N7) (H5 : N7 + 1 ≤ N6) (H6 : 256 * N1 ≤ N4) (H7 : N4 ≤ 256 * N1 + 255) (H8 : N3 = N0) : eSzv (N0) := by
  have q := H2 N7 H4 (by omega)
  rw [H3] at q
  obtain ⟨-, e⟩ := H0
  subst H1
  have e : N3 = N1 % 16 := e.trans (j_mask_mod (a := N1) (k := 4) (by omega))
  unfold eShp eSzv at *; omega
theorem M_szF {N0 N1 N2 N3 N4 N5 N6 N7 N8 N9 : Int} (H0 : eSzv (N1)) (H1 : (in32 (N1) ∧ in32 (N2)) ∧ (N3) = fI 3 (N1) (N2)) (H2 : N2 = 8) (H3 : (in32 (N4) ∧ in32 (N3)) ∧ (N5) = fI 1 (N4) (N3)) (H4 : 0 ≤ N4) (H5 : N4 ≤ 255) (H6 : (in32 (N6) ∧ in32 (N7)) ∧ (N8) = fI 3 (N6) (N7)) (H7 : N7 = 12) (H8 : 0 ≤ N6) (H9 : N6 ≤ 15) (H10 : (in32 (N5) ∧ in32 (N8)) ∧ (N9) = fI 1 (N5) (N8)) (H11 : N9 = N0) : eSzp (N0) := by
  obtain ⟨⟨i1, -⟩, e3⟩ := H1
  obtain ⟨⟨i4, -⟩, e5⟩ := H3
  obtain ⟨-, e8⟩ := H6
  obtain ⟨-, e9⟩ := H10
  subst H2 H7
  have b1 : 0 ≤ N1 ∧ N1 ≤ 8 := by unfold eSzv at H0; omega
  obtain ⟨n1, rfl⟩ := Int.eq_ofNat_of_zero_le b1.1
  obtain ⟨n4, rfl⟩ := Int.eq_ofNat_of_zero_le H4
  obtain ⟨n6, rfl⟩ := Int.eq_ofNat_of_zero_le H8
  have e3 : N3 = ((n1 * 256 : Nat) : Int) := by rw [e3, show (8 : Int) = ((8 : Nat) : Int) from rfl, i_shlN (by omega) (by omega) (by omega) (by omega)]; omega
  have e8 : N8 = ((n6 * 4096 : Nat) : Int) := by rw [e8, show (12 : Int) = ((12 : Nat) : Int) from rfl, i_shlN (by omega) (by omega) (by omega) (by omega)]; omega
  subst e3 e8
  have e5 : N5 = ((n4 ||| n1 * 256 : Nat) : Int) := e5.trans (i_orn (by omega) (by omega))
  subst e5
  have l : n4 ||| n1 * 256 < 2 ^ 12 := Nat.or_lt_two_pow (by omega) (by omega)
  have e9 : N9 = (((n4 ||| n1 * 256) ||| n6 * 4096 : Nat) : Int) := e9.trans (i_orn (by omega) (by omega))
  have q := n_f (x := n4) (y := n1) (z := n6) (by omega) (by omega)
  unfold eSzp eSzv at *; omega
theorem M_szO {N0 N1 N2 N3 N4 : Int} (H0 : (in64 (N1) ∧ in64 (N4)) ∧ (N0) = fJ 1 (N1) (N4)) (H1 : eSzp (N1)) (H2 : (in64 (N2) ∧ in64 (N3)) ∧ (N4) = fJ 3 (N2) (N3)) (H3 : 16 ≤ N3) (H4 : N3 ≤ 63) : eSzp (N0) := by
  obtain ⟨-, e0⟩ := H0
  obtain ⟨-, e1⟩ := H2
  obtain ⟨p, rfl⟩ := Int.eq_ofNat_of_zero_le (show 0 ≤ N3 by omega)
  have a := j_or_lo (k := 12) (a := N1) (b := N4) (by omega) (by rw [e1]; exact j_shl_lo (p := p) (by omega) (by omega))
  have e50 : ((2 ^ 12 : Nat) : Int) = 4096 := rfl
  rw [show (Int64.ofInt N1 ||| Int64.ofInt N4).toInt = N0 from e0.symm, e50] at a
  unfold eSzp eSzv at *; omega
theorem M_szZ {N0 N1 N2 : Int} (H0 : (in64 (N1) ∧ in64 (N2)) ∧ (N0) = fJ 1 (N1) (N2)) (H1 : eSzp (N1)) (H2 : N2 = 0) : eSzp (N0) := by
  obtain ⟨-, e0⟩ := H0
  subst H2
  have a := j_or_lo (k := 12) (a := N1) (b := 0) (by omega) (Int.zero_emod _)
  have e50 : ((2 ^ 12 : Nat) : Int) = 4096 := rfl
  rw [show (Int64.ofInt N1 ||| Int64.ofInt 0).toInt = N0 from e0.symm, e50] at a
  unfold eSzp eSzv at *; omega
theorem M_shF {N0 N1 N2 N3 N4 N5 N6 N7 N8 N9 N10 N11 N12 : Int} (H0 : (in64 (N9) ∧ in64 (N12)) ∧ (N0) = fJ 1 (N9) (N12)) (H1 : (in64 (N10) ∧ in64 (N11)) ∧ (N12) = fJ 3 (N10) (N11)) (H2 : N11 = 46) (H3 : (in64 (N5) ∧ in64 (N8)) ∧ (N9) = fJ 1 (N5) (N8)) (H4 : (in64 (N6) ∧ in64 (N7)) ∧ (N8) = fJ 3 (N6) (N7)) (H5 : N7 = 40) (H6 : 0 ≤ N6) (H7 : N6 ≤ 16) (H8 : (in64 (N1) ∧ in64 (N4)) ∧ (N5) = fJ 1 (N1) (N4)) (H9 : (in64 (N2) ∧ in64 (N3)) ∧ (N4) = fJ 3 (N2) (N3)) (H10 : N3 = 34) (H11 : 0 ≤ N2) (H12 : N2 ≤ 63) (H13 : eSzp (N1)) (H14 : 0 ≤ N1) (H15 : N1 ≤ 1099511627775) : eShp (N0) := by
  obtain ⟨-, e0⟩ := H0
  obtain ⟨-, e12⟩ := H1
  obtain ⟨-, e9⟩ := H3
  obtain ⟨-, e8⟩ := H4
  obtain ⟨-, e5⟩ := H8
  obtain ⟨-, e4⟩ := H9
  subst H2 H5 H10
  have a := j_or_lo (k := 46) (a := N9) (b := N12) (by omega) (by rw [e12]; exact j_shl_lo (p := 46) (by omega) (by omega))
  have e50 : ((2 ^ 46 : Nat) : Int) = 70368744177664 := rfl
  rw [show (Int64.ofInt N9 ||| Int64.ofInt N12).toInt = N0 from e0.symm, e50] at a
  obtain ⟨n1, rfl⟩ := Int.eq_ofNat_of_zero_le H14
  obtain ⟨n2, rfl⟩ := Int.eq_ofNat_of_zero_le H11
  obtain ⟨n6, rfl⟩ := Int.eq_ofNat_of_zero_le H6
  have e4 : N4 = ((n2 * 17179869184 : Nat) : Int) := by rw [e4, show (34 : Int) = ((34 : Nat) : Int) from rfl, j_shlN (by omega) (by omega)]
  have e8 : N8 = ((n6 * 1099511627776 : Nat) : Int) := by rw [e8, show (40 : Int) = ((40 : Nat) : Int) from rfl, j_shlN (by omega) (by omega)]
  subst e4 e8
  have e5 : N5 = ((n1 ||| n2 * 17179869184 : Nat) : Int) := e5.trans (j_orn (by omega) (by omega))
  subst e5
  have l : n1 ||| n2 * 17179869184 < 2 ^ 40 := Nat.or_lt_two_pow (by omega) (by omega)
  have e9 : N9 = (((n1 ||| n2 * 17179869184) ||| n6 * 1099511627776 : Nat) : Int) := e9.trans (j_orn (by omega) (by omega))
  have q := n_g (x := n1) (y := n2) (z := n6) (by omega) (by omega)
  obtain ⟨q1, q2⟩ := q
  generalize ((n1 ||| n2 * 17179869184) ||| n6 * 1099511627776) = M at *
  unfold eShp eSzp eSzv at *; omega
theorem M_kvw {N0 N1 N2 N3 N4 : Int} (H0 : (N0) ∈ kvWc) (H1 : N1 = 0) (H2 : N2 = 1) (H3 : 117 ≤ N3 + N0) (H4 : N0 ≤ N4 + 119) : ∀ x, N1 ≤ x → x < N2 → (0 ≤ N3 ∨ 0 ≤ N4) := by
  intro x a b
  have := kvWc_1 _ H0
  omega
theorem M_kvo {N0 N1 N2 N3 N4 : Int} (H0 : eWcd (N1)) (H1 : 0 ≤ N1) (H2 : (in32 (N2) ∧ in32 (N3)) ∧ (N4) = fI 0 (N2) (N3)) (H3 : N3 = 255) (H4 : 65536 * N2 ≤ N1) (H5 : N1 ≤ 65536 * N2 + 65535) (H6 : N4 = N0) : eSzv (N0) := by
  subst H3
  have e := i_and255 H2.1.1 (by omega) H2.2
  unfold eWcd eSzv at *; omega
theorem M_kvc {N0 : Int} (H0 : (N0) ∈ kvWc) : eWcd (N0) := by
  exact kvWc_2 _ H0
theorem M_wcn {N0 : Int} (H0 : N0 + 1 ≤ 0) : eWcd (N0) := by
  unfold eWcd at *
  omega
theorem M_wcs {N0 : Int} (H0 : 0 ≤ N0) (H1 : N0 ≤ 65535) : eWcd (N0) := by
  unfold eWcd eSzv; omega
theorem M_rgk {N0 : Int} (H0 : (N0) ∈ kvRc) : eRegc (N0) := by
  exact kvRc_1 _ H0
theorem M_rgn {N0 : Int} (H0 : N0 + 1 ≤ 0) : eRegc (N0) := by
  unfold eRegc at *
  omega
theorem M_rga {N0 N1 N2 N3 : Int} (H0 : eRegc (N0)) (H1 : 0 ≤ N0) (H2 : (in32 (N3) ∧ in32 (N1)) ∧ (N2) = fI 0 (N3) (N1)) (H3 : N3 = N0) (H4 : N1 = 255) : N2 ≤ 15 := by
  subst H3 H4
  have e := i_and255 H2.1.1 H1 H2.2
  unfold eRegc at H0; omega
theorem M_rgs {N0 N1 : Int} (H0 : eRegc (N1)) (H1 : 0 ≤ N1) (H2 : 256 * N0 ≤ N1) (H3 : N1 ≤ 256 * N0 + 255) : eSzv (N0) := by
  unfold eRegc eSzv at *
  omega
theorem M_nzA {N0 N1 N2 : Int} (H0 : N2 = N0) : eNz3 (N0) (N1) (N2) := by
  exact Or.inl H0
theorem M_nzB {N0 N1 N2 : Int} (H0 : (N2) = (Int32.ofInt (N0)).toInt) (H1 : N1 = 4) : eNz3 (N0) (N1) (N2) := by
  exact Or.inr (Or.inl ⟨H1, H0⟩)
theorem M_nzC0 {N0 N1 N2 N3 N4 : Int} (H0 : (in32 (N3) ∧ in32 (N4)) ∧ (N2) = fI 8 (N3) (N4)) (H1 : (N3) = (Int32.ofInt (N0)).toInt) (H2 : N1 ≤ 3) : eNz3 (N0) (N1) (N2) := by
  exact Or.inr (Or.inr ⟨by omega, N4, by rw [← H1]; exact H0.2⟩)
theorem M_nzC1 {N0 N1 N2 N3 N4 : Int} (H0 : (in32 (N3) ∧ in32 (N4)) ∧ (N2) = fI 8 (N3) (N4)) (H1 : (N3) = (Int32.ofInt (N0)).toInt) (H2 : 5 ≤ N1) (H3 : N1 ≤ 7) : eNz3 (N0) (N1) (N2) := by
  exact Or.inr (Or.inr ⟨by omega, N4, by rw [← H1]; exact H0.2⟩)
theorem M_nzC2 {N0 N1 N2 N3 N4 : Int} (H0 : (in32 (N3) ∧ in32 (N4)) ∧ (N2) = fI 8 (N3) (N4)) (H1 : (N3) = (Int32.ofInt (N0)).toInt) (H2 : 9 ≤ N1) : eNz3 (N0) (N1) (N2) := by
  exact Or.inr (Or.inr ⟨by omega, N4, by rw [← H1]; exact H0.2⟩)
theorem M_nzU0 {N0 N1 N2 : Int} (H0 : eNz3 (N0) (N1) (N2)) (H1 : 1 ≤ N0) (H2 : N0 ≤ 4294967295) (H3 : N0 ≤ 255) (H4 : N2 ≤ 0) : N2 + 1 ≤ 0 := by
  rcases H0 with h | ⟨-, h⟩ | ⟨-, y, h⟩
  · omega
  · have := i_of (a := N0) ⟨by omega, by omega⟩; omega
  · rw [i_of (a := N0) ⟨by omega, by omega⟩] at h
    obtain ⟨n, rfl⟩ := Int.eq_ofNat_of_zero_le (show 0 ≤ N0 by omega)
    have q := n_i8 ⟨n, by omega⟩ (by show 1 ≤ n; omega)
    have h : N2 = (Int32.ofInt (n : Int)).toInt8.toInt32.toInt := h
    have : N2 ≠ 0 := by rw [h]; exact q
    omega
theorem M_nzU1 {N0 N1 N2 : Int} (H0 : eNz3 (N0) (N1) (N2)) (H1 : 1 ≤ N0) (H2 : N0 ≤ 4294967295) (H3 : N1 = 4) (H4 : N2 ≤ 0) : N2 + 1 ≤ 0 := by
  rcases H0 with h | ⟨-, h⟩ | ⟨h, -⟩
  · omega
  · have q := i_modall N0
    rw [← h] at q; omega
  · omega
theorem M_p2A {N0 N1 N2 : Int} (H0 : (in64 (N0) ∧ in64 (N1)) ∧ (N2) = fJ 0 (N0) (N1)) (H1 : N1 = N0 + -1) (H2 : N2 = 0) (H3 : 1 ≤ N0) (H4 : N0 ≤ 4096) : cPw2 (N0) := by
  obtain ⟨n, rfl⟩ := Int.eq_ofNat_of_zero_le (show 0 ≤ N0 by omega)
  obtain ⟨-, e⟩ := H0
  have h1 : N1 = ((n - 1 : Nat) : Int) := by omega
  rw [h1] at e
  have e : N2 = ((n &&& (n - 1) : Nat) : Int) := e.trans (j_andn (by omega) (by omega))
  have q := n_pw2 n (by omega) (by omega) (by omega)
  have q : n = 1 ∨ n = 2 ∨ n = 4 ∨ n = 8 ∨ n = 16 ∨ n = 32 ∨ n = 64 ∨ n = 128 ∨ n = 256 ∨ n = 512 ∨ n = 1024 ∨ n = 2048 ∨ n = 4096 := q
  unfold cPw2; omega
theorem M_alI {F0 : Int → Int} {N0 N1 N2 N3 N4 N5 N6 N7 N8 N9 N10 : Int} (H0 : cUs (N2) (N6)) (H1 : cAlgn (F0) (N0) (N1)) (H2 : N0 ≤ N2) (H3 : N2 + 1 ≤ N1) (H4 : N3 = 7 * N2) (H5 : F0 N3 = N4) (H6 : N4 = 2) (H7 : N5 = 7 * N2 + 5) (H8 : F0 N5 = N7) (H9 : (in32 (N8) ∧ in32 (N9)) ∧ (N10) = fI 0 (N8) (N9)) (H10 : N9 = -1 * N7) (H11 : N7 ≤ N8 + 1) : N8 + 1 ≤ N10 + N7 := by
  have q := H1 N2 H2 (by omega)
  rw [← H4, H5, show N3 + 5 = N5 by omega, H8] at q
  have q : cPw2 N7 := by
    rcases q with q | q | q
    · omega
    · omega
    · exact q
  have p1 : 1 ≤ N7 := by unfold cPw2 at q; omega
  have h8 := i_of H9.1.1
  have h9 := i_of H9.1.2
  have e2 : N10 = (Int32.ofInt N8 &&& Int32.ofInt N9).toInt := H9.2
  have key : ∀ p : Nat, p < 31 → N7 = (2 : Int) ^ p → N8 + 1 ≤ N10 + N7 := by
    intro p hp e
    have u := (i_up (x := Int32.ofInt N8) (y := Int32.ofInt N9) (p := p) (by rw [h8]; omega) hp (by rw [h9, ← e]; omega)).2.2
    rw [h8, ← e2, ← e] at u
    omega
  unfold cPw2 at q
  rcases q with q | q | q | q | q | q | q | q | q | q | q | q | q
  · exact key 0 (by omega) (by rw [q]; rfl)
  · exact key 1 (by omega) (by rw [q]; rfl)
  · exact key 2 (by omega) (by rw [q]; rfl)
  · exact key 3 (by omega) (by rw [q]; rfl)
  · exact key 4 (by omega) (by rw [q]; rfl)
  · exact key 5 (by omega) (by rw [q]; rfl)
  · exact key 6 (by omega) (by rw [q]; rfl)
  · exact key 7 (by omega) (by rw [q]; rfl)
  · exact key 8 (by omega) (by rw [q]; rfl)
  · exact key 9 (by omega) (by rw [q]; rfl)
  · exact key 10 (by omega) (by rw [q]; rfl)
  · exact key 11 (by omega) (by rw [q]; rfl)
  · exact key 12 (by omega) (by rw [q]; rfl)
theorem M_dvE {N0 N1 N2 N3 N4 N5 : Int} (H0 : (in32 (N0) ∧ in32 (N1)) ∧ (N2) = fI 6 (N0) (N1)) (H1 : (in32 (N3) ∧ in32 (N4)) ∧ (N5) = fI 6 (N3) (N4)) (H2 : N3 = N0) (H3 : N4 = N1) : (N5 ≤ N2) ∧ (N2 ≤ N5) := by
  subst H2 H3
  have : N5 = N2 := H1.2.trans H0.2.symm
  omega
theorem M_dvR {N0 N1 N2 N3 N4 N5 : Int} (H0 : (in32 (N0) ∧ in32 (N1)) ∧ (N2) = fI 6 (N0) (N1)) (H1 : (in32 (N3) ∧ in32 (N4)) ∧ (N5) = fI 7 (N3) (N4)) (H2 : N3 = N0) (H3 : N1 = 4) (H4 : N4 = 4) (H5 : 0 ≤ N0) : (4 * N2 + N5 ≤ N0) ∧ (N0 ≤ 4 * N2 + N5) := by
  rw [H2, H4] at H1; rw [H3] at H0
  have q := i_div (a := N0) (b := 4) H5 H0.1.1.2 (by omega) (by omega)
  have a : N2 = N0 / 4 := H0.2.trans q.1
  have b : N5 = N0 % 4 := H1.2.trans q.2
  omega
theorem M_fpD {F0 F1 F2 : Int → Int} {N0 N1 N2 N3 N4 N5 N6 N7 N8 N9 N10 N11 N12 N13 N14 N15 N16 N17 N18 N19 N20 N21 N22 N23 : Int} (H0 : (in32 (N20) ∧ in32 (N21)) ∧ (N4) = fI 6 (N20) (N21)) (H1 : (in32 (N22) ∧ in32 (N23)) ∧ (N5) = fI 7 (N22) (N23)) (H2 : N22 = N20) (H3 : N21 = 4) (H4 : N23 = 4) (H5 : 0 ≤ N20) (H6 : cPlc (F0) (F1) (F2) (N0) (N1) (N2) (N3)) (H7 : 4 ≤ N1) (H8 : N20 + 1 ≤ 4 * N0) (H9 : F1 N20 = N7) (H10 : 1 ≤ N7) (H11 : F0 N20 = N8) (H12 : N10 = 17 * N4 + N5 + 9) (H13 : F2 N10 = N9) : (4194304 ≤ N8) ∧ (N8 + N9 ≤ N3) := by
  rw [H2, H4] at H1; rw [H3] at H0
  have q := i_div (a := N20) (b := 4) H5 H0.1.1.2 (by omega) (by omega)
  have a : N4 = N20 / 4 := H0.2.trans q.1
  have b : N5 = N20 % 4 := H1.2.trans q.2
  have r := H6 N4 N5 (by omega) (by omega) (by omega) (by omega) (by omega)
  rw [show 4 * N4 + N5 = N20 by omega, H9, H11, ← H12, H13] at r
  omega
theorem M_frD {F0 : Int → Int} {N0 N1 N2 N3 N4 N5 N6 N7 N8 N9 N10 N11 N12 N13 N14 N15 N16 N17 N18 N19 N20 N21 N22 N23 : Int} (H0 : (in32 (N20) ∧ in32 (N21)) ∧ (N4) = fI 6 (N20) (N21)) (H1 : (in32 (N22) ∧ in32 (N23)) ∧ (N5) = fI 7 (N22) (N23)) (H2 : N22 = N20) (H3 : N21 = 4) (H4 : N23 = 4) (H5 : 0 ≤ N20) (H6 : cRsz (F0) (N0)) (H7 : N20 + 1 ≤ 4 * N0) (H8 : N5 ≤ 2) (H9 : N3 = 17 * N4 + N5 + 5) (H10 : F0 N3 = N8) (H11 : N10 = N3 + 4) (H12 : F0 N10 = N6) : N8 + N6 ≤ 131072 := by
  rw [H2, H4] at H1; rw [H3] at H0
  have q := i_div (a := N20) (b := 4) H5 H0.1.1.2 (by omega) (by omega)
  have a : N4 = N20 / 4 := H0.2.trans q.1
  have b : N5 = N20 % 4 := H1.2.trans q.2
  have r := H6 N4 N5 (by omega) (by omega) (by omega) (by omega)
  rw [← H9, H10, show 17 * N4 + N5 + 9 = N10 by omega, H12] at r
  omega
/-! BITS: sizes, shapes, canonical numbers; a search over addresses: the rules (written by wip/p2/grp.py) -/
section
variable {fs : List (Int → Int)} {zs : List Int}
theorem s_szv {i0 : Nat} : SnOk fs zs (1077, [0, i0], []) ↔ eSzv (nthZ zs i0) := Iff.rfl
theorem s_shp {i0 : Nat} : SnOk fs zs (1075, [0, i0], []) ↔ eShp (nthZ zs i0) := Iff.rfl
theorem s_shx {a0 i0 i1 : Nat} : SnOk fs zs (1074, [1, a0, i0, i1], []) ↔ eShx (nthF fs a0) (nthZ zs i0) (nthZ zs i1) := Iff.rfl
theorem s_szp {i0 : Nat} : SnOk fs zs (1076, [0, i0], []) ↔ eSzp (nthZ zs i0) := Iff.rfl
theorem s_szx {a0 i0 i1 : Nat} : SnOk fs zs (1078, [1, a0, i0, i1], []) ↔ eSzx (nthF fs a0) (nthZ zs i0) (nthZ zs i1) := Iff.rfl
theorem s_wcd {i0 : Nat} : SnOk fs zs (1079, [0, i0], []) ↔ eWcd (nthZ zs i0) := Iff.rfl
theorem s_regc {i0 : Nat} : SnOk fs zs (1062, [0, i0], []) ↔ eRegc (nthZ zs i0) := Iff.rfl
theorem s_nz3 {i0 i1 i2 : Nat} : SnOk fs zs (1081, [0, i0, i1, i2], []) ↔ eNz3 (nthZ zs i0) (nthZ zs i1) (nthZ zs i2) := Iff.rfl
theorem s_allf {i0 i1 i2 i3 i4 i5 i6 i7 i8 i9 i10 i11 : Nat} : SnOk fs zs (1071, [0, i0, i1, i2, i3, i4, i5, i6, i7, i8, i9, i10, i11], []) ↔ eAllf (nthZ zs i0) (nthZ zs i1) (nthZ zs i2) (nthZ zs i3) (nthZ zs i4) (nthZ zs i5) (nthZ zs i6) (nthZ zs i7) (nthZ zs i8) (nthZ zs i9) (nthZ zs i10) (nthZ zs i11) := Iff.rfl
theorem s_wrJ {i0 i1 : Nat} : SnOk fs zs (1020, [0, i0, i1], []) ↔ (nthZ zs i1) = (Int64.ofInt (nthZ zs i0)).toInt := Iff.rfl
theorem s_wrI {i0 i1 : Nat} : SnOk fs zs (1021, [0, i0, i1], []) ↔ (nthZ zs i1) = (Int32.ofInt (nthZ zs i0)).toInt := Iff.rfl
theorem s_kv_m_wordCode {i0 : Nat} : SnOk fs zs (1049, [0, i0], []) ↔ (nthZ zs i0) ∈ kvWc := Iff.rfl
theorem s_kv_m_registerCode {i0 : Nat} : SnOk fs zs (1050, [0, i0], []) ↔ (nthZ zs i0) ∈ kvRc := Iff.rfl
theorem s_bI0 {i0 i1 i2 : Nat} : SnOk fs zs (1025, [0, i0, i1, i2], []) ↔ (in32 (nthZ zs i0) ∧ in32 (nthZ zs i1)) ∧ (nthZ zs i2) = fI 0 (nthZ zs i0) (nthZ zs i1) := Iff.rfl
theorem s_bI1 {i0 i1 i2 : Nat} : SnOk fs zs (1072, [0, i0, i1, i2], []) ↔ (in32 (nthZ zs i0) ∧ in32 (nthZ zs i1)) ∧ (nthZ zs i2) = fI 1 (nthZ zs i0) (nthZ zs i1) := Iff.rfl
theorem s_bI3 {i0 i1 i2 : Nat} : SnOk fs zs (1073, [0, i0, i1, i2], []) ↔ (in32 (nthZ zs i0) ∧ in32 (nthZ zs i1)) ∧ (nthZ zs i2) = fI 3 (nthZ zs i0) (nthZ zs i1) := Iff.rfl
theorem s_bI6 {i0 i1 i2 : Nat} : SnOk fs zs (1110, [0, i0, i1, i2], []) ↔ (in32 (nthZ zs i0) ∧ in32 (nthZ zs i1)) ∧ (nthZ zs i2) = fI 6 (nthZ zs i0) (nthZ zs i1) := Iff.rfl
theorem s_bI7 {i0 i1 i2 : Nat} : SnOk fs zs (1111, [0, i0, i1, i2], []) ↔ (in32 (nthZ zs i0) ∧ in32 (nthZ zs i1)) ∧ (nthZ zs i2) = fI 7 (nthZ zs i0) (nthZ zs i1) := Iff.rfl
theorem s_bI8 {i0 i1 i2 : Nat} : SnOk fs zs (1080, [0, i0, i1, i2], []) ↔ (in32 (nthZ zs i0) ∧ in32 (nthZ zs i1)) ∧ (nthZ zs i2) = fI 8 (nthZ zs i0) (nthZ zs i1) := Iff.rfl
theorem s_bJ0 {i0 i1 i2 : Nat} : SnOk fs zs (1022, [0, i0, i1, i2], []) ↔ (in64 (nthZ zs i0) ∧ in64 (nthZ zs i1)) ∧ (nthZ zs i2) = fJ 0 (nthZ zs i0) (nthZ zs i1) := Iff.rfl
theorem s_bJ1 {i0 i1 i2 : Nat} : SnOk fs zs (1023, [0, i0, i1, i2], []) ↔ (in64 (nthZ zs i0) ∧ in64 (nthZ zs i1)) ∧ (nthZ zs i2) = fJ 1 (nthZ zs i0) (nthZ zs i1) := Iff.rfl
theorem s_bJ3 {i0 i1 i2 : Nat} : SnOk fs zs (1024, [0, i0, i1, i2], []) ↔ (in64 (nthZ zs i0) ∧ in64 (nthZ zs i1)) ∧ (nthZ zs i2) = fJ 3 (nthZ zs i0) (nthZ zs i1) := Iff.rfl
end
def q_af0 : qRl := ([sp 0 [(1, (-1))], sp 0 [], sp 0 [], sp 0 [], sp 0 [], sp 0 [], sp 0 [], sp 0 [], sp 0 [], sp 0 [], sp 0 [], sp 0 []], [(1071, [0, 0, 1, 2, 3, 4, 5, 6, 7, 8, 9, 10, 11], [])])
theorem q_af0_ok : RlOk q_af0 := by
  intro fs zs h x hx
  obtain ⟨P0, h⟩ := snAll h
  replace P0 := sp_1.mp P0
  obtain ⟨P1, h⟩ := snAll h
  replace P1 := sp_0.mp P1
  obtain ⟨P2, h⟩ := snAll h
  replace P2 := sp_0.mp P2
  obtain ⟨P3, h⟩ := snAll h
  replace P3 := sp_0.mp P3
  obtain ⟨P4, h⟩ := snAll h
  replace P4 := sp_0.mp P4
  obtain ⟨P5, h⟩ := snAll h
  replace P5 := sp_0.mp P5
  obtain ⟨P6, h⟩ := snAll h
  replace P6 := sp_0.mp P6
  obtain ⟨P7, h⟩ := snAll h
  replace P7 := sp_0.mp P7
  obtain ⟨P8, h⟩ := snAll h
  replace P8 := sp_0.mp P8
  obtain ⟨P9, h⟩ := snAll h
  replace P9 := sp_0.mp P9
  obtain ⟨P10, h⟩ := snAll h
  replace P10 := sp_0.mp P10
  obtain ⟨P11, h⟩ := snAll h
  replace P11 := sp_0.mp P11
  have L : eAllf ((nthZ zs 0)) ((nthZ zs 1)) ((nthZ zs 2)) ((nthZ zs 3)) ((nthZ zs 4)) ((nthZ zs 5)) ((nthZ zs 6)) ((nthZ zs 7)) ((nthZ zs 8)) ((nthZ zs 9)) ((nthZ zs 10)) ((nthZ zs 11)) := by
    apply M_af0 (N0 := nthZ zs 0) (N1 := nthZ zs 1) (N2 := nthZ zs 2) (N3 := nthZ zs 3) (N4 := nthZ zs 4) (N5 := nthZ zs 5) (N6 := nthZ zs 6) (N7 := nthZ zs 7) (N8 := nthZ zs 8) (N9 := nthZ zs 9) (N10 := nthZ zs 10) (N11 := nthZ zs 11) <;> first | assumption | omega
  rcases List.mem_cons.mp hx with hx | hx
  · rw [hx]; refine s_allf.mpr ?_; exact L
  · cases hx
def q_afG : qRl := ([sp (-1) [(11, 1)], sp 0 [], sp 0 [], sp 0 [], sp 0 [], sp 0 [], sp 0 [], sp 0 [], sp 0 [], sp 0 [], sp 0 [], sp 0 []], [(1071, [0, 0, 1, 2, 3, 4, 5, 6, 7, 8, 9, 10, 11], [])])
theorem q_afG_ok : RlOk q_afG := by
  intro fs zs h x hx
  obtain ⟨P0, h⟩ := snAll h
  replace P0 := sp_1.mp P0
  obtain ⟨P1, h⟩ := snAll h
  replace P1 := sp_0.mp P1
  obtain ⟨P2, h⟩ := snAll h
  replace P2 := sp_0.mp P2
  obtain ⟨P3, h⟩ := snAll h
  replace P3 := sp_0.mp P3
  obtain ⟨P4, h⟩ := snAll h
  replace P4 := sp_0.mp P4
  obtain ⟨P5, h⟩ := snAll h
  replace P5 := sp_0.mp P5
  obtain ⟨P6, h⟩ := snAll h
  replace P6 := sp_0.mp P6
  obtain ⟨P7, h⟩ := snAll h
  replace P7 := sp_0.mp P7
  obtain ⟨P8, h⟩ := snAll h
  replace P8 := sp_0.mp P8
  obtain ⟨P9, h⟩ := snAll h
  replace P9 := sp_0.mp P9
  obtain ⟨P10, h⟩ := snAll h
  replace P10 := sp_0.mp P10
  obtain ⟨P11, h⟩ := snAll h
  replace P11 := sp_0.mp P11
  have L : eAllf ((nthZ zs 0)) ((nthZ zs 1)) ((nthZ zs 2)) ((nthZ zs 3)) ((nthZ zs 4)) ((nthZ zs 5)) ((nthZ zs 6)) ((nthZ zs 7)) ((nthZ zs 8)) ((nthZ zs 9)) ((nthZ zs 10)) ((nthZ zs 11)) := by
    apply M_afG (N0 := nthZ zs 0) (N1 := nthZ zs 1) (N2 := nthZ zs 2) (N3 := nthZ zs 3) (N4 := nthZ zs 4) (N5 := nthZ zs 5) (N6 := nthZ zs 6) (N7 := nthZ zs 7) (N8 := nthZ zs 8) (N9 := nthZ zs 9) (N10 := nthZ zs 10) (N11 := nthZ zs 11) <;> first | assumption | omega
  rcases List.mem_cons.mp hx with hx | hx
  · rw [hx]; refine s_allf.mpr ?_; exact L
  · cases hx
def q_afS : qRl := ([(1071, [0, 0, 12, 2, 3, 4, 5, 6, 7, 8, 9, 10, 13], []), sp 1 [(12, 1), (1, (-1))], sp 0 [(11, 1), (13, (-1))], (1020, [0, 14, 15], []), sp 0 [(14, 1), (0, (-1)), (12, (-1))], sp 0 [(0, 1), (12, 1), (14, (-1))], (1033, [0, 15, 2, 3, 4, 5, 6, 7, 8, 9, 10, 16], []), sp 0 [(16, 1)]], [(1071, [0, 0, 1, 2, 3, 4, 5, 6, 7, 8, 9, 10, 11], [])])
theorem q_afS_ok : RlOk q_afS := by
  intro fs zs h x hx
  obtain ⟨P0, h⟩ := snAll h
  replace P0 := s_allf.mp P0
  obtain ⟨P1, h⟩ := snAll h
  replace P1 := sp_2.mp P1
  obtain ⟨P2, h⟩ := snAll h
  replace P2 := sp_2.mp P2
  obtain ⟨P3, h⟩ := snAll h
  replace P3 := s_wrJ.mp P3
  obtain ⟨P4, h⟩ := snAll h
  replace P4 := sp_3.mp P4
  obtain ⟨P5, h⟩ := snAll h
  replace P5 := sp_3.mp P5
  obtain ⟨P6, h⟩ := snAll h
  replace P6 := s_det_find.mp P6
  obtain ⟨P7, h⟩ := snAll h
  replace P7 := sp_1.mp P7
  have L : eAllf ((nthZ zs 0)) ((nthZ zs 1)) ((nthZ zs 2)) ((nthZ zs 3)) ((nthZ zs 4)) ((nthZ zs 5)) ((nthZ zs 6)) ((nthZ zs 7)) ((nthZ zs 8)) ((nthZ zs 9)) ((nthZ zs 10)) ((nthZ zs 11)) := by
    apply M_afS (N0 := nthZ zs 0) (N1 := nthZ zs 1) (N2 := nthZ zs 2) (N3 := nthZ zs 3) (N4 := nthZ zs 4) (N5 := nthZ zs 5) (N6 := nthZ zs 6) (N7 := nthZ zs 7) (N8 := nthZ zs 8) (N9 := nthZ zs 9) (N10 := nthZ zs 10) (N11 := nthZ zs 11) (N12 := nthZ zs 12) (N13 := nthZ zs 13) (N14 := nthZ zs 14) (N15 := nthZ zs 15) (N16 := nthZ zs 16) <;> first | assumption | omega
  rcases List.mem_cons.mp hx with hx | hx
  · rw [hx]; refine s_allf.mpr ?_; exact L
  · cases hx
def q_afI : qRl := ([(1071, [0, 0, 1, 2, 3, 4, 5, 6, 7, 8, 9, 10, 11], []), sp 0 [(11, (-1))], (1020, [0, 12, 13], []), sp 0 [(12, 1), (0, (-1))], sp (-1) [(0, 1), (1, 1), (12, (-1))], (1033, [0, 13, 2, 3, 4, 5, 6, 7, 8, 9, 10, 14], [])], [sp 0 [(14, 1)]])
theorem q_afI_ok : RlOk q_afI := by
  intro fs zs h x hx
  obtain ⟨P0, h⟩ := snAll h
  replace P0 := s_allf.mp P0
  obtain ⟨P1, h⟩ := snAll h
  replace P1 := sp_1.mp P1
  obtain ⟨P2, h⟩ := snAll h
  replace P2 := s_wrJ.mp P2
  obtain ⟨P3, h⟩ := snAll h
  replace P3 := sp_2.mp P3
  obtain ⟨P4, h⟩ := snAll h
  replace P4 := sp_3.mp P4
  obtain ⟨P5, h⟩ := snAll h
  replace P5 := s_det_find.mp P5
  have L : 0 ≤ (nthZ zs 14) := by
    apply M_afI (N0 := nthZ zs 0) (N1 := nthZ zs 1) (N2 := nthZ zs 2) (N3 := nthZ zs 3) (N4 := nthZ zs 4) (N5 := nthZ zs 5) (N6 := nthZ zs 6) (N7 := nthZ zs 7) (N8 := nthZ zs 8) (N9 := nthZ zs 9) (N10 := nthZ zs 10) (N11 := nthZ zs 11) (N12 := nthZ zs 12) (N13 := nthZ zs 13) (N14 := nthZ zs 14) <;> first | assumption | omega
  rcases List.mem_cons.mp hx with hx | hx
  · rw [hx]; refine sp_1.mpr ?_; omega
  · cases hx
def q_sv0 : qRl := ([sp 0 [(0, 1)], sp 0 [(0, (-1))]], [(1077, [0, 0], [])])
theorem q_sv0_ok : RlOk q_sv0 := by
  intro fs zs h x hx
  obtain ⟨P0, h⟩ := snAll h
  replace P0 := sp_1.mp P0
  obtain ⟨P1, h⟩ := snAll h
  replace P1 := sp_1.mp P1
  have L : eSzv ((nthZ zs 0)) := by
    apply M_sv0 (N0 := nthZ zs 0) <;> first | assumption | omega
  rcases List.mem_cons.mp hx with hx | hx
  · rw [hx]; refine s_szv.mpr ?_; exact L
  · cases hx
def q_sv1 : qRl := ([sp (-1) [(0, 1)], sp 1 [(0, (-1))]], [(1077, [0, 0], [])])
theorem q_sv1_ok : RlOk q_sv1 := by
  intro fs zs h x hx
  obtain ⟨P0, h⟩ := snAll h
  replace P0 := sp_1.mp P0
  obtain ⟨P1, h⟩ := snAll h
  replace P1 := sp_1.mp P1
  have L : eSzv ((nthZ zs 0)) := by
    apply M_sv1 (N0 := nthZ zs 0) <;> first | assumption | omega
  rcases List.mem_cons.mp hx with hx | hx
  · rw [hx]; refine s_szv.mpr ?_; exact L
  · cases hx
def q_sv4 : qRl := ([sp (-4) [(0, 1)], sp 4 [(0, (-1))]], [(1077, [0, 0], [])])
theorem q_sv4_ok : RlOk q_sv4 := by
  intro fs zs h x hx
  obtain ⟨P0, h⟩ := snAll h
  replace P0 := sp_1.mp P0
  obtain ⟨P1, h⟩ := snAll h
  replace P1 := sp_1.mp P1
  have L : eSzv ((nthZ zs 0)) := by
    apply M_sv4 (N0 := nthZ zs 0) <;> first | assumption | omega
  rcases List.mem_cons.mp hx with hx | hx
  · rw [hx]; refine s_szv.mpr ?_; exact L
  · cases hx
def q_sv8 : qRl := ([sp (-8) [(0, 1)], sp 8 [(0, (-1))]], [(1077, [0, 0], [])])
theorem q_sv8_ok : RlOk q_sv8 := by
  intro fs zs h x hx
  obtain ⟨P0, h⟩ := snAll h
  replace P0 := sp_1.mp P0
  obtain ⟨P1, h⟩ := snAll h
  replace P1 := sp_1.mp P1
  have L : eSzv ((nthZ zs 0)) := by
    apply M_sv8 (N0 := nthZ zs 0) <;> first | assumption | omega
  rcases List.mem_cons.mp hx with hx | hx
  · rw [hx]; refine s_szv.mpr ?_; exact L
  · cases hx
def q_sv7 : qRl := ([(1077, [0, 0], []), sp 7 [(0, (-1))]], [sp 4 [(0, (-1))]])
theorem q_sv7_ok : RlOk q_sv7 := by
  intro fs zs h x hx
  obtain ⟨P0, h⟩ := snAll h
  replace P0 := s_szv.mp P0
  obtain ⟨P1, h⟩ := snAll h
  replace P1 := sp_1.mp P1
  have L : (nthZ zs 0) ≤ 4 := by
    apply M_sv7 (N0 := nthZ zs 0) <;> first | assumption | omega
  rcases List.mem_cons.mp hx with hx | hx
  · rw [hx]; refine sp_1.mpr ?_; omega
  · cases hx
def q_sv3 : qRl := ([(1077, [0, 0], []), sp 3 [(0, (-1))]], [sp 1 [(0, (-1))]])
theorem q_sv3_ok : RlOk q_sv3 := by
  intro fs zs h x hx
  obtain ⟨P0, h⟩ := snAll h
  replace P0 := s_szv.mp P0
  obtain ⟨P1, h⟩ := snAll h
  replace P1 := sp_1.mp P1
  have L : (nthZ zs 0) ≤ 1 := by
    apply M_sv3 (N0 := nthZ zs 0) <;> first | assumption | omega
  rcases List.mem_cons.mp hx with hx | hx
  · rw [hx]; refine sp_1.mpr ?_; omega
  · cases hx
def q_svB : qRl := ([(1077, [0, 0], [])], [sp 8 [(0, (-1))], sp 0 [(0, 1)]])
theorem q_svB_ok : RlOk q_svB := by
  intro fs zs h x hx
  obtain ⟨P0, h⟩ := snAll h
  replace P0 := s_szv.mp P0
  have L : ((nthZ zs 0) ≤ 8) ∧ (0 ≤ (nthZ zs 0)) := by
    apply M_svB (N0 := nthZ zs 0) <;> first | assumption | omega
  obtain ⟨L0, L1⟩ := L
  rcases List.mem_cons.mp hx with hx | hx
  · rw [hx]; refine sp_1.mpr ?_; omega
  rcases List.mem_cons.mp hx with hx | hx
  · rw [hx]; refine sp_1.mpr ?_; omega
  · cases hx
def q_sv5 : qRl := ([(1077, [0, 0], []), sp (-5) [(0, 1)]], [sp (-8) [(0, 1)]])
theorem q_sv5_ok : RlOk q_sv5 := by
  intro fs zs h x hx
  obtain ⟨P0, h⟩ := snAll h
  replace P0 := s_szv.mp P0
  obtain ⟨P1, h⟩ := snAll h
  replace P1 := sp_1.mp P1
  have L : 8 ≤ (nthZ zs 0) := by
    apply M_sv5 (N0 := nthZ zs 0) <;> first | assumption | omega
  rcases List.mem_cons.mp hx with hx | hx
  · rw [hx]; refine sp_1.mpr ?_; omega
  · cases hx
def q_sv2 : qRl := ([(1077, [0, 0], []), sp (-2) [(0, 1)]], [sp (-4) [(0, 1)]])
theorem q_sv2_ok : RlOk q_sv2 := by
  intro fs zs h x hx
  obtain ⟨P0, h⟩ := snAll h
  replace P0 := s_szv.mp P0
  obtain ⟨P1, h⟩ := snAll h
  replace P1 := sp_1.mp P1
  have L : 4 ≤ (nthZ zs 0) := by
    apply M_sv2 (N0 := nthZ zs 0) <;> first | assumption | omega
  rcases List.mem_cons.mp hx with hx | hx
  · rw [hx]; refine sp_1.mpr ?_; omega
  · cases hx
def q_shV : qRl := ([(2, [1, 0, 2, 3], []), (1074, [1, 0, 0, 1], []), (1075, [0, 3], [])], [(1074, [1, 1, 0, 1], [])])
theorem q_shV_ok : RlOk q_shV := by
  intro fs zs h x hx
  obtain ⟨P0, h⟩ := snAll h
  replace P0 := s_wr.mp P0
  obtain ⟨P1, h⟩ := snAll h
  replace P1 := s_shx.mp P1
  obtain ⟨P2, h⟩ := snAll h
  replace P2 := s_shp.mp P2
  have L : eShx ((nthF fs 1)) ((nthZ zs 0)) ((nthZ zs 1)) := by
    apply M_shV (F0 := nthF fs 0) (F1 := nthF fs 1) (N0 := nthZ zs 0) (N1 := nthZ zs 1) (N2 := nthZ zs 2) (N3 := nthZ zs 3) <;> first | assumption | omega
  rcases List.mem_cons.mp hx with hx | hx
  · rw [hx]; refine s_shx.mpr ?_; exact L
  · cases hx
def q_shI : qRl := ([(1074, [1, 0, 0, 1], []), (1, [0, 2, 3], []), sp 0 [(2, 1), (0, (-1))], sp (-1) [(1, 1), (2, (-1))]], [(1075, [0, 3], [])])
theorem q_shI_ok : RlOk q_shI := by
  intro fs zs h x hx
  obtain ⟨P0, h⟩ := snAll h
  replace P0 := s_shx.mp P0
  obtain ⟨P1, h⟩ := snAll h
  replace P1 := s_rd.mp P1
  obtain ⟨P2, h⟩ := snAll h
  replace P2 := sp_2.mp P2
  obtain ⟨P3, h⟩ := snAll h
  replace P3 := sp_2.mp P3
  have L : eShp ((nthZ zs 3)) := by
    apply M_shI (F0 := nthF fs 0) (N0 := nthZ zs 0) (N1 := nthZ zs 1) (N2 := nthZ zs 2) (N3 := nthZ zs 3) <;> first | assumption | omega
  rcases List.mem_cons.mp hx with hx | hx
  · rw [hx]; refine s_shp.mpr ?_; exact L
  · cases hx
def q_szW : qRl := ([(2, [1, 0, 2, 3], []), (1078, [1, 0, 0, 1], []), (1077, [0, 3], [])], [(1078, [1, 1, 0, 1], [])])
theorem q_szW_ok : RlOk q_szW := by
  intro fs zs h x hx
  obtain ⟨P0, h⟩ := snAll h
  replace P0 := s_wr.mp P0
  obtain ⟨P1, h⟩ := snAll h
  replace P1 := s_szx.mp P1
  obtain ⟨P2, h⟩ := snAll h
  replace P2 := s_szv.mp P2
  have L : eSzx ((nthF fs 1)) ((nthZ zs 0)) ((nthZ zs 1)) := by
    apply M_szW (F0 := nthF fs 0) (F1 := nthF fs 1) (N0 := nthZ zs 0) (N1 := nthZ zs 1) (N2 := nthZ zs 2) (N3 := nthZ zs 3) <;> first | assumption | omega
  rcases List.mem_cons.mp hx with hx | hx
  · rw [hx]; refine s_szx.mpr ?_; exact L
  · cases hx
def q_szI : qRl := ([(1078, [1, 0, 0, 1], []), (1, [0, 2, 3], []), sp 0 [(2, 1), (0, (-1))], sp (-1) [(1, 1), (2, (-1))]], [(1077, [0, 3], [])])
theorem q_szI_ok : RlOk q_szI := by
  intro fs zs h x hx
  obtain ⟨P0, h⟩ := snAll h
  replace P0 := s_szx.mp P0
  obtain ⟨P1, h⟩ := snAll h
  replace P1 := s_rd.mp P1
  obtain ⟨P2, h⟩ := snAll h
  replace P2 := sp_2.mp P2
  obtain ⟨P3, h⟩ := snAll h
  replace P3 := sp_2.mp P3
  have L : eSzv ((nthZ zs 3)) := by
    apply M_szI (F0 := nthF fs 0) (N0 := nthZ zs 0) (N1 := nthZ zs 1) (N2 := nthZ zs 2) (N3 := nthZ zs 3) <;> first | assumption | omega
  rcases List.mem_cons.mp hx with hx | hx
  · rw [hx]; refine s_szv.mpr ?_; exact L
  · cases hx
def q_shO : qRl := ([(1023, [0, 1, 4, 0], []), (1024, [0, 2, 3, 4], []), sp (-50) [(3, 1)], sp 50 [(3, (-1))], (1075, [0, 1], [])], [(1075, [0, 0], [])])
theorem q_shO_ok : RlOk q_shO := by
  intro fs zs h x hx
  obtain ⟨P0, h⟩ := snAll h
  replace P0 := s_bJ1.mp P0
  obtain ⟨P1, h⟩ := snAll h
  replace P1 := s_bJ3.mp P1
  obtain ⟨P2, h⟩ := snAll h
  replace P2 := sp_1.mp P2
  obtain ⟨P3, h⟩ := snAll h
  replace P3 := sp_1.mp P3
  obtain ⟨P4, h⟩ := snAll h
  replace P4 := s_shp.mp P4
  have L : eShp ((nthZ zs 0)) := by
    apply M_shO (N0 := nthZ zs 0) (N1 := nthZ zs 1) (N2 := nthZ zs 2) (N3 := nthZ zs 3) (N4 := nthZ zs 4) <;> first | assumption | omega
  rcases List.mem_cons.mp hx with hx | hx
  · rw [hx]; refine s_shp.mpr ?_; exact L
  · cases hx
def q_shR : qRl := ([(1074, [1, 0, 4, 5], []), (1, [0, 6, 0], []), sp 0 [(6, 1), (4, (-1))], sp (-1) [(5, 1), (6, (-1))], (1022, [0, 1, 2, 3], []), sp (-63) [(2, 1)], sp 63 [(2, (-1))], sp 0 [(0, 1), (1, (-1099511627776))], sp 1099511627775 [(1, 1099511627776), (0, (-1))]], [sp 16 [(3, (-1))], sp 0 [(3, 1)]])
theorem q_shR_ok : RlOk q_shR := by
  intro fs zs h x hx
  obtain ⟨P0, h⟩ := snAll h
  replace P0 := s_shx.mp P0
  obtain ⟨P1, h⟩ := snAll h
  replace P1 := s_rd.mp P1
  obtain ⟨P2, h⟩ := snAll h
  replace P2 := sp_2.mp P2
  obtain ⟨P3, h⟩ := snAll h
  replace P3 := sp_2.mp P3
  obtain ⟨P4, h⟩ := snAll h
  replace P4 := s_bJ0.mp P4
  obtain ⟨P5, h⟩ := snAll h
  replace P5 := sp_1.mp P5
  obtain ⟨P6, h⟩ := snAll h
  replace P6 := sp_1.mp P6
  obtain ⟨P7, h⟩ := snAll h
  replace P7 := sp_2.mp P7
  obtain ⟨P8, h⟩ := snAll h
  replace P8 := sp_2.mp P8
  have L : ((nthZ zs 3) ≤ 16) ∧ (0 ≤ (nthZ zs 3)) := by
    apply M_shR (F0 := nthF fs 0) (N0 := nthZ zs 0) (N1 := nthZ zs 1) (N2 := nthZ zs 2) (N3 := nthZ zs 3) (N4 := nthZ zs 4) (N5 := nthZ zs 5) (N6 := nthZ zs 6) <;> first | assumption | omega
  obtain ⟨L0, L1⟩ := L
  rcases List.mem_cons.mp hx with hx | hx
  · rw [hx]; refine sp_1.mpr ?_; omega
  rcases List.mem_cons.mp hx with hx | hx
  · rw [hx]; refine sp_1.mpr ?_; omega
  · cases hx
def q_shS : qRl := ([(1022, [0, 1, 2, 3], []), sp (-15) [(2, 1)], sp 15 [(2, (-1))], (1074, [1, 0, 5, 6], []), (1, [0, 7, 4], []), sp 0 [(7, 1), (5, (-1))], sp (-1) [(6, 1), (7, (-1))], sp 0 [(4, 1), (1, (-256))], sp 255 [(1, 256), (4, (-1))], sp 0 [(0, 1), (3, (-1))], sp 0 [(3, 1), (0, (-1))]], [(1077, [0, 0], [])])
theorem q_shS_ok : RlOk q_shS := by
  intro fs zs h x hx
  obtain ⟨P0, h⟩ := snAll h
  replace P0 := s_bJ0.mp P0
  obtain ⟨P1, h⟩ := snAll h
  replace P1 := sp_1.mp P1
  obtain ⟨P2, h⟩ := snAll h
  replace P2 := sp_1.mp P2
  obtain ⟨P3, h⟩ := snAll h
  replace P3 := s_shx.mp P3
  obtain ⟨P4, h⟩ := snAll h
  replace P4 := s_rd.mp P4
  obtain ⟨P5, h⟩ := snAll h
  replace P5 := sp_2.mp P5
  obtain ⟨P6, h⟩ := snAll h
  replace P6 := sp_2.mp P6
  obtain ⟨P7, h⟩ := snAll h
  replace P7 := sp_2.mp P7
  obtain ⟨P8, h⟩ := snAll h
  replace P8 := sp_2.mp P8
  obtain ⟨P9, h⟩ := snAll h
  replace P9 := sp_2.mp P9
  obtain ⟨P10, h⟩ := snAll h
  replace P10 := sp_2.mp P10
  have L : eSzv ((nthZ zs 0)) := by
    apply M_shS (F0 := nthF fs 0) (N0 := nthZ zs 0) (N1 := nthZ zs 1) (N2 := nthZ zs 2) (N3 := nthZ zs 3) (N4 := nthZ zs 4) (N5 := nthZ zs 5) (N6 := nthZ zs 6) (N7 := nthZ zs 7) <;> first | assumption | omega
  rcases List.mem_cons.mp hx with hx | hx
  · rw [hx]; refine s_szv.mpr ?_; exact L
  · cases hx
def q_szF : qRl := ([(1077, [0, 1], []), (1073, [0, 1, 2, 3], []), sp (-8) [(2, 1)], sp 8 [(2, (-1))], (1072, [0, 4, 3, 5], []), sp 0 [(4, 1)], sp 255 [(4, (-1))], (1073, [0, 6, 7, 8], []), sp (-12) [(7, 1)], sp 12 [(7, (-1))], sp 0 [(6, 1)], sp 15 [(6, (-1))], (1072, [0, 5, 8, 9], []), sp 0 [(0, 1), (9, (-1))], sp 0 [(9, 1), (0, (-1))]], [(1076, [0, 0], [])])
theorem q_szF_ok : RlOk q_szF := by
  intro fs zs h x hx
  obtain ⟨P0, h⟩ := snAll h
  replace P0 := s_szv.mp P0
  obtain ⟨P1, h⟩ := snAll h
  replace P1 := s_bI3.mp P1
  obtain ⟨P2, h⟩ := snAll h
  replace P2 := sp_1.mp P2
  obtain ⟨P3, h⟩ := snAll h
  replace P3 := sp_1.mp P3
  obtain ⟨P4, h⟩ := snAll h
  replace P4 := s_bI1.mp P4
  obtain ⟨P5, h⟩ := snAll h
  replace P5 := sp_1.mp P5
  obtain ⟨P6, h⟩ := snAll h
  replace P6 := sp_1.mp P6
  obtain ⟨P7, h⟩ := snAll h
  replace P7 := s_bI3.mp P7
  obtain ⟨P8, h⟩ := snAll h
  replace P8 := sp_1.mp P8
  obtain ⟨P9, h⟩ := snAll h
  replace P9 := sp_1.mp P9
  obtain ⟨P10, h⟩ := snAll h
  replace P10 := sp_1.mp P10
  obtain ⟨P11, h⟩ := snAll h
  replace P11 := sp_1.mp P11
  obtain ⟨P12, h⟩ := snAll h
  replace P12 := s_bI1.mp P12
  obtain ⟨P13, h⟩ := snAll h
  replace P13 := sp_2.mp P13
  obtain ⟨P14, h⟩ := snAll h
  replace P14 := sp_2.mp P14
  have L : eSzp ((nthZ zs 0)) := by
    apply M_szF (N0 := nthZ zs 0) (N1 := nthZ zs 1) (N2 := nthZ zs 2) (N3 := nthZ zs 3) (N4 := nthZ zs 4) (N5 := nthZ zs 5) (N6 := nthZ zs 6) (N7 := nthZ zs 7) (N8 := nthZ zs 8) (N9 := nthZ zs 9) <;> first | assumption | omega
  rcases List.mem_cons.mp hx with hx | hx
  · rw [hx]; refine s_szp.mpr ?_; exact L
  · cases hx
def q_szO : qRl := ([(1023, [0, 1, 4, 0], []), (1076, [0, 1], []), (1024, [0, 2, 3, 4], []), sp (-16) [(3, 1)], sp 63 [(3, (-1))]], [(1076, [0, 0], [])])
theorem q_szO_ok : RlOk q_szO := by
  intro fs zs h x hx
  obtain ⟨P0, h⟩ := snAll h
  replace P0 := s_bJ1.mp P0
  obtain ⟨P1, h⟩ := snAll h
  replace P1 := s_szp.mp P1
  obtain ⟨P2, h⟩ := snAll h
  replace P2 := s_bJ3.mp P2
  obtain ⟨P3, h⟩ := snAll h
  replace P3 := sp_1.mp P3
  obtain ⟨P4, h⟩ := snAll h
  replace P4 := sp_1.mp P4
  have L : eSzp ((nthZ zs 0)) := by
    apply M_szO (N0 := nthZ zs 0) (N1 := nthZ zs 1) (N2 := nthZ zs 2) (N3 := nthZ zs 3) (N4 := nthZ zs 4) <;> first | assumption | omega
  rcases List.mem_cons.mp hx with hx | hx
  · rw [hx]; refine s_szp.mpr ?_; exact L
  · cases hx
def q_szZ : qRl := ([(1023, [0, 1, 2, 0], []), (1076, [0, 1], []), sp 0 [(2, 1)], sp 0 [(2, (-1))]], [(1076, [0, 0], [])])
theorem q_szZ_ok : RlOk q_szZ := by
  intro fs zs h x hx
  obtain ⟨P0, h⟩ := snAll h
  replace P0 := s_bJ1.mp P0
  obtain ⟨P1, h⟩ := snAll h
  replace P1 := s_szp.mp P1
  obtain ⟨P2, h⟩ := snAll h
  replace P2 := sp_1.mp P2
  obtain ⟨P3, h⟩ := snAll h
  replace P3 := sp_1.mp P3
  have L : eSzp ((nthZ zs 0)) := by
    apply M_szZ (N0 := nthZ zs 0) (N1 := nthZ zs 1) (N2 := nthZ zs 2) <;> first | assumption | omega
  rcases List.mem_cons.mp hx with hx | hx
  · rw [hx]; refine s_szp.mpr ?_; exact L
  · cases hx
def q_shF : qRl := ([(1023, [0, 9, 12, 0], []), (1024, [0, 10, 11, 12], []), sp (-46) [(11, 1)], sp 46 [(11, (-1))], (1023, [0, 5, 8, 9], []), (1024, [0, 6, 7, 8], []), sp (-40) [(7, 1)], sp 40 [(7, (-1))], sp 0 [(6, 1)], sp 16 [(6, (-1))], (1023, [0, 1, 4, 5], []), (1024, [0, 2, 3, 4], []), sp (-34) [(3, 1)], sp 34 [(3, (-1))], sp 0 [(2, 1)], sp 63 [(2, (-1))], (1076, [0, 1], []), sp 0 [(1, 1)], sp 1099511627775 [(1, (-1))]], [(1075, [0, 0], [])])
theorem q_shF_ok : RlOk q_shF := by
  intro fs zs h x hx
  obtain ⟨P0, h⟩ := snAll h
  replace P0 := s_bJ1.mp P0
  obtain ⟨P1, h⟩ := snAll h
  replace P1 := s_bJ3.mp P1
  obtain ⟨P2, h⟩ := snAll h
  replace P2 := sp_1.mp P2
  obtain ⟨P3, h⟩ := snAll h
  replace P3 := sp_1.mp P3
  obtain ⟨P4, h⟩ := snAll h
  replace P4 := s_bJ1.mp P4
  obtain ⟨P5, h⟩ := snAll h
  replace P5 := s_bJ3.mp P5
  obtain ⟨P6, h⟩ := snAll h
  replace P6 := sp_1.mp P6
  obtain ⟨P7, h⟩ := snAll h
  replace P7 := sp_1.mp P7
  obtain ⟨P8, h⟩ := snAll h
  replace P8 := sp_1.mp P8
  obtain ⟨P9, h⟩ := snAll h
  replace P9 := sp_1.mp P9
  obtain ⟨P10, h⟩ := snAll h
  replace P10 := s_bJ1.mp P10
  obtain ⟨P11, h⟩ := snAll h
  replace P11 := s_bJ3.mp P11
  obtain ⟨P12, h⟩ := snAll h
  replace P12 := sp_1.mp P12
  obtain ⟨P13, h⟩ := snAll h
  replace P13 := sp_1.mp P13
  obtain ⟨P14, h⟩ := snAll h
  replace P14 := sp_1.mp P14
  obtain ⟨P15, h⟩ := snAll h
  replace P15 := sp_1.mp P15
  obtain ⟨P16, h⟩ := snAll h
  replace P16 := s_szp.mp P16
  obtain ⟨P17, h⟩ := snAll h
  replace P17 := sp_1.mp P17
  obtain ⟨P18, h⟩ := snAll h
  replace P18 := sp_1.mp P18
  have L : eShp ((nthZ zs 0)) := by
    apply M_shF (N0 := nthZ zs 0) (N1 := nthZ zs 1) (N2 := nthZ zs 2) (N3 := nthZ zs 3) (N4 := nthZ zs 4) (N5 := nthZ zs 5) (N6 := nthZ zs 6) (N7 := nthZ zs 7) (N8 := nthZ zs 8) (N9 := nthZ zs 9) (N10 := nthZ zs 10) (N11 := nthZ zs 11) (N12 := nthZ zs 12) <;> first | assumption | omega
  rcases List.mem_cons.mp hx with hx | hx
  · rw [hx]; refine s_shp.mpr ?_; exact L
  · cases hx
def q_kvw : qRl := ([(1049, [0, 0], []), sp 0 [(1, (-1))], sp 0 [(1, 1)], sp (-1) [(2, 1)], sp 1 [(2, (-1))], sp (-117) [(3, 1), (0, 1)], sp 119 [(4, 1), (0, (-1))]], [(3, [0, 1, 2, 3, 4], [])])
theorem q_kvw_ok : RlOk q_kvw := by
  intro fs zs h x hx
  obtain ⟨P0, h⟩ := snAll h
  replace P0 := s_kv_m_wordCode.mp P0
  obtain ⟨P1, h⟩ := snAll h
  replace P1 := sp_1.mp P1
  obtain ⟨P2, h⟩ := snAll h
  replace P2 := sp_1.mp P2
  obtain ⟨P3, h⟩ := snAll h
  replace P3 := sp_1.mp P3
  obtain ⟨P4, h⟩ := snAll h
  replace P4 := sp_1.mp P4
  obtain ⟨P5, h⟩ := snAll h
  replace P5 := sp_2.mp P5
  obtain ⟨P6, h⟩ := snAll h
  replace P6 := sp_2.mp P6
  have L : ∀ x, (nthZ zs 1) ≤ x → x < (nthZ zs 2) → (0 ≤ (nthZ zs 3) ∨ 0 ≤ (nthZ zs 4)) := by
    apply M_kvw (N0 := nthZ zs 0) (N1 := nthZ zs 1) (N2 := nthZ zs 2) (N3 := nthZ zs 3) (N4 := nthZ zs 4) <;> first | assumption | omega
  rcases List.mem_cons.mp hx with hx | hx
  · rw [hx]; refine s_or2.mpr ?_; exact L
  · cases hx
def q_kvo : qRl := ([(1079, [0, 1], []), sp 0 [(1, 1)], (1025, [0, 2, 3, 4], []), sp (-255) [(3, 1)], sp 255 [(3, (-1))], sp 0 [(1, 1), (2, (-65536))], sp 65535 [(2, 65536), (1, (-1))], sp 0 [(0, 1), (4, (-1))], sp 0 [(4, 1), (0, (-1))]], [(1077, [0, 0], [])])
theorem q_kvo_ok : RlOk q_kvo := by
  intro fs zs h x hx
  obtain ⟨P0, h⟩ := snAll h
  replace P0 := s_wcd.mp P0
  obtain ⟨P1, h⟩ := snAll h
  replace P1 := sp_1.mp P1
  obtain ⟨P2, h⟩ := snAll h
  replace P2 := s_bI0.mp P2
  obtain ⟨P3, h⟩ := snAll h
  replace P3 := sp_1.mp P3
  obtain ⟨P4, h⟩ := snAll h
  replace P4 := sp_1.mp P4
  obtain ⟨P5, h⟩ := snAll h
  replace P5 := sp_2.mp P5
  obtain ⟨P6, h⟩ := snAll h
  replace P6 := sp_2.mp P6
  obtain ⟨P7, h⟩ := snAll h
  replace P7 := sp_2.mp P7
  obtain ⟨P8, h⟩ := snAll h
  replace P8 := sp_2.mp P8
  have L : eSzv ((nthZ zs 0)) := by
    apply M_kvo (N0 := nthZ zs 0) (N1 := nthZ zs 1) (N2 := nthZ zs 2) (N3 := nthZ zs 3) (N4 := nthZ zs 4) <;> first | assumption | omega
  rcases List.mem_cons.mp hx with hx | hx
  · rw [hx]; refine s_szv.mpr ?_; exact L
  · cases hx
def q_kvc : qRl := ([(1049, [0, 0], [])], [(1079, [0, 0], [])])
theorem q_kvc_ok : RlOk q_kvc := by
  intro fs zs h x hx
  obtain ⟨P0, h⟩ := snAll h
  replace P0 := s_kv_m_wordCode.mp P0
  have L : eWcd ((nthZ zs 0)) := by
    apply M_kvc (N0 := nthZ zs 0) <;> first | assumption | omega
  rcases List.mem_cons.mp hx with hx | hx
  · rw [hx]; refine s_wcd.mpr ?_; exact L
  · cases hx
def q_wcn : qRl := ([sp (-1) [(0, (-1))]], [(1079, [0, 0], [])])
theorem q_wcn_ok : RlOk q_wcn := by
  intro fs zs h x hx
  obtain ⟨P0, h⟩ := snAll h
  replace P0 := sp_1.mp P0
  have L : eWcd ((nthZ zs 0)) := by
    apply M_wcn (N0 := nthZ zs 0) <;> first | assumption | omega
  rcases List.mem_cons.mp hx with hx | hx
  · rw [hx]; refine s_wcd.mpr ?_; exact L
  · cases hx
def q_wcs : qRl := ([sp 0 [(0, 1)], sp 65535 [(0, (-1))]], [(1079, [0, 0], [])])
theorem q_wcs_ok : RlOk q_wcs := by
  intro fs zs h x hx
  obtain ⟨P0, h⟩ := snAll h
  replace P0 := sp_1.mp P0
  obtain ⟨P1, h⟩ := snAll h
  replace P1 := sp_1.mp P1
  have L : eWcd ((nthZ zs 0)) := by
    apply M_wcs (N0 := nthZ zs 0) <;> first | assumption | omega
  rcases List.mem_cons.mp hx with hx | hx
  · rw [hx]; refine s_wcd.mpr ?_; exact L
  · cases hx
def q_rgk : qRl := ([(1050, [0, 0], [])], [(1062, [0, 0], [])])
theorem q_rgk_ok : RlOk q_rgk := by
  intro fs zs h x hx
  obtain ⟨P0, h⟩ := snAll h
  replace P0 := s_kv_m_registerCode.mp P0
  have L : eRegc ((nthZ zs 0)) := by
    apply M_rgk (N0 := nthZ zs 0) <;> first | assumption | omega
  rcases List.mem_cons.mp hx with hx | hx
  · rw [hx]; refine s_regc.mpr ?_; exact L
  · cases hx
def q_rgn : qRl := ([sp (-1) [(0, (-1))]], [(1062, [0, 0], [])])
theorem q_rgn_ok : RlOk q_rgn := by
  intro fs zs h x hx
  obtain ⟨P0, h⟩ := snAll h
  replace P0 := sp_1.mp P0
  have L : eRegc ((nthZ zs 0)) := by
    apply M_rgn (N0 := nthZ zs 0) <;> first | assumption | omega
  rcases List.mem_cons.mp hx with hx | hx
  · rw [hx]; refine s_regc.mpr ?_; exact L
  · cases hx
def q_rga : qRl := ([(1062, [0, 0], []), sp 0 [(0, 1)], (1025, [0, 3, 1, 2], []), sp 0 [(0, 1), (3, (-1))], sp 0 [(3, 1), (0, (-1))], sp (-255) [(1, 1)], sp 255 [(1, (-1))]], [sp 15 [(2, (-1))]])
theorem q_rga_ok : RlOk q_rga := by
  intro fs zs h x hx
  obtain ⟨P0, h⟩ := snAll h
  replace P0 := s_regc.mp P0
  obtain ⟨P1, h⟩ := snAll h
  replace P1 := sp_1.mp P1
  obtain ⟨P2, h⟩ := snAll h
  replace P2 := s_bI0.mp P2
  obtain ⟨P3, h⟩ := snAll h
  replace P3 := sp_2.mp P3
  obtain ⟨P4, h⟩ := snAll h
  replace P4 := sp_2.mp P4
  obtain ⟨P5, h⟩ := snAll h
  replace P5 := sp_1.mp P5
  obtain ⟨P6, h⟩ := snAll h
  replace P6 := sp_1.mp P6
  have L : (nthZ zs 2) ≤ 15 := by
    apply M_rga (N0 := nthZ zs 0) (N1 := nthZ zs 1) (N2 := nthZ zs 2) (N3 := nthZ zs 3) <;> first | assumption | omega
  rcases List.mem_cons.mp hx with hx | hx
  · rw [hx]; refine sp_1.mpr ?_; omega
  · cases hx
def q_rgs : qRl := ([(1062, [0, 1], []), sp 0 [(1, 1)], sp 0 [(1, 1), (0, (-256))], sp 255 [(0, 256), (1, (-1))]], [(1077, [0, 0], [])])
theorem q_rgs_ok : RlOk q_rgs := by
  intro fs zs h x hx
  obtain ⟨P0, h⟩ := snAll h
  replace P0 := s_regc.mp P0
  obtain ⟨P1, h⟩ := snAll h
  replace P1 := sp_1.mp P1
  obtain ⟨P2, h⟩ := snAll h
  replace P2 := sp_2.mp P2
  obtain ⟨P3, h⟩ := snAll h
  replace P3 := sp_2.mp P3
  have L : eSzv ((nthZ zs 0)) := by
    apply M_rgs (N0 := nthZ zs 0) (N1 := nthZ zs 1) <;> first | assumption | omega
  rcases List.mem_cons.mp hx with hx | hx
  · rw [hx]; refine s_szv.mpr ?_; exact L
  · cases hx
def q_nzA : qRl := ([sp 0 [(2, 1), (0, (-1))], sp 0 [(0, 1), (2, (-1))], sp 0 []], [(1081, [0, 0, 1, 2], [])])
theorem q_nzA_ok : RlOk q_nzA := by
  intro fs zs h x hx
  obtain ⟨P0, h⟩ := snAll h
  replace P0 := sp_2.mp P0
  obtain ⟨P1, h⟩ := snAll h
  replace P1 := sp_2.mp P1
  obtain ⟨P2, h⟩ := snAll h
  replace P2 := sp_0.mp P2
  have L : eNz3 ((nthZ zs 0)) ((nthZ zs 1)) ((nthZ zs 2)) := by
    apply M_nzA (N0 := nthZ zs 0) (N1 := nthZ zs 1) (N2 := nthZ zs 2) <;> first | assumption | omega
  rcases List.mem_cons.mp hx with hx | hx
  · rw [hx]; refine s_nz3.mpr ?_; exact L
  · cases hx
def q_nzB : qRl := ([(1021, [0, 0, 2], []), sp (-4) [(1, 1)], sp 4 [(1, (-1))]], [(1081, [0, 0, 1, 2], [])])
theorem q_nzB_ok : RlOk q_nzB := by
  intro fs zs h x hx
  obtain ⟨P0, h⟩ := snAll h
  replace P0 := s_wrI.mp P0
  obtain ⟨P1, h⟩ := snAll h
  replace P1 := sp_1.mp P1
  obtain ⟨P2, h⟩ := snAll h
  replace P2 := sp_1.mp P2
  have L : eNz3 ((nthZ zs 0)) ((nthZ zs 1)) ((nthZ zs 2)) := by
    apply M_nzB (N0 := nthZ zs 0) (N1 := nthZ zs 1) (N2 := nthZ zs 2) <;> first | assumption | omega
  rcases List.mem_cons.mp hx with hx | hx
  · rw [hx]; refine s_nz3.mpr ?_; exact L
  · cases hx
def q_nzC0 : qRl := ([(1080, [0, 3, 4, 2], []), (1021, [0, 0, 3], []), sp 3 [(1, (-1))]], [(1081, [0, 0, 1, 2], [])])
theorem q_nzC0_ok : RlOk q_nzC0 := by
  intro fs zs h x hx
  obtain ⟨P0, h⟩ := snAll h
  replace P0 := s_bI8.mp P0
  obtain ⟨P1, h⟩ := snAll h
  replace P1 := s_wrI.mp P1
  obtain ⟨P2, h⟩ := snAll h
  replace P2 := sp_1.mp P2
  have L : eNz3 ((nthZ zs 0)) ((nthZ zs 1)) ((nthZ zs 2)) := by
    apply M_nzC0 (N0 := nthZ zs 0) (N1 := nthZ zs 1) (N2 := nthZ zs 2) (N3 := nthZ zs 3) (N4 := nthZ zs 4) <;> first | assumption | omega
  rcases List.mem_cons.mp hx with hx | hx
  · rw [hx]; refine s_nz3.mpr ?_; exact L
  · cases hx
def q_nzC1 : qRl := ([(1080, [0, 3, 4, 2], []), (1021, [0, 0, 3], []), sp (-5) [(1, 1)], sp 7 [(1, (-1))]], [(1081, [0, 0, 1, 2], [])])
theorem q_nzC1_ok : RlOk q_nzC1 := by
  intro fs zs h x hx
  obtain ⟨P0, h⟩ := snAll h
  replace P0 := s_bI8.mp P0
  obtain ⟨P1, h⟩ := snAll h
  replace P1 := s_wrI.mp P1
  obtain ⟨P2, h⟩ := snAll h
  replace P2 := sp_1.mp P2
  obtain ⟨P3, h⟩ := snAll h
  replace P3 := sp_1.mp P3
  have L : eNz3 ((nthZ zs 0)) ((nthZ zs 1)) ((nthZ zs 2)) := by
    apply M_nzC1 (N0 := nthZ zs 0) (N1 := nthZ zs 1) (N2 := nthZ zs 2) (N3 := nthZ zs 3) (N4 := nthZ zs 4) <;> first | assumption | omega
  rcases List.mem_cons.mp hx with hx | hx
  · rw [hx]; refine s_nz3.mpr ?_; exact L
  · cases hx
def q_nzC2 : qRl := ([(1080, [0, 3, 4, 2], []), (1021, [0, 0, 3], []), sp (-9) [(1, 1)]], [(1081, [0, 0, 1, 2], [])])
theorem q_nzC2_ok : RlOk q_nzC2 := by
  intro fs zs h x hx
  obtain ⟨P0, h⟩ := snAll h
  replace P0 := s_bI8.mp P0
  obtain ⟨P1, h⟩ := snAll h
  replace P1 := s_wrI.mp P1
  obtain ⟨P2, h⟩ := snAll h
  replace P2 := sp_1.mp P2
  have L : eNz3 ((nthZ zs 0)) ((nthZ zs 1)) ((nthZ zs 2)) := by
    apply M_nzC2 (N0 := nthZ zs 0) (N1 := nthZ zs 1) (N2 := nthZ zs 2) (N3 := nthZ zs 3) (N4 := nthZ zs 4) <;> first | assumption | omega
  rcases List.mem_cons.mp hx with hx | hx
  · rw [hx]; refine s_nz3.mpr ?_; exact L
  · cases hx
def q_nzU0 : qRl := ([(1081, [0, 0, 1, 2], []), sp (-1) [(0, 1)], sp 4294967295 [(0, (-1))], sp 255 [(0, (-1))], sp 0 [(2, (-1))]], [sp (-1) [(2, (-1))]])
theorem q_nzU0_ok : RlOk q_nzU0 := by
  intro fs zs h x hx
  obtain ⟨P0, h⟩ := snAll h
  replace P0 := s_nz3.mp P0
  obtain ⟨P1, h⟩ := snAll h
  replace P1 := sp_1.mp P1
  obtain ⟨P2, h⟩ := snAll h
  replace P2 := sp_1.mp P2
  obtain ⟨P3, h⟩ := snAll h
  replace P3 := sp_1.mp P3
  obtain ⟨P4, h⟩ := snAll h
  replace P4 := sp_1.mp P4
  have L : (nthZ zs 2) + 1 ≤ 0 := by
    apply M_nzU0 (N0 := nthZ zs 0) (N1 := nthZ zs 1) (N2 := nthZ zs 2) <;> first | assumption | omega
  rcases List.mem_cons.mp hx with hx | hx
  · rw [hx]; refine sp_1.mpr ?_; omega
  · cases hx
def q_nzU1 : qRl := ([(1081, [0, 0, 1, 2], []), sp (-1) [(0, 1)], sp 4294967295 [(0, (-1))], sp (-4) [(1, 1)], sp 4 [(1, (-1))], sp 0 [(2, (-1))]], [sp (-1) [(2, (-1))]])
theorem q_nzU1_ok : RlOk q_nzU1 := by
  intro fs zs h x hx
  obtain ⟨P0, h⟩ := snAll h
  replace P0 := s_nz3.mp P0
  obtain ⟨P1, h⟩ := snAll h
  replace P1 := sp_1.mp P1
  obtain ⟨P2, h⟩ := snAll h
  replace P2 := sp_1.mp P2
  obtain ⟨P3, h⟩ := snAll h
  replace P3 := sp_1.mp P3
  obtain ⟨P4, h⟩ := snAll h
  replace P4 := sp_1.mp P4
  obtain ⟨P5, h⟩ := snAll h
  replace P5 := sp_1.mp P5
  have L : (nthZ zs 2) + 1 ≤ 0 := by
    apply M_nzU1 (N0 := nthZ zs 0) (N1 := nthZ zs 1) (N2 := nthZ zs 2) <;> first | assumption | omega
  rcases List.mem_cons.mp hx with hx | hx
  · rw [hx]; refine sp_1.mpr ?_; omega
  · cases hx
def q_p2A : qRl := ([(1022, [0, 0, 1, 2], []), sp (-1) [(0, 1), (1, (-1))], sp 1 [(1, 1), (0, (-1))], sp 0 [(2, 1)], sp 0 [(2, (-1))], sp (-1) [(0, 1)], sp 4096 [(0, (-1))]], [(1092, [0, 0], [])])
theorem q_p2A_ok : RlOk q_p2A := by
  intro fs zs h x hx
  obtain ⟨P0, h⟩ := snAll h
  replace P0 := s_bJ0.mp P0
  obtain ⟨P1, h⟩ := snAll h
  replace P1 := sp_2.mp P1
  obtain ⟨P2, h⟩ := snAll h
  replace P2 := sp_2.mp P2
  obtain ⟨P3, h⟩ := snAll h
  replace P3 := sp_1.mp P3
  obtain ⟨P4, h⟩ := snAll h
  replace P4 := sp_1.mp P4
  obtain ⟨P5, h⟩ := snAll h
  replace P5 := sp_1.mp P5
  obtain ⟨P6, h⟩ := snAll h
  replace P6 := sp_1.mp P6
  have L : cPw2 ((nthZ zs 0)) := by
    apply M_p2A (N0 := nthZ zs 0) (N1 := nthZ zs 1) (N2 := nthZ zs 2) <;> first | assumption | omega
  rcases List.mem_cons.mp hx with hx | hx
  · rw [hx]; refine s_pw2.mpr ?_; exact L
  · cases hx
def q_alI : qRl := ([(1091, [0, 2, 6], []), (1093, [1, 0, 0, 1], []), sp 0 [(2, 1), (0, (-1))], sp (-1) [(1, 1), (2, (-1))], sp 0 [(3, 1), (2, (-7))], sp 0 [(3, (-1)), (2, 7)], (1, [0, 3, 4], []), sp (-2) [(4, 1)], sp 2 [(4, (-1))], sp (-5) [(5, 1), (2, (-7))], sp 5 [(5, (-1)), (2, 7)], (1, [0, 5, 7], []), (1025, [0, 8, 9, 10], []), sp 0 [(9, 1), (7, 1)], sp 0 [(9, (-1)), (7, (-1))], sp 1 [(8, 1), (7, (-1))]], [sp (-1) [(10, 1), (8, (-1)), (7, 1)]])
theorem q_alI_ok : RlOk q_alI := by
  intro fs zs h x hx
  obtain ⟨P0, h⟩ := snAll h
  replace P0 := s_us.mp P0
  obtain ⟨P1, h⟩ := snAll h
  replace P1 := s_algn.mp P1
  obtain ⟨P2, h⟩ := snAll h
  replace P2 := sp_2.mp P2
  obtain ⟨P3, h⟩ := snAll h
  replace P3 := sp_2.mp P3
  obtain ⟨P4a, h⟩ := snAll h
  replace P4a := sp_2.mp P4a
  obtain ⟨P4b, h⟩ := snAll h
  replace P4b := sp_2.mp P4b
  obtain ⟨P5, h⟩ := snAll h
  replace P5 := s_rd.mp P5
  obtain ⟨P6, h⟩ := snAll h
  replace P6 := sp_1.mp P6
  obtain ⟨P7, h⟩ := snAll h
  replace P7 := sp_1.mp P7
  obtain ⟨P8a, h⟩ := snAll h
  replace P8a := sp_2.mp P8a
  obtain ⟨P8b, h⟩ := snAll h
  replace P8b := sp_2.mp P8b
  obtain ⟨P9, h⟩ := snAll h
  replace P9 := s_rd.mp P9
  obtain ⟨P10, h⟩ := snAll h
  replace P10 := s_bI0.mp P10
  obtain ⟨P11, h⟩ := snAll h
  replace P11 := sp_2.mp P11
  obtain ⟨P12, h⟩ := snAll h
  replace P12 := sp_2.mp P12
  obtain ⟨P13, h⟩ := snAll h
  replace P13 := sp_2.mp P13
  have L : (nthZ zs 8) + 1 ≤ (nthZ zs 10) + (nthZ zs 7) := by
    apply M_alI (F0 := nthF fs 0) (N0 := nthZ zs 0) (N1 := nthZ zs 1) (N2 := nthZ zs 2) (N3 := nthZ zs 3) (N4 := nthZ zs 4) (N5 := nthZ zs 5) (N6 := nthZ zs 6) (N7 := nthZ zs 7) (N8 := nthZ zs 8) (N9 := nthZ zs 9) (N10 := nthZ zs 10) <;> first | assumption | omega
  rcases List.mem_cons.mp hx with hx | hx
  · rw [hx]; refine sp_3.mpr ?_; omega
  · cases hx
def q_dvE : qRl := ([(1110, [0, 0, 1, 2], []), (1110, [0, 3, 4, 5], []), sp 0 [(0, 1), (3, (-1))], sp 0 [(3, 1), (0, (-1))], sp 0 [(1, 1), (4, (-1))], sp 0 [(4, 1), (1, (-1))]], [sp 0 [(2, 1), (5, (-1))], sp 0 [(5, 1), (2, (-1))]])
theorem q_dvE_ok : RlOk q_dvE := by
  intro fs zs h x hx
  obtain ⟨P0, h⟩ := snAll h
  replace P0 := s_bI6.mp P0
  obtain ⟨P1, h⟩ := snAll h
  replace P1 := s_bI6.mp P1
  obtain ⟨P2, h⟩ := snAll h
  replace P2 := sp_2.mp P2
  obtain ⟨P3, h⟩ := snAll h
  replace P3 := sp_2.mp P3
  obtain ⟨P4, h⟩ := snAll h
  replace P4 := sp_2.mp P4
  obtain ⟨P5, h⟩ := snAll h
  replace P5 := sp_2.mp P5
  have L : ((nthZ zs 5) ≤ (nthZ zs 2)) ∧ ((nthZ zs 2) ≤ (nthZ zs 5)) := by
    apply M_dvE (N0 := nthZ zs 0) (N1 := nthZ zs 1) (N2 := nthZ zs 2) (N3 := nthZ zs 3) (N4 := nthZ zs 4) (N5 := nthZ zs 5) <;> first | assumption | omega
  obtain ⟨L0, L1⟩ := L
  rcases List.mem_cons.mp hx with hx | hx
  · rw [hx]; refine sp_2.mpr ?_; omega
  rcases List.mem_cons.mp hx with hx | hx
  · rw [hx]; refine sp_2.mpr ?_; omega
  · cases hx
def q_dvR : qRl := ([(1110, [0, 0, 1, 2], []), (1111, [0, 3, 4, 5], []), sp 0 [(0, 1), (3, (-1))], sp 0 [(3, 1), (0, (-1))], sp (-4) [(1, 1)], sp 4 [(1, (-1))], sp (-4) [(4, 1)], sp 4 [(4, (-1))], sp 0 [(0, 1)]], [sp 0 [(0, 1), (2, (-4)), (5, (-1))], sp 0 [(2, 4), (5, 1), (0, (-1))]])
theorem q_dvR_ok : RlOk q_dvR := by
  intro fs zs h x hx
  obtain ⟨P0, h⟩ := snAll h
  replace P0 := s_bI6.mp P0
  obtain ⟨P1, h⟩ := snAll h
  replace P1 := s_bI7.mp P1
  obtain ⟨P2, h⟩ := snAll h
  replace P2 := sp_2.mp P2
  obtain ⟨P3, h⟩ := snAll h
  replace P3 := sp_2.mp P3
  obtain ⟨P4, h⟩ := snAll h
  replace P4 := sp_1.mp P4
  obtain ⟨P5, h⟩ := snAll h
  replace P5 := sp_1.mp P5
  obtain ⟨P6, h⟩ := snAll h
  replace P6 := sp_1.mp P6
  obtain ⟨P7, h⟩ := snAll h
  replace P7 := sp_1.mp P7
  obtain ⟨P8, h⟩ := snAll h
  replace P8 := sp_1.mp P8
  have L : (4 * (nthZ zs 2) + (nthZ zs 5) ≤ (nthZ zs 0)) ∧ ((nthZ zs 0) ≤ 4 * (nthZ zs 2) + (nthZ zs 5)) := by
    apply M_dvR (N0 := nthZ zs 0) (N1 := nthZ zs 1) (N2 := nthZ zs 2) (N3 := nthZ zs 3) (N4 := nthZ zs 4) (N5 := nthZ zs 5) <;> first | assumption | omega
  obtain ⟨L0, L1⟩ := L
  rcases List.mem_cons.mp hx with hx | hx
  · rw [hx]; refine sp_3.mpr ?_; omega
  rcases List.mem_cons.mp hx with hx | hx
  · rw [hx]; refine sp_3.mpr ?_; omega
  · cases hx
def q_fpD : qRl := ([(1110, [0, 20, 21, 4], []), (1111, [0, 22, 23, 5], []), sp 0 [(20, 1), (22, (-1))], sp 0 [(22, 1), (20, (-1))], sp (-4) [(21, 1)], sp 4 [(21, (-1))], sp (-4) [(23, 1)], sp 4 [(23, (-1))], sp 0 [(20, 1)], (1109, [3, 0, 1, 2, 0, 1, 2, 3], []), sp (-4) [(1, 1)], sp (-1) [(0, 4), (20, (-1))], (1, [1, 20, 7], []), sp (-1) [(7, 1)], (1, [0, 20, 8], []), sp (-9) [(10, 1), (4, (-17)), (5, (-1))], sp 9 [(10, (-1)), (4, 17), (5, 1)], (1, [2, 10, 9], [])], [sp (-4194304) [(8, 1)], sp 0 [(3, 1), (8, (-1)), (9, (-1))]])
theorem q_fpD_ok : RlOk q_fpD := by
  intro fs zs h x hx
  obtain ⟨P0, h⟩ := snAll h
  replace P0 := s_bI6.mp P0
  obtain ⟨P1, h⟩ := snAll h
  replace P1 := s_bI7.mp P1
  obtain ⟨P2, h⟩ := snAll h
  replace P2 := sp_2.mp P2
  obtain ⟨P3, h⟩ := snAll h
  replace P3 := sp_2.mp P3
  obtain ⟨P4, h⟩ := snAll h
  replace P4 := sp_1.mp P4
  obtain ⟨P5, h⟩ := snAll h
  replace P5 := sp_1.mp P5
  obtain ⟨P6, h⟩ := snAll h
  replace P6 := sp_1.mp P6
  obtain ⟨P7, h⟩ := snAll h
  replace P7 := sp_1.mp P7
  obtain ⟨P8, h⟩ := snAll h
  replace P8 := sp_1.mp P8
  obtain ⟨P9, h⟩ := snAll h
  replace P9 := s_plc.mp P9
  obtain ⟨P10, h⟩ := snAll h
  replace P10 := sp_1.mp P10
  obtain ⟨P11, h⟩ := snAll h
  replace P11 := sp_2.mp P11
  obtain ⟨P12, h⟩ := snAll h
  replace P12 := s_rd.mp P12
  obtain ⟨P13, h⟩ := snAll h
  replace P13 := sp_1.mp P13
  obtain ⟨P14, h⟩ := snAll h
  replace P14 := s_rd.mp P14
  obtain ⟨P15a, h⟩ := snAll h
  replace P15a := sp_3.mp P15a
  obtain ⟨P15b, h⟩ := snAll h
  replace P15b := sp_3.mp P15b
  obtain ⟨P16, h⟩ := snAll h
  replace P16 := s_rd.mp P16
  have L : (4194304 ≤ (nthZ zs 8)) ∧ ((nthZ zs 8) + (nthZ zs 9) ≤ (nthZ zs 3)) := by
    apply M_fpD (F0 := nthF fs 0) (F1 := nthF fs 1) (F2 := nthF fs 2) (N0 := nthZ zs 0) (N1 := nthZ zs 1) (N2 := nthZ zs 2) (N3 := nthZ zs 3) (N4 := nthZ zs 4) (N5 := nthZ zs 5) (N6 := nthZ zs 6) (N7 := nthZ zs 7) (N8 := nthZ zs 8) (N9 := nthZ zs 9) (N10 := nthZ zs 10) (N11 := nthZ zs 11) (N12 := nthZ zs 12) (N13 := nthZ zs 13) (N14 := nthZ zs 14) (N15 := nthZ zs 15) (N16 := nthZ zs 16) (N17 := nthZ zs 17) (N18 := nthZ zs 18) (N19 := nthZ zs 19) (N20 := nthZ zs 20) (N21 := nthZ zs 21) (N22 := nthZ zs 22) (N23 := nthZ zs 23) <;> first | assumption | omega
  obtain ⟨L0, L1⟩ := L
  rcases List.mem_cons.mp hx with hx | hx
  · rw [hx]; refine sp_1.mpr ?_; omega
  rcases List.mem_cons.mp hx with hx | hx
  · rw [hx]; refine sp_3.mpr ?_; omega
  · cases hx
def q_frD : qRl := ([(1110, [0, 20, 21, 4], []), (1111, [0, 22, 23, 5], []), sp 0 [(20, 1), (22, (-1))], sp 0 [(22, 1), (20, (-1))], sp (-4) [(21, 1)], sp 4 [(21, (-1))], sp (-4) [(23, 1)], sp 4 [(23, (-1))], sp 0 [(20, 1)], (1103, [1, 0, 0], []), sp (-1) [(0, 4), (20, (-1))], sp 2 [(5, (-1))], sp (-5) [(3, 1), (4, (-17)), (5, (-1))], sp 5 [(3, (-1)), (4, 17), (5, 1)], (1, [0, 3, 8], []), sp (-4) [(10, 1), (3, (-1))], sp 4 [(10, (-1)), (3, 1)], (1, [0, 10, 6], [])], [sp 131072 [(8, (-1)), (6, (-1))]])
theorem q_frD_ok : RlOk q_frD := by
  intro fs zs h x hx
  obtain ⟨P0, h⟩ := snAll h
  replace P0 := s_bI6.mp P0
  obtain ⟨P1, h⟩ := snAll h
  replace P1 := s_bI7.mp P1
  obtain ⟨P2, h⟩ := snAll h
  replace P2 := sp_2.mp P2
  obtain ⟨P3, h⟩ := snAll h
  replace P3 := sp_2.mp P3
  obtain ⟨P4, h⟩ := snAll h
  replace P4 := sp_1.mp P4
  obtain ⟨P5, h⟩ := snAll h
  replace P5 := sp_1.mp P5
  obtain ⟨P6, h⟩ := snAll h
  replace P6 := sp_1.mp P6
  obtain ⟨P7, h⟩ := snAll h
  replace P7 := sp_1.mp P7
  obtain ⟨P8, h⟩ := snAll h
  replace P8 := sp_1.mp P8
  obtain ⟨P9, h⟩ := snAll h
  replace P9 := s_rsz.mp P9
  obtain ⟨P10, h⟩ := snAll h
  replace P10 := sp_2.mp P10
  obtain ⟨P11, h⟩ := snAll h
  replace P11 := sp_1.mp P11
  obtain ⟨P12a, h⟩ := snAll h
  replace P12a := sp_3.mp P12a
  obtain ⟨P12b, h⟩ := snAll h
  replace P12b := sp_3.mp P12b
  obtain ⟨P13, h⟩ := snAll h
  replace P13 := s_rd.mp P13
  obtain ⟨P14a, h⟩ := snAll h
  replace P14a := sp_2.mp P14a
  obtain ⟨P14b, h⟩ := snAll h
  replace P14b := sp_2.mp P14b
  obtain ⟨P15, h⟩ := snAll h
  replace P15 := s_rd.mp P15
  have L : (nthZ zs 8) + (nthZ zs 6) ≤ 131072 := by
    apply M_frD (F0 := nthF fs 0) (N0 := nthZ zs 0) (N1 := nthZ zs 1) (N2 := nthZ zs 2) (N3 := nthZ zs 3) (N4 := nthZ zs 4) (N5 := nthZ zs 5) (N6 := nthZ zs 6) (N7 := nthZ zs 7) (N8 := nthZ zs 8) (N9 := nthZ zs 9) (N10 := nthZ zs 10) (N11 := nthZ zs 11) (N12 := nthZ zs 12) (N13 := nthZ zs 13) (N14 := nthZ zs 14) (N15 := nthZ zs 15) (N16 := nthZ zs 16) (N17 := nthZ zs 17) (N18 := nthZ zs 18) (N19 := nthZ zs 19) (N20 := nthZ zs 20) (N21 := nthZ zs 21) (N22 := nthZ zs 22) (N23 := nthZ zs 23) <;> first | assumption | omega
  rcases List.mem_cons.mp hx with hx | hx
  · rw [hx]; refine sp_2.mpr ?_; omega
  · cases hx
