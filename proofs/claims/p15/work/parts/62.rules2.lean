/-! RULES OF INTS AND LONGS THAT 41 AND 42 LACK -/
theorem j_umod {p : Nat} (hp : p < 64) : (((Int32.ofInt (p : Int)).toInt64.toUInt64 &&& 63).toBitVec % 64).toNat = p := by
  revert p
  decide
theorem j_sar {a : Int} (ha : in64 a) {p : Nat} (hp : p < 64) : (Int64.ofInt a >>> ((Int32.ofInt (p : Int)).toInt64 &&& 63)).toInt = a / 2 ^ p := by
  show (Int64.ofInt a >>> ((Int32.ofInt (p : Int)).toInt64 &&& 63)).toBitVec.toInt = a / 2 ^ p
  rw [Int64.toBitVec_shiftRight, BitVec.sshiftRight_eq', j_smod hp, BitVec.toInt_sshiftRight]
  show (Int64.ofInt a).toInt >>> p = a / 2 ^ p
  rw [j_of ha, Int.shiftRight_eq_div_pow]
  norm_cast
theorem j_shl {a : Int} {p : Nat} (ha : 0 ≤ a) (hp : p < 64) (h2 : a * 2 ^ p ≤ 9223372036854775807) (h3 : a ≤ 9223372036854775807) : (Int64.ofInt a <<< ((Int32.ofInt (p : Int)).toInt64 &&& 63)).toInt = a * 2 ^ p := by
  obtain ⟨n, rfl⟩ := Int.eq_ofNat_of_zero_le ha
  have hpp : ((2 ^ p : Nat) : Int) = (2 : Int) ^ p := by rw [Int.natCast_pow]; rfl
  have h4 : n * 2 ^ p ≤ 9223372036854775807 := by
    rw [← hpp, ← Int.natCast_mul] at h2; omega
  have e1 : (Int64.ofInt (n : Int) <<< ((Int32.ofInt (p : Int)).toInt64 &&& 63)).toBitVec.toNat = n * 2 ^ p := by
    rw [Int64.toBitVec_shiftLeft]
    have e2 := j_smod hp
    have e3 : (Int64.ofInt (n : Int)).toBitVec.toNat = n := by
      have e4 := j_of (a := (n : Int)) ⟨by omega, by omega⟩
      have e5 := (j_nn (x := Int64.ofInt (n : Int)) (by omega)).1
      omega
    rw [BitVec.shiftLeft_eq', e2, BitVec.toNat_shiftLeft, e3, Nat.shiftLeft_eq, Nat.mod_eq_of_lt (by omega)]
  rw [j_lt (by omega), e1, ← hpp, ← Int.natCast_mul]
theorem j_shr {a : Int} (h0 : 0 ≤ a) (h3 : a ≤ 9223372036854775807) {p : Nat} (hp : p < 64) : ((Int64.ofInt a).toUInt64 >>> ((Int32.ofInt (p : Int)).toInt64.toUInt64 &&& 63)).toInt64.toInt = a / 2 ^ p := by
  obtain ⟨n, rfl⟩ := Int.eq_ofNat_of_zero_le h0
  have hpp : ((2 ^ p : Nat) : Int) = (2 : Int) ^ p := by rw [Int.natCast_pow]; rfl
  have e3 : (Int64.ofInt (n : Int)).toBitVec.toNat = n := by
    have e4 := j_of (a := (n : Int)) ⟨by omega, by omega⟩
    have e5 := (j_nn (x := Int64.ofInt (n : Int)) (by omega)).1
    omega
  have e1 : ((Int64.ofInt (n : Int)).toUInt64 >>> ((Int32.ofInt (p : Int)).toInt64.toUInt64 &&& 63)).toInt64.toBitVec.toNat = n / 2 ^ p := by
    show ((Int64.ofInt (n : Int)).toUInt64 >>> ((Int32.ofInt (p : Int)).toInt64.toUInt64 &&& 63)).toBitVec.toNat = n / 2 ^ p
    rw [UInt64.toBitVec_shiftRight, BitVec.ushiftRight_eq', j_umod hp, BitVec.toNat_ushiftRight, Nat.shiftRight_eq_div_pow]
    show (Int64.ofInt (n : Int)).toBitVec.toNat / 2 ^ p = n / 2 ^ p
    rw [e3]
  have h5 : n / 2 ^ p ≤ n := Nat.div_le_self _ _
  rw [j_lt (by omega), e1, ← hpp]
  norm_cast
theorem i_up12 {a : Int} (h0 : 0 ≤ a) (h1 : a ≤ 2147483647) : fI 0 a (-4096) = a / 4096 * 4096 := by
  obtain ⟨n, rfl⟩ := Int.eq_ofNat_of_zero_le h0
  have e4 := i_of (a := (n : Int)) ⟨by omega, by omega⟩
  obtain ⟨e5, e6⟩ := i_nn (x := Int32.ofInt (n : Int)) (by omega)
  have e7 : (Int32.ofInt (n : Int)).toBitVec.toNat = n := by omega
  have h3 : (Int32.ofInt (n : Int) &&& Int32.ofInt (-4096)).toBitVec.toNat = n / 4096 * 4096 := by
    rw [Int32.toBitVec_and, BitVec.toNat_and, e7]
    have q := n_up (n := n) (p := 12) (by omega) (by omega)
    rw [Nat.mul_comm] at q
    exact q
  show (Int32.ofInt (n : Int) &&& Int32.ofInt (-4096)).toInt = (n : Int) / 4096 * 4096
  rw [i_lt (by omega), h3]
  omega
theorem i_divneg {a b : Int} (ha : a ≤ 0) (ha2 : -2147483648 ≤ a) (hb : 1 ≤ b) (hb2 : b ≤ 2147483647) : (Int32.ofInt a / Int32.ofInt b).toInt ≤ 0 := by
  rw [Int32.toInt_div, i_of ⟨ha2, by omega⟩, i_of ⟨by omega, hb2⟩]
  have e : a.tdiv b = -((-a).tdiv b) := by rw [Int.neg_tdiv]; omega
  have e2 : (-a).tdiv b = (-a) / b := Int.tdiv_eq_ediv_of_nonneg (by omega)
  have p : 0 ≤ (-a) / b := Int.ediv_nonneg (by omega) (by omega)
  have q : (-a) / b ≤ -a := Int.ediv_le_self b (by omega)
  rw [e, e2]
  generalize (-a) / b = z at *
  unfold Int.bmod
  dsimp only
  omega
def ruI2 : qRt := fun f n p => match f, n with
  | 0, 7 => if 0 ≤ p then some ([(0, 1, 0), (4096, 0, 1), (-4096, 0, -1), (4096 * p + 4095, -1, 0)], (0, 4096 * p), [(0, 1, 0, -1), (4095, -1, 0, 1)]) else none
  | 6, 4 => some ([(0, -1, 0), (-1, 0, 1)], (-2147483648, 0), [])
  | _, _ => ruI f n p
theorem ruI2_ok {f n : Nat} {p : Int} {R : qRu} (h : ruI2 f n p = some R) {a b : Int} (ha : in32 a) (hb : in32 b) : RuOk (fI f) R a b := by
  unfold ruI2 at h
  split at h
  · split at h
    · obtain ⟨a1, a2⟩ := ha
      cases h
      intro hc
      simp only [List.mem_cons, List.not_mem_nil, or_false, forall_eq_or_imp, forall_eq] at hc ⊢
      have e : b = -4096 := by omega
      subst e
      rw [i_up12 (by omega) a2]
      omega
    · cases h
  · obtain ⟨a1, a2⟩ := ha
    obtain ⟨b1, b2⟩ := hb
    cases h
    intro hc
    simp only [List.mem_cons, List.not_mem_nil, or_false, forall_eq_or_imp, forall_eq] at hc
    have r := i_rng (Int32.ofInt a / Int32.ofInt b)
    exact ⟨r.1, i_divneg (by omega) a1 (by omega) b2, fun c hc => by cases hc⟩
  · exact ruI_ok h ha hb
theorem ruI2_RtI : RtI ruI2 := ⟨fun f n p R h a b ha hb hd => ruI2_ok h ha hb, fun f n p R h a ha => ruI2_ok h ha ⟨by omega, by omega⟩⟩
def ruJ2 : qRt := fun f n p => match f, n with
  | 3, 2 => if 0 ≤ p ∧ p < 63 then some ([(0, 1, 0), (0, 0, 1), (p, 0, -1), (9223372036854775807, -(pw p), 0)], (0, 9223372036854775807), [(0, -1, 0, 1), (0, pw p, 0, -1)]) else none
  | 4, 1 => if 0 ≤ p ∧ p < 64 then some ([(-p, 0, 1), (p, 0, -1)], (-9223372036854775808, 9223372036854775807), [(0, 1, 0, -(pw p)), (pw p - 1, -1, 0, pw p)]) else none
  | 4, 2 => if 0 ≤ p ∧ p < 64 then some ([(0, 1, 0), (-p, 0, 1), (p, 0, -1)], (0, 9223372036854775807), [(0, 1, 0, -(pw p)), (pw p - 1, -1, 0, pw p)]) else none
  | 5, 1 => if 0 ≤ p ∧ p < 64 then some ([(0, 1, 0), (-p, 0, 1), (p, 0, -1)], (0, 9223372036854775807), [(0, 1, 0, -(pw p)), (pw p - 1, -1, 0, pw p)]) else none
  | _, _ => ruJ f n p
theorem ruJ2_ok {f n : Nat} {p : Int} {R : qRu} (h : ruJ2 f n p = some R) {a b : Int} (ha : in64 a) (hb : in64 b) : RuOk (fJ f) R a b := by
  have hpp := pw_pos p
  have hpe := pw_eq p
  unfold ruJ2 at h
  split at h
  · split at h
    · obtain ⟨a1, a2⟩ := ha
      cases h
      rename_i hp
      intro hc
      simp only [List.mem_cons, List.not_mem_nil, or_false, forall_eq_or_imp, forall_eq] at hc ⊢
      have hb0 : 0 ≤ b := by omega
      have m1 := Int.neg_mul (pw p) a
      have hpow : (2 : Int) ^ b.toNat ≤ pw p := by
        rw [hpe]
        have hle : b.toNat ≤ p.toNat := by omega
        have := Nat.pow_le_pow_right (n := 2) (by omega) hle
        exact_mod_cast this
      have hpos : 1 ≤ (2 : Int) ^ b.toNat := by have := pw_pos b; rw [pw_eq] at this; exact this
      have m2 := Int.mul_le_mul_of_nonneg_left (c := a) hpow (by omega)
      have m3 := Int.mul_le_mul_of_nonneg_left (c := a) hpos (by omega)
      have m4 := Int.mul_comm (pw p) a
      have q := j_shl (a := a) (p := b.toNat) (by omega) (by omega) (by omega) (by omega)
      rw [Int.toNat_of_nonneg hb0] at q
      have e2 : fJ 3 a b = a * 2 ^ b.toNat := q
      have m5 := Int.neg_mul (1 : Int) a
      omega
    · cases h
  · split at h
    · rename_i hp
      have ha' := ha
      obtain ⟨a1, a2⟩ := ha
      cases h
      intro hc
      simp only [List.mem_cons, List.not_mem_nil, or_false, forall_eq_or_imp, forall_eq] at hc ⊢
      have e : b = p := by omega
      subst e
      have q := j_sar ha' (p := b.toNat) (by omega)
      rw [Int.toNat_of_nonneg hp.1, ← hpe] at q
      have r := j_rng (Int64.ofInt a >>> ((Int32.ofInt b).toInt64 &&& 63))
      have m1 := Int.mul_ediv_self_le (x := a) (k := pw b) (by omega)
      have m2 := Int.lt_mul_ediv_self_add (x := a) (k := pw b) (by omega)
      have e2 : fJ 4 a b = a / pw b := q
      rw [e2, Int.neg_mul]
      rw [q] at r
      omega
    · cases h
  · split at h
    · rename_i hp
      have ha' := ha
      obtain ⟨a1, a2⟩ := ha
      cases h
      intro hc
      simp only [List.mem_cons, List.not_mem_nil, or_false, forall_eq_or_imp, forall_eq] at hc ⊢
      have e : b = p := by omega
      subst e
      have q := j_sar ha' (p := b.toNat) (by omega)
      rw [Int.toNat_of_nonneg hp.1, ← hpe] at q
      have r := j_rng (Int64.ofInt a >>> ((Int32.ofInt b).toInt64 &&& 63))
      have m1 := Int.mul_ediv_self_le (x := a) (k := pw b) (by omega)
      have m2 := Int.lt_mul_ediv_self_add (x := a) (k := pw b) (by omega)
      have e2 : fJ 4 a b = a / pw b := q
      have m0 := Int.ediv_nonneg (a := a) (b := pw b) (by omega) (by omega)
      rw [e2, Int.neg_mul]
      rw [q] at r
      omega
    · cases h
  · split at h
    · rename_i hp
      have ha' := ha
      obtain ⟨a1, a2⟩ := ha
      cases h
      intro hc
      simp only [List.mem_cons, List.not_mem_nil, or_false, forall_eq_or_imp, forall_eq] at hc ⊢
      have e : b = p := by omega
      subst e
      have q := j_shr (a := a) (by omega) a2 (p := b.toNat) (by omega)
      rw [Int.toNat_of_nonneg hp.1, ← hpe] at q
      have r := j_rng ((Int64.ofInt a).toUInt64 >>> ((Int32.ofInt b).toInt64.toUInt64 &&& 63)).toInt64
      have m1 := Int.mul_ediv_self_le (x := a) (k := pw b) (by omega)
      have m2 := Int.lt_mul_ediv_self_add (x := a) (k := pw b) (by omega)
      have e2 : fJ 5 a b = a / pw b := q
      have m0 := Int.ediv_nonneg (a := a) (b := pw b) (by omega) (by omega)
      rw [e2, Int.neg_mul]
      rw [q] at r
      omega
    · cases h
  · exact ruJ_ok h ha hb
theorem ruJ2_RtJ : RtJ ruJ2 := fun f n p R h a b ha hb hd => ruJ2_ok h ha hb
