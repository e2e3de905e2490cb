/-! THE RULES OF INTS -/
def pw (p : Int) : Int := ((2 ^ p.toNat : Nat) : Int)
theorem pw_pos (p : Int) : 1 ≤ pw p := by
  have := Nat.two_pow_pos p.toNat
  unfold pw; omega
theorem pw_eq (p : Int) : pw p = (2 : Int) ^ p.toNat := by unfold pw; rw [Int.natCast_pow]; rfl
theorem ofI_n (n : Nat) : Int32.ofInt (n : Int) = nI n := Int32.ofInt_eq_ofNat
theorem ofJ_n (n : Nat) : Int64.ofInt (n : Int) = lN n := Int64.ofInt_eq_ofNat
theorem i_rng (x : Int32) : -2147483648 ≤ x.toInt ∧ x.toInt ≤ 2147483647 := by
  have h1 := Int32.le_toInt x
  have h2 := Int32.toInt_lt x
  exact ⟨by omega, by omega⟩
theorem j_rng (x : Int64) : -9223372036854775808 ≤ x.toInt ∧ x.toInt ≤ 9223372036854775807 := by
  have h1 := Int64.le_toInt x
  have h2 := Int64.toInt_lt x
  exact ⟨by omega, by omega⟩
theorem i_div {a b : Int} (ha : 0 ≤ a) (ha2 : a ≤ 2147483647) (hb : 1 ≤ b) (hb2 : b ≤ 2147483647) : (Int32.ofInt a / Int32.ofInt b).toInt = a / b ∧ (Int32.ofInt a - Int32.ofInt a / Int32.ofInt b * Int32.ofInt b).toInt = a % b := by
  obtain ⟨m, rfl⟩ := Int.eq_ofNat_of_zero_le ha
  obtain ⟨n, rfl⟩ := Int.eq_ofNat_of_zero_le (show 0 ≤ b by omega)
  rw [ofI_n, ofI_n, pk_rem (by omega) (by omega) (by omega), pk_div (by omega) (by omega) (by omega), nI_toInt (Nat.lt_of_le_of_lt (Nat.div_le_self _ _) (by omega)), nI_toInt (Nat.lt_of_le_of_lt (Nat.mod_le _ _) (by omega))]
  exact ⟨by norm_cast, by norm_cast⟩
def ruI : qRt := fun f n p => match f, n with
  | 0, 1 => some ([(0, 0, 1)], (0, 2147483647), [(0, 0, 1, -1)])
  | 0, 2 => some ([(0, 1, 0)], (0, 2147483647), [(0, 1, 0, -1)])
  | 0, 3 => some ([(0, 1, 0), (0, 0, 1)], (0, 2147483647), [(0, 1, 0, -1), (0, 0, 1, -1)])
  | 0, 4 => some ([(0, 1, 0), (pw p - 1, -1, 0), (1 - pw p, 0, 1), (pw p - 1, 0, -1)], (0, 2147483647), [(0, 1, 0, -1), (0, -1, 0, 1)])
  | 0, 5 => some ([(0, 1, 0), (1, -1, 0), (0, 0, 1), (1, 0, -1)], (0, 1), [(0, 1, 0, -1), (0, 0, 1, -1), (1, -1, -1, 1)])
  | 0, 6 => if 0 ≤ p ∧ p < 31 then some ([(0, 1, 0), (pw p, 0, 1), (-(pw p), 0, -1)], (0, 2147483647), [(0, 1, 0, -1), (pw p - 1, -1, 0, 1)]) else none
  | 1, 1 => some ([(0, 1, 0), (0, 0, 1)], (0, 2147483647), [(0, -1, 0, 1), (0, 0, -1, 1)])
  | 1, 2 => some ([(0, 1, 0), (0, 0, 1), (pw p - 1, -1, 0), (pw p - 1, 0, -1)], (0, pw p - 1), [(0, -1, 0, 1), (0, 0, -1, 1)])
  | 2, 1 => some ([(0, 1, 0), (0, 0, 1), (pw p - 1, -1, 0), (pw p - 1, 0, -1)], (0, pw p - 1), [])
  | 3, 1 => if 0 ≤ p ∧ p < 31 then some ([(0, 1, 0), (2147483647, -(pw p), 0), (-p, 0, 1), (p, 0, -1)], (0, 2147483647), [(0, pw p, 0, -1), (0, -(pw p), 0, 1)]) else none
  | 3, 2 => if 0 ≤ p ∧ p < 31 then some ([(0, 1, 0), (0, 0, 1), (p, 0, -1), (2147483647, -(pw p), 0)], (0, 2147483647), [(0, -1, 0, 1), (0, pw p, 0, -1)]) else none
  | 4, 1 => if 0 ≤ p ∧ p < 32 then some ([(-p, 0, 1), (p, 0, -1)], (-2147483648, 2147483647), [(0, 1, 0, -(pw p)), (pw p - 1, -1, 0, pw p)]) else none
  | 4, 2 => if 0 ≤ p ∧ p < 32 then some ([(0, 1, 0), (-p, 0, 1), (p, 0, -1)], (0, 2147483647), [(0, 1, 0, -(pw p)), (pw p - 1, -1, 0, pw p)]) else none
  | 6, 1 => some ([(0, 1, 0), (-1, 0, 1), (-p, 0, 1), (p, 0, -1)], (0, 2147483647), [(0, 1, 0, -p), (p - 1, -1, 0, p)])
  | 6, 2 => some ([(0, 1, 0), (-1, 0, 1)], (0, 2147483647), [(0, 1, 0, -1)])
  | 6, 3 => some ([(0, 1, 0), (-1, 0, 1), (-1, -1, p)], (0, p - 1), [])
  | 7, 1 => some ([(0, 1, 0), (-1, 0, 1)], (0, 2147483647), [(0, 1, 0, -1), (-1, 0, 1, -1)])
  | 8, 0 => some ([], (-128, 127), [])
  | 8, 1 => some ([(128, 1, 0), (127, -1, 0)], (-128, 127), [(0, 1, 0, -1), (0, -1, 0, 1)])
  | 9, 0 => some ([], (-32768, 32767), [])
  | 9, 1 => some ([(32768, 1, 0), (32767, -1, 0)], (-32768, 32767), [(0, 1, 0, -1), (0, -1, 0, 1)])
  | 10, 0 => some ([], (-2147483648, 2147483647), [(0, 1, 0, -1), (0, 0, 1, -1)])
  | 10, 1 => some ([(0, -1, 1)], (-2147483648, 2147483647), [(0, 1, 0, -1), (0, -1, 0, 1)])
  | 10, 2 => some ([(0, 1, -1)], (-2147483648, 2147483647), [(0, 0, 1, -1), (0, 0, -1, 1)])
  | 10, 3 => some ([(0, 1, 0), (0, 0, 1)], (0, 2147483647), [(0, 1, 0, -1), (0, 0, 1, -1)])
  | 10, 4 => some ([(-p, 1, 0), (-p, 0, 1)], (-2147483648, 2147483647), [(0, 1, 0, -1), (0, 0, 1, -1), (-p, 0, 0, 1)])
  | 11, 0 => some ([], (-2147483648, 2147483647), [(0, -1, 0, 1), (0, 0, -1, 1)])
  | 11, 1 => some ([(0, 1, -1)], (-2147483648, 2147483647), [(0, 1, 0, -1), (0, -1, 0, 1)])
  | 11, 2 => some ([(0, -1, 1)], (-2147483648, 2147483647), [(0, 0, 1, -1), (0, 0, -1, 1)])
  | 11, 3 => some ([(p, -1, 0), (p, 0, -1)], (-2147483648, 2147483647), [(0, -1, 0, 1), (0, 0, -1, 1), (p, 0, 0, -1)])
  | 0, 0 | 1, 0 | 2, 0 | 3, 0 | 4, 0 | 5, 0 | 6, 0 | 7, 0 => some ([], (-2147483648, 2147483647), [])
  | _, _ => none
theorem c_all {l : List (Int × (Int × Int))} {a b : Int} (h : ∀ c ∈ l, 0 ≤ c.1 + c.2.1 * a + c.2.2 * b) {x : Int × (Int × Int)} (hx : x ∈ l) : 0 ≤ x.1 + x.2.1 * a + x.2.2 * b := h x hx
theorem ruI_ok {f n : Nat} {p : Int} {R : qRu} (h : ruI f n p = some R) {a b : Int} (ha : in32 a) (hb : in32 b) : RuOk (fI f) R a b := by
  have ea := i_of ha
  have eb := i_of hb
  have hpp := pw_pos p
  have hpe := pw_eq p
  obtain ⟨a1, a2⟩ := ha
  obtain ⟨b1, b2⟩ := hb
  unfold ruI at h
  split at h
  all_goals first
    | (cases h; done)
    | skip
  all_goals first
    | (cases h; intro hc; simp only [List.mem_cons, List.not_mem_nil, or_false, forall_eq_or_imp, forall_eq, false_imp_iff, forall_const, implies_true, and_true] at hc ⊢)
    | skip
  · have q := i_and (x := Int32.ofInt a) (y := Int32.ofInt b) (by omega)
    have r := i_rng (Int32.ofInt a &&& Int32.ofInt b)
    simp only [fI]; omega
  · have q := i_and' (x := Int32.ofInt a) (y := Int32.ofInt b) (by omega)
    have r := i_rng (Int32.ofInt a &&& Int32.ofInt b)
    simp only [fI]; omega
  · have q := i_and (x := Int32.ofInt a) (y := Int32.ofInt b) (by omega)
    have q' := i_and' (x := Int32.ofInt a) (y := Int32.ofInt b) (by omega)
    have r := i_rng (Int32.ofInt a &&& Int32.ofInt b)
    simp only [fI]; omega
  · have q := i_mask (x := Int32.ofInt a) (y := Int32.ofInt b) (p := p.toNat) (by omega) (by omega) (by omega)
    simp only [fI]; omega
  · have q := i_and (x := Int32.ofInt a) (y := Int32.ofInt b) (by omega)
    have q' := i_and' (x := Int32.ofInt a) (y := Int32.ofInt b) (by omega)
    have e1 : a = 0 ∨ a = 1 := by omega
    have e2 : b = 0 ∨ b = 1 := by omega
    have e3 : a = 1 → b = 1 → (Int32.ofInt a &&& Int32.ofInt b).toInt = 1 := by rintro rfl rfl; rfl
    simp only [fI]; omega
  · split at h
    · rename_i hp
      cases h
      intro hc
      simp only [List.mem_cons, List.not_mem_nil, or_false, forall_eq_or_imp, forall_eq] at hc ⊢
      have q := i_up (x := Int32.ofInt a) (y := Int32.ofInt b) (p := p.toNat) (by omega) (by omega) (by omega)
      simp only [fI]; omega
    · cases h
  · have q := i_or (x := Int32.ofInt a) (y := Int32.ofInt b) (by omega) (by omega)
    have r := i_rng (Int32.ofInt a ||| Int32.ofInt b)
    simp only [fI]; omega
  · have q := i_or (x := Int32.ofInt a) (y := Int32.ofInt b) (by omega) (by omega)
    have q2 := q.2.2 p.toNat (by omega) (by omega)
    simp only [fI]; omega
  · have q := i_xor (x := Int32.ofInt a) (y := Int32.ofInt b) (by omega) (by omega)
    have q2 := q.2 p.toNat (by omega) (by omega)
    simp only [fI]; omega
  · split at h
    · rename_i hp
      cases h
      intro hc
      simp only [List.mem_cons, List.not_mem_nil, or_false, forall_eq_or_imp, forall_eq] at hc ⊢
      have e : b = p := by omega
      subst e
      have m1 := Int.mul_comm (pw b) a
      have m3 := Int.neg_mul (pw b) a
      have q := i_shl (a := a) (p := b.toNat) (by omega) (by omega) (by rw [← hpe]; omega) (by omega)
      rw [Int.toNat_of_nonneg hp.1, ← hpe] at q
      have e2 : fI 3 a b = a * pw b := q
      have m2 := Int.mul_nonneg (a := a) (b := pw b) (by omega) (by omega)
      omega
    · cases h
  · split at h
    · rename_i hp
      cases h
      intro hc
      simp only [List.mem_cons, List.not_mem_nil, or_false, forall_eq_or_imp, forall_eq] at hc ⊢
      have hb0 : 0 ≤ b := by omega
      have m1 := Int.neg_mul (pw p) a
      have hpow : (2 : Int) ^ b.toNat ≤ pw p := by
        rw [hpe]
        have hle : b.toNat ≤ p.toNat := by omega
        have := Nat.pow_le_pow_right (n := 2) (by omega) hle
        exact_mod_cast this
      have hpos : 1 ≤ (2 : Int) ^ b.toNat := by have := pw_pos b; rw [pw_eq] at this; exact this
      have m2 := Int.mul_le_mul_of_nonneg_left (c := a) hpow (by omega)
      have m3 := Int.mul_le_mul_of_nonneg_left (c := a) hpos (by omega)
      have m4 := Int.mul_comm (pw p) a
      have q := i_shl (a := a) (p := b.toNat) (by omega) (by omega) (by omega) (by omega)
      rw [Int.toNat_of_nonneg hb0] at q
      have e2 : fI 3 a b = a * 2 ^ b.toNat := q
      have m5 := Int.neg_mul (1 : Int) a
      omega
    · cases h
  · split at h
    · rename_i hp
      cases h
      intro hc
      simp only [List.mem_cons, List.not_mem_nil, or_false, forall_eq_or_imp, forall_eq] at hc ⊢
      have e : b = p := by omega
      subst e
      have q := i_shr ⟨a1, a2⟩ (p := b.toNat) (by omega)
      rw [Int.toNat_of_nonneg hp.1, ← hpe] at q
      have r := i_rng (Int32.ofInt a >>> (Int32.ofInt b &&& 31))
      have m1 := Int.mul_ediv_self_le (x := a) (k := pw b) (by omega)
      have m2 := Int.lt_mul_ediv_self_add (x := a) (k := pw b) (by omega)
      have e2 : fI 4 a b = a / pw b := q
      rw [e2, Int.neg_mul]
      rw [q] at r
      omega
    · cases h
  · split at h
    · rename_i hp
      cases h
      intro hc
      simp only [List.mem_cons, List.not_mem_nil, or_false, forall_eq_or_imp, forall_eq] at hc ⊢
      have e : b = p := by omega
      subst e
      have q := i_shr ⟨a1, a2⟩ (p := b.toNat) (by omega)
      rw [Int.toNat_of_nonneg hp.1, ← hpe] at q
      have r := i_rng (Int32.ofInt a >>> (Int32.ofInt b &&& 31))
      have m1 := Int.mul_ediv_self_le (x := a) (k := pw b) (by omega)
      have m2 := Int.lt_mul_ediv_self_add (x := a) (k := pw b) (by omega)
      have e2 : fI 4 a b = a / pw b := q
      have m0 := Int.ediv_nonneg (a := a) (b := pw b) (by omega) (by omega)
      rw [e2, Int.neg_mul]
      rw [q] at r
      omega
    · cases h
  · have e : b = p := by omega
    subst e
    obtain ⟨q, -⟩ := i_div (a := a) (b := b) (by omega) (by omega) (by omega) (by omega)
    have m0 := Int.ediv_nonneg (a := a) (b := b) (by omega) (by omega)
    have m1 := Int.mul_ediv_self_le (x := a) (k := b) (by omega)
    have m2 := Int.lt_mul_ediv_self_add (x := a) (k := b) (by omega)
    have r := i_rng (Int32.ofInt a / Int32.ofInt b)
    have e2 : fI 6 a b = a / b := q
    rw [e2, Int.neg_mul]
    rw [q] at r
    omega
  · obtain ⟨q, -⟩ := i_div (a := a) (b := b) (by omega) (by omega) (by omega) (by omega)
    have m0 := Int.ediv_nonneg (a := a) (b := b) (by omega) (by omega)
    have m1 := Int.ediv_le_self (a := a) b (by omega)
    have e2 : fI 6 a b = a / b := q
    rw [e2]
    omega
  · obtain ⟨q, -⟩ := i_div (a := a) (b := b) (by omega) (by omega) (by omega) (by omega)
    have m0 := Int.ediv_nonneg (a := a) (b := b) (by omega) (by omega)
    have m1 : a / b < p := Int.ediv_lt_of_lt_mul (by omega) (by omega)
    have e2 : fI 6 a b = a / b := q
    rw [e2]
    omega
  · obtain ⟨-, q⟩ := i_div (a := a) (b := b) (by omega) (by omega) (by omega) (by omega)
    have m0 := Int.emod_nonneg a (b := b) (by omega)
    have m1 := Int.emod_lt_of_pos a (b := b) (by omega)
    have m2 : a % b ≤ a := by
      have := Int.ediv_nonneg (a := a) (b := b) (by omega) (by omega)
      have h1 := Int.mul_ediv_add_emod a b
      have h2 := Int.mul_nonneg (a := b) (b := a / b) (by omega) this
      omega
    have e2 : fI 7 a b = a % b := q
    rw [e2]
    omega
  · have q := Int8.le_toInt (Int32.ofInt a).toInt8
    have q2 := Int8.toInt_lt (Int32.ofInt a).toInt8
    simp only [fI, Int8.toInt_toInt32]
    omega
  · have q : (Int32.ofInt a).toInt8.toInt32.toInt = a := by
      rw [Int8.toInt_toInt32, Int32.toInt_toInt8, ea, show (2 ^ 8 : Nat) = 256 from rfl]
      unfold Int.bmod
      dsimp only
      omega
    simp only [fI, q]
    omega
  · have q := Int16.le_toInt (Int32.ofInt a).toInt16
    have q2 := Int16.toInt_lt (Int32.ofInt a).toInt16
    simp only [fI, Int16.toInt_toInt32]
    omega
  · have q : (Int32.ofInt a).toInt16.toInt32.toInt = a := by
      rw [Int16.toInt_toInt32, Int32.toInt_toInt16, ea, show (2 ^ 16 : Nat) = 65536 from rfl]
      unfold Int.bmod
      dsimp only
      omega
    simp only [fI, q]
    omega
  · simp only [fI]; omega
  · simp only [fI]; omega
  · simp only [fI]; omega
  · simp only [fI]; omega
  · simp only [fI]; omega
  · simp only [fI]; omega
  · simp only [fI]; omega
  · simp only [fI]; omega
  · simp only [fI]; omega
  all_goals first
    | exact ⟨(i_rng _).1, (i_rng _).2⟩
    | exact ⟨(i_rng _).1, (i_rng _).2, trivial⟩
    | skip
theorem ruI_RtI : RtI ruI := ⟨fun f n p R h a b ha hb hd => ruI_ok h ha hb, fun f n p R h a ha => ruI_ok h ha ⟨by omega, by omega⟩⟩
