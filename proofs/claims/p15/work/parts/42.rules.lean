/-! THE RULES OF LONGS -/
def ruJ : qRt := fun f n p => match f, n with
  | 0, 1 => some ([(0, 0, 1)], (0, 9223372036854775807), [(0, 0, 1, -1)])
  | 0, 2 => some ([(0, 1, 0)], (0, 9223372036854775807), [(0, 1, 0, -1)])
  | 0, 3 => some ([(0, 1, 0), (0, 0, 1)], (0, 9223372036854775807), [(0, 1, 0, -1), (0, 0, 1, -1)])
  | 0, 4 => some ([(0, 1, 0), (pw p - 1, -1, 0), (1 - pw p, 0, 1), (pw p - 1, 0, -1)], (0, 9223372036854775807), [(0, 1, 0, -1), (0, -1, 0, 1)])
  | 1, 1 => some ([(0, 1, 0), (0, 0, 1)], (0, 9223372036854775807), [(0, -1, 0, 1), (0, 0, -1, 1)])
  | 1, 2 => some ([(0, 1, 0), (0, 0, 1), (pw p - 1, -1, 0), (pw p - 1, 0, -1)], (0, pw p - 1), [(0, -1, 0, 1), (0, 0, -1, 1)])
  | 10, 0 => some ([], (-9223372036854775808, 9223372036854775807), [(0, 1, 0, -1), (0, 0, 1, -1)])
  | 10, 1 => some ([(0, -1, 1)], (-9223372036854775808, 9223372036854775807), [(0, 1, 0, -1), (0, -1, 0, 1)])
  | 10, 2 => some ([(0, 1, -1)], (-9223372036854775808, 9223372036854775807), [(0, 0, 1, -1), (0, 0, -1, 1)])
  | 11, 0 => some ([], (-9223372036854775808, 9223372036854775807), [(0, -1, 0, 1), (0, 0, -1, 1)])
  | 11, 1 => some ([(0, 1, -1)], (-9223372036854775808, 9223372036854775807), [(0, 1, 0, -1), (0, -1, 0, 1)])
  | 11, 2 => some ([(0, -1, 1)], (-9223372036854775808, 9223372036854775807), [(0, 0, 1, -1), (0, 0, -1, 1)])
  | 0, 0 | 1, 0 | 2, 0 | 3, 0 | 4, 0 | 5, 0 | 6, 0 | 7, 0 => some ([], (-9223372036854775808, 9223372036854775807), [])
  | _, _ => none
theorem ruJ_ok {f n : Nat} {p : Int} {R : qRu} (h : ruJ f n p = some R) {a b : Int} (ha : in64 a) (hb : in64 b) : RuOk (fJ f) R a b := by
  have ea := j_of ha
  have eb := j_of hb
  have hpp := pw_pos p
  have hpe := pw_eq p
  obtain ⟨a1, a2⟩ := ha
  obtain ⟨b1, b2⟩ := hb
  unfold ruJ at h
  split at h
  all_goals first
    | (cases h; done)
    | skip
  all_goals first
    | (cases h; intro hc; simp only [List.mem_cons, List.not_mem_nil, or_false, forall_eq_or_imp, forall_eq, false_imp_iff, forall_const, implies_true, and_true] at hc ⊢)
    | skip
  · have q := j_and (x := Int64.ofInt a) (y := Int64.ofInt b) (by omega)
    have r := j_rng (Int64.ofInt a &&& Int64.ofInt b)
    simp only [fJ]; omega
  · have q := j_and' (x := Int64.ofInt a) (y := Int64.ofInt b) (by omega)
    have r := j_rng (Int64.ofInt a &&& Int64.ofInt b)
    simp only [fJ]; omega
  · have q := j_and (x := Int64.ofInt a) (y := Int64.ofInt b) (by omega)
    have q' := j_and' (x := Int64.ofInt a) (y := Int64.ofInt b) (by omega)
    have r := j_rng (Int64.ofInt a &&& Int64.ofInt b)
    simp only [fJ]; omega
  · have q := j_mask (x := Int64.ofInt a) (y := Int64.ofInt b) (p := p.toNat) (by omega) (by omega) (by omega)
    simp only [fJ]; omega
  · have q := j_or (x := Int64.ofInt a) (y := Int64.ofInt b) (by omega) (by omega)
    have r := j_rng (Int64.ofInt a ||| Int64.ofInt b)
    simp only [fJ]; omega
  · have q := j_or (x := Int64.ofInt a) (y := Int64.ofInt b) (by omega) (by omega)
    have q2 := q.2.2 p.toNat (by omega) (by omega)
    simp only [fJ]; omega
  · simp only [fJ]; omega
  · simp only [fJ]; omega
  · simp only [fJ]; omega
  · simp only [fJ]; omega
  · simp only [fJ]; omega
  · simp only [fJ]; omega
  all_goals first
    | exact ⟨(j_rng _).1, (j_rng _).2⟩
    | exact ⟨(j_rng _).1, (j_rng _).2, trivial⟩
    | skip
theorem ruJ_RtJ : RtJ ruJ := fun f n p R h a b ha hb hd => ruJ_ok h ha hb
