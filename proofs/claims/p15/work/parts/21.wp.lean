/-! WHAT AN INSTRUCTION NEEDS: its weakest precondition over locals, stack and store.
A value: (0, z) an int (z up to 2^32), (1, z) a long (up to 2^64), (2, z) a reference's number.
A store: block b's place i holds s b i; a field is a block of one place. -/
def Typed (g : qG) (s : qSg) : Prop := ∀ (b : Nat) (x : qBI), g[b]? = some x → ∀ i : Int, 0 ≤ i → i < x.2.1 * x.2.2.1 → ∃ c : Int × Int, colAt x.2.2.2.2 i = some c ∧ c.1 ≤ s b i ∧ s b i ≤ c.2
/-- what holds of the store all the time: types; what isn't among md is as at the start -/
def qJ (g : qG) (md : List Nat) (se : qSg) (s : qSg) : Prop := Typed g s ∧ ∀ b : Nat, ¬ b ∈ md → s b = se b
/-- what else may be said of arrays' contents: by number -/
def PQ (p : Nat) (fs : List (Int → Int)) (zs : List Int) : Prop := match fTab[p]? with
  | some φ => fOk φ fs zs
  | none => cPQ p fs zs
/-- what instruction d needs so that P holds behind it -/
def wD (g : qG) (d : qD) (P : qP) : qP := fun ls st s => match d.1 with
  | 0 => P ls ((0, d.2.1) :: st) s
  | 1 => P ls ((1, d.2.1) :: st) s
  | 2 => P ls ((2, d.2.1) :: st) s
  | 3 => ∃ v : qV, (d.2.1.toNat, v) ∈ ls ∧ v.1 = d.2.2.1.toNat ∧ P ls (v :: st) s
  | 4 => ∃ (v : qV) (st' : List qV), st = v :: st' ∧ v.1 = d.2.2.1.toNat ∧ P (lsSet d.2.1.toNat v ls) st' s
  | 5 => ∃ z : Int, (d.2.1.toNat, ((0, z) : qV)) ∈ ls ∧ P (lsSet d.2.1.toNat (0, z + d.2.2.1) ls) st s
  -- pop, dup, dup_x1, dup_x2 over two ints, dup_x2 over a long, dup2 of a long, dup2 of two, dup2_x1 of a long over an int
  | 6 => ∃ (v : qV) (st' : List qV), st = v :: st' ∧ v.1 ≠ 1 ∧ P ls st' s
  | 7 => ∃ (v : qV) (st' : List qV), st = v :: st' ∧ v.1 ≠ 1 ∧ P ls (v :: v :: st') s
  | 8 => ∃ (a b : qV) (st' : List qV), st = a :: b :: st' ∧ a.1 ≠ 1 ∧ b.1 ≠ 1 ∧ P ls (a :: b :: a :: st') s
  | 9 => ∃ (a b c : qV) (st' : List qV), st = a :: b :: c :: st' ∧ a.1 ≠ 1 ∧ b.1 ≠ 1 ∧ c.1 ≠ 1 ∧ P ls (a :: b :: c :: a :: st') s
  | 10 => ∃ (v : qV) (st' : List qV), st = v :: st' ∧ v.1 = 1 ∧ P ls (v :: v :: st') s
  | 11 => ∃ (a b : qV) (st' : List qV), st = a :: b :: st' ∧ a.1 ≠ 1 ∧ b.1 ≠ 1 ∧ P ls (a :: b :: a :: b :: st') s
  | 12 => ∃ (a b : qV) (st' : List qV), st = a :: b :: st' ∧ a.1 = 1 ∧ b.1 ≠ 1 ∧ P ls (a :: b :: a :: st') s
  | 13 => ∃ (v : qV) (st' : List qV), st = v :: st' ∧ v.1 = 1 ∧ P ls st' s
  -- sums: tag in d.2.1
  | 14 => ∃ (a b : Int) (st' : List qV), st = (d.2.1.toNat, b) :: (d.2.1.toNat, a) :: st' ∧ P ls ((d.2.1.toNat, a + b) :: st') s
  | 15 => ∃ (a b : Int) (st' : List qV), st = (d.2.1.toNat, b) :: (d.2.1.toNat, a) :: st' ∧ P ls ((d.2.1.toNat, a - b) :: st') s
  | 16 => ∃ (a b : Int) (st' : List qV), st = (d.2.1.toNat, b) :: (d.2.1.toNat, a) :: st' ∧ P ls ((d.2.1.toNat, a * b) :: st') s
  | 17 => ∃ (a : Int) (st' : List qV), st = (d.2.1.toNat, a) :: st' ∧ P ls ((d.2.1.toNat, - a) :: st') s
  -- other functions of two ints, of two longs (or a long and an int: shifts), by number
  | 18 => ∃ (a b : Int) (st' : List qV), st = (0, b) :: (0, a) :: st' ∧ in32 a ∧ in32 b ∧ (d.2.1 = 6 ∨ d.2.1 = 7 → b ≠ 0) ∧ P ls ((0, fI d.2.1.toNat a b) :: st') s
  | 19 => ∃ (a b : Int) (st' : List qV), st = (d.2.2.1.toNat, b) :: (1, a) :: st' ∧ in64 a ∧ in64 b ∧ (d.2.1 = 6 ∨ d.2.1 = 7 → b ≠ 0) ∧ P ls ((1, fJ d.2.1.toNat a b) :: st') s
  | 20 => ∃ (a : Int) (st' : List qV), st = (0, a) :: st' ∧ in32 a ∧ P ls ((0, fI d.2.1.toNat a 0) :: st') s
  -- i2l, l2i, lcmp
  | 21 => ∃ (a : Int) (st' : List qV), st = (0, a) :: st' ∧ in32 a ∧ P ls ((1, a) :: st') s
  | 22 => ∃ (a : Int) (st' : List qV), st = (1, a) :: st' ∧ P ls ((0, a) :: st') s
  | 23 => ∃ (a b : Int) (st' : List qV), st = (1, b) :: (1, a) :: st' ∧ in64 a ∧ in64 b ∧ P ls ((0, cmpZ a b) :: st') s
  -- fields: the object's number, the block (or what reference it holds)
  | 24 => ∃ (x : qBI) (st' : List qV), st = (2, d.2.1) :: st' ∧ g[d.2.2.1.toNat]? = some x ∧ P ls ((x.2.2.2.1, s d.2.2.1.toNat 0) :: st') s
  | 25 => ∃ st' : List qV, st = (2, d.2.1) :: st' ∧ P ls ((2, d.2.2.1) :: st') s
  | 26 => ∃ (x : qBI) (c : Int × Int) (z : Int) (st' : List qV), st = (x.2.2.2.1, z) :: (2, d.2.1) :: st' ∧ g[d.2.2.1.toNat]? = some x ∧ colAt x.2.2.2.2 0 = some c ∧ inR c.1 c.2 z ∧ P ls st' (qUp s d.2.2.1.toNat 0 z)
  -- rows of a block: the outer array's number
  | 27 => ∃ (x : qBI) (i : Int) (st' : List qV), st = (0, i) :: (2, d.2.1) :: st' ∧ g[d.2.2.1.toNat]? = some x ∧ 0 ≤ i ∧ i < x.2.1 ∧ P ls ((2, x.1 + 2 * i) :: st') s
  -- a place of block d.2.1: read, written; its length
  | 28 => ∃ (x : qBI) (i w : Int) (st' : List qV), st = (0, i) :: (2, x.1 + 2 * w) :: st' ∧ g[d.2.1.toNat]? = some x ∧ 0 ≤ w ∧ w < x.2.1 ∧ 0 ≤ i ∧ i < x.2.2.1 ∧ P ls ((x.2.2.2.1, s d.2.1.toNat (x.2.2.1 * w + i)) :: st') s
  | 29 => ∃ (x : qBI) (i w z : Int) (c : Int × Int) (st' : List qV), st = (x.2.2.2.1, z) :: (0, i) :: (2, x.1 + 2 * w) :: st' ∧ g[d.2.1.toNat]? = some x ∧ 0 ≤ w ∧ w < x.2.1 ∧ 0 ≤ i ∧ i < x.2.2.1 ∧ colAt x.2.2.2.2 (x.2.2.1 * w + i) = some c ∧ inR c.1 c.2 z ∧ P ls st' (qUp s d.2.1.toNat (x.2.2.1 * w + i) z)
  | 30 => ∃ (x : qBI) (w : Int) (st' : List qV), st = (2, x.1 + 2 * w) :: st' ∧ g[d.2.1.toNat]? = some x ∧ 0 ≤ w ∧ w < x.2.1 ∧ P ls ((0, x.2.2.1) :: st') s
  -- the n-th value of the stack, an int or a long, told by its canonical number
  | 31 => ∃ (st1 : List qV) (z : Int) (st2 : List qV), st = st1 ++ (0, z) :: st2 ∧ st1.length = d.2.1.toNat ∧ P ls (st1 ++ (0, (Int32.ofInt z).toInt) :: st2) s
  | 32 => ∃ (st1 : List qV) (z : Int) (st2 : List qV), st = st1 ++ (1, z) :: st2 ∧ st1.length = d.2.1.toNat ∧ P ls (st1 ++ (1, (Int64.ofInt z).toInt) :: st2) s
  | _ => False
theorem wD_mono {g : qG} {d : qD} {P Q : qP} (h : ∀ ls st s, P ls st s → Q ls st s) : ∀ ls st s, wD g d P ls st s → wD g d Q ls st s := by
  intro ls st s hw
  obtain ⟨op, a, b, c⟩ := d
  revert hw
  match op with
  | 0 | 1 | 2 => exact h _ _ _
  | 3 => rintro ⟨v, h1, h3, h2⟩; exact ⟨v, h1, h3, h _ _ _ h2⟩
  | 4 => rintro ⟨v, st', h1, h2, h3⟩; exact ⟨v, st', h1, h2, h _ _ _ h3⟩
  | 5 => rintro ⟨v, h1, h2⟩; exact ⟨v, h1, h _ _ _ h2⟩
  | 6 => rintro ⟨v, st', h1, h2, h3⟩; exact ⟨v, st', h1, h2, h _ _ _ h3⟩
  | 7 => rintro ⟨v, st', h1, h2, h3⟩; exact ⟨v, st', h1, h2, h _ _ _ h3⟩
  | 8 => rintro ⟨x, y, st', h1, h2, h3, h4⟩; exact ⟨x, y, st', h1, h2, h3, h _ _ _ h4⟩
  | 9 => rintro ⟨x, y, z, st', h1, h2, h3, h4, h5⟩; exact ⟨x, y, z, st', h1, h2, h3, h4, h _ _ _ h5⟩
  | 10 => rintro ⟨v, st', h1, h2, h3⟩; exact ⟨v, st', h1, h2, h _ _ _ h3⟩
  | 11 => rintro ⟨x, y, st', h1, h2, h3, h4⟩; exact ⟨x, y, st', h1, h2, h3, h _ _ _ h4⟩
  | 12 => rintro ⟨x, y, st', h1, h2, h3, h4⟩; exact ⟨x, y, st', h1, h2, h3, h _ _ _ h4⟩
  | 13 => rintro ⟨v, st', h1, h2, h3⟩; exact ⟨v, st', h1, h2, h _ _ _ h3⟩
  | 14 | 15 | 16 => rintro ⟨x, y, st', h1, h2⟩; exact ⟨x, y, st', h1, h _ _ _ h2⟩
  | 17 => rintro ⟨x, st', h1, h2⟩; exact ⟨x, st', h1, h _ _ _ h2⟩
  | 18 => rintro ⟨x, y, st', h1, h2, h3, h4, h5⟩; exact ⟨x, y, st', h1, h2, h3, h4, h _ _ _ h5⟩
  | 19 => rintro ⟨x, y, st', h1, h2, h3, h4, h5⟩; exact ⟨x, y, st', h1, h2, h3, h4, h _ _ _ h5⟩
  | 20 => rintro ⟨x, st', h1, h2, h3⟩; exact ⟨x, st', h1, h2, h _ _ _ h3⟩
  | 21 => rintro ⟨x, st', h1, h2, h3⟩; exact ⟨x, st', h1, h2, h _ _ _ h3⟩
  | 22 => rintro ⟨x, st', h1, h2⟩; exact ⟨x, st', h1, h _ _ _ h2⟩
  | 23 => rintro ⟨x, y, st', h1, h2, h3, h4⟩; exact ⟨x, y, st', h1, h2, h3, h _ _ _ h4⟩
  | 24 => rintro ⟨x, st', h1, h2, h3⟩; exact ⟨x, st', h1, h2, h _ _ _ h3⟩
  | 25 => rintro ⟨st', h1, h2⟩; exact ⟨st', h1, h _ _ _ h2⟩
  | 26 => rintro ⟨x, y, z, st', h1, h2, h3, h4, h5⟩; exact ⟨x, y, z, st', h1, h2, h3, h4, h _ _ _ h5⟩
  | 27 => rintro ⟨x, i, st', h1, h2, h3, h4, h5⟩; exact ⟨x, i, st', h1, h2, h3, h4, h _ _ _ h5⟩
  | 28 => rintro ⟨x, i, w, st', h1, h2, h3, h4, h5, h6, h7⟩; exact ⟨x, i, w, st', h1, h2, h3, h4, h5, h6, h _ _ _ h7⟩
  | 29 => rintro ⟨x, i, w, z, c, st', h1, h2, h3, h4, h5, h6, h7, h8, h9⟩; exact ⟨x, i, w, z, c, st', h1, h2, h3, h4, h5, h6, h7, h8, h _ _ _ h9⟩
  | 30 => rintro ⟨x, w, st', h1, h2, h3, h4, h5⟩; exact ⟨x, w, st', h1, h2, h3, h4, h _ _ _ h5⟩
  | 31 => rintro ⟨x, i, st', h1, h2, h3⟩; exact ⟨x, i, st', h1, h2, h _ _ _ h3⟩
  | 32 => rintro ⟨x, i, st', h1, h2, h3⟩; exact ⟨x, i, st', h1, h2, h _ _ _ h3⟩
  | n + 33 => exact fun x => x.elim
