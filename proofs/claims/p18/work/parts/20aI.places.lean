/-! THE PLACES TO STOP AT, AS THEY ARE PUT AND DROPPED -/
/-! THE PLACES TO STOP AT -/
/-- some of the first n is a, or none is -/
def eIsp (F : Int → Int) (n a r : Int) : Prop := (1 ≤ r ∧ ∃ x : Int, 0 ≤ x ∧ x < n ∧ F x = a) ∨ (r ≤ 0 ∧ ∀ x : Int, 0 ≤ x → x < n → F x ≠ a)
/-- the first place of n that is a, or n -/
def eFst (F : Int → Int) (n a r : Int) : Prop := 0 ≤ r ∧ (∀ x : Int, 0 ≤ x → x < r → F x ≠ a) ∧ (r < n → F r = a)
def eAeq (F G : Int → Int) (n : Int) : Prop := ∀ x : Int, 0 ≤ x → x < n → F x = G x
/-- stopAt, whole -/
def eSpl (F G : Int → Int) (n a o m r : Int) : Prop :=
  (1 ≤ o ∧ (∀ x : Int, 0 ≤ x → x < n → F x ≠ a) ∧ n ≤ 15 ∧ r = 1 ∧ m = n + 1 ∧ eAeq F G n ∧ G n = a) ∨
  (1 ≤ o ∧ ((∃ x : Int, 0 ≤ x ∧ x < n ∧ F x = a) ∨ 16 ≤ n) ∧ r = 0 ∧ m = n ∧ eAeq F G n) ∨
  (o ≤ 0 ∧ (∀ x : Int, 0 ≤ x → x < n → F x ≠ a) ∧ r = 0 ∧ m = n ∧ eAeq F G n) ∨
  (o ≤ 0 ∧ ∃ k : Int, 0 ≤ k ∧ k < n ∧ F k = a ∧ (∀ x : Int, 0 ≤ x → x < k → F x ≠ a) ∧ r = 1 ∧ m = n - 1 ∧ ∀ x : Int, 0 ≤ x → x < n - 1 → G x = if x = k then F (n - 1) else F x)
