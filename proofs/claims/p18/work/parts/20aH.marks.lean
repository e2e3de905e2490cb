/-! WHAT ARRAYS OF CONSTANTS HOLD -/
/-- how many of the first n are v, and g of them that were: at most m -/
def eMc (F : Int → Int) (n v g m : Int) : Prop := 0 ≤ n ∧ eCn F (fun x => decide (x = v)) n.toNat + g ≤ m
/-- how many of the first n are short branches -/
def eMn (K S : Int → Int) : Nat → Int
  | 0 => 0
  | n + 1 => eMn K S n + if K n = 4 ∧ S n = 2 then 1 else 0
def eMb (K S : Int → Int) (n g m : Int) : Prop := 0 ≤ n ∧ eMn K S n.toNat + g ≤ m
