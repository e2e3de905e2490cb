/-! VALUES, STORES, INSTRUCTIONS, CODE: the types, the functions of ints and longs. A value: (0, z) an int, (1, z) a long, (2, z) a reference's number -/
abbrev qV : Type := Nat × Int
abbrev qLS : Type := List (Nat × qV)
abbrev qSg : Type := Nat → Int → Int
abbrev qP : Type := qLS → List qV → qSg → Prop
/-- a block: number of the first row's reference, rows, places of a row, the values' tag, bounds by columns -/
abbrev qBI : Type := Int × (Int × (Int × (Nat × List (Int × Int))))
abbrev qG : Type := List qBI
abbrev qD : Type := Nat × (Int × (Int × Int))
def in32 (z : Int) : Prop := -2147483648 ≤ z ∧ z ≤ 2147483647
def in64 (z : Int) : Prop := -9223372036854775808 ≤ z ∧ z ≤ 9223372036854775807
def qUp (s : qSg) (b : Nat) (i v : Int) : qSg := fun c j => if c = b ∧ j = i then v else s c j
def keepV (i : Nat) (w : Bool) (q : Nat × qV) : Bool := !(q.1 == i) && (!(w && q.1 == i + 1) && !(q.1 + 1 == i && q.2.1 == 1))
/-- v into place i -/
def lsSet (i : Nat) (v : qV) (ls : qLS) : qLS := (i, v) :: ls.filter (keepV i (v.1 == 1))
def inR (lo hi z : Int) : Prop := lo ≤ z ∧ z ≤ hi
/-- bounds of block's place i -/
def colAt (cols : List (Int × Int)) (i : Int) : Option (Int × Int) := cols[(i % (cols.length : Int)).toNat]?
/-- the functions of ints that aren't sums: by number -/
def fI (f : Nat) (a b : Int) : Int := match f with
  | 0 => (Int32.ofInt a &&& Int32.ofInt b).toInt
  | 1 => (Int32.ofInt a ||| Int32.ofInt b).toInt
  | 2 => (Int32.ofInt a ^^^ Int32.ofInt b).toInt
  | 3 => (Int32.ofInt a <<< (Int32.ofInt b &&& 31)).toInt
  | 4 => (Int32.ofInt a >>> (Int32.ofInt b &&& 31)).toInt
  | 5 => ((Int32.ofInt a).toUInt32 >>> ((Int32.ofInt b).toUInt32 &&& Int32.toUInt32 31)).toInt32.toInt
  | 6 => (Int32.ofInt a / Int32.ofInt b).toInt
  | 7 => (Int32.ofInt a - Int32.ofInt a / Int32.ofInt b * Int32.ofInt b).toInt
  | 8 => (Int32.ofInt a).toInt8.toInt32.toInt
  | 9 => (Int32.ofInt a).toInt16.toInt32.toInt
  | 10 => min a b
  | _ => max a b
def fJ (f : Nat) (a b : Int) : Int := match f with
  | 0 => (Int64.ofInt a &&& Int64.ofInt b).toInt
  | 1 => (Int64.ofInt a ||| Int64.ofInt b).toInt
  | 2 => (Int64.ofInt a ^^^ Int64.ofInt b).toInt
  | 3 => (Int64.ofInt a <<< ((Int32.ofInt b).toInt64 &&& 63)).toInt
  | 4 => (Int64.ofInt a >>> ((Int32.ofInt b).toInt64 &&& 63)).toInt
  | 5 => ((Int64.ofInt a).toUInt64 >>> ((Int32.ofInt b).toInt64.toUInt64 &&& 63)).toInt64.toInt
  | 6 => (Int64.ofInt a / Int64.ofInt b).toInt
  | 7 => (Int64.ofInt a - Int64.ofInt a / Int64.ofInt b * Int64.ofInt b).toInt
  | 10 => min a b
  | _ => max a b
def cmpZ (a b : Int) : Int := if a < b then -1 else if a = b then 0 else 1
def relZ (k : Nat) (a b : Int) : Prop := match k with
  | 0 => a = b
  | 1 => a ≠ b
  | 2 => a < b
  | 3 => b ≤ a
  | 4 => b < a
  | _ => a ≤ b
/-- an end of a block: 0 goto, 1 two ints compared, 2 one with 0, 3 switch, 4 return, 5 return of a value: kind, relation or tag, blocks, table -/
abbrev qTm : Type := Nat × (Nat × (Nat × (Nat × List (Int × Nat))))
abbrev qCd : Type := List (List qD × qTm)
def lsArgs : Nat → List qV → qLS
  | _, [] => []
  | p, v :: l => (p, v) :: lsArgs (if v.1 = 1 then p + 2 else p + 1) l
