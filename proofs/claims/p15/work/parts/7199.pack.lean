/-! PACKED STREAMS (written by wip/p2/genmeth.py) -/
noncomputable def yDk (B : Nat) (k x : Nat) (tl : List Nat) : List Nat := Nat.rec (motive := fun _ => Nat → List Nat) (fun _ => tl) (fun _ ih x => List.cons (Nat.mod x B) (ih (Nat.div x B))) k x
