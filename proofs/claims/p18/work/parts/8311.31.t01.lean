/-! THE START: texts -/
def sG1 : List (String × Nat × Nat × Nat × Nat) := [("NativeWorks$Line", 66, 24, 5, 215), ("NativeWorks$Line", 68, 26, 5, 274), ("NativeWorks$Line", 70, 28, 5, 333), ("NativeWorks$Line", 72, 30, 6, 2), ("NativeWorks$Line", 74, 32, 6, 71), ("NativeWorksModel", 486, 37, 7, 78), ("NativeWorksModel", 488, 39, 7, 83), ("NativeWorksModel", 490, 41, 7, 89), ("NativeWorksModel", 492, 43, 7, 94), ("NativeWorksModel", 494, 45, 7, 100), ("NativeWorksModel", 496, 47, 7, 105), ("NativeWorksModel", 498, 49, 7, 111)]
set_option maxRecDepth 100000 in
theorem okG1 : ∀ q ∈ sG1, okTx q := by decide +kernel
