/-! THE START: texts -/
def sG3 : List (String × Nat × Nat × Nat × Nat) := [("NativeWorksModel", 524, 75, 7, 182), ("NativeWorksModel", 541, 79, 8, 247), ("NativeWorksModel", 546, 81, 8, 77), ("NativeWorksModel", 548, 83, 8, 84), ("NativeWorksModel", 550, 85, 8, 91), ("NativeWorksModel", 552, 87, 8, 98), ("NativeWorksModel", 554, 89, 8, 105), ("NativeWorksModel", 556, 91, 8, 112), ("NativeWorksModel", 558, 93, 8, 119), ("NativeWorksModel", 560, 95, 8, 126), ("NativeWorksModel", 562, 97, 8, 133), ("NativeWorksModel", 564, 99, 8, 140)]
set_option maxRecDepth 100000 in
theorem okG3 : ∀ q ∈ sG3, okTx q := by decide +kernel
