/-! THE START: texts -/
def sG4 : List (String × Nat × Nat × Nat × Nat) := [("NativeWorksModel", 566, 101, 8, 147), ("NativeWorksModel", 568, 103, 8, 154), ("NativeWorksModel", 570, 105, 8, 161), ("NativeWorksModel", 572, 107, 8, 168), ("NativeWorksModel", 574, 109, 8, 175), ("NativeWorksModel", 576, 111, 8, 182), ("NativeWorksModel", 578, 113, 8, 189), ("NativeWorksModel", 580, 115, 8, 195), ("NativeWorksModel", 582, 117, 8, 201), ("NativeWorksModel", 584, 119, 8, 207), ("NativeWorksModel", 586, 121, 8, 213), ("NativeWorksModel", 588, 123, 8, 220)]
set_option maxRecDepth 100000 in
theorem okG4 : ∀ q ∈ sG4, okTx q := by decide +kernel
