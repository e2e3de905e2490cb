/-! THE START: texts -/
def sG5 : List (String × Nat × Nat × Nat × Nat) := [("NativeWorksModel", 590, 125, 8, 227), ("NativeWorksModel", 592, 127, 8, 234), ("NativeWorksModel", 597, 129, 8, 241), ("NativeWorksModel", 603, 131, 8, 252), ("NativeWorksModel", 350, 133, 6, 314), ("NativeWorksModel", 356, 135, 7, 28), ("NativeWorksModel", 358, 137, 7, 73), ("NativeWorksModel", 363, 139, 7, 188), ("NativeWorksModel", 365, 141, 7, 195), ("NativeWorksModel", 367, 143, 7, 203), ("NativeWorksModel", 373, 145, 7, 210), ("NativeWorksModel", 376, 147, 7, 217)]
set_option maxRecDepth 100000 in
theorem okG5 : ∀ q ∈ sG5, okTx q := by decide +kernel
