/-! THE START: texts -/
def sG2 : List (String × Nat × Nat × Nat × Nat) := [("NativeWorksModel", 500, 51, 7, 117), ("NativeWorksModel", 502, 53, 7, 122), ("NativeWorksModel", 504, 55, 7, 127), ("NativeWorksModel", 506, 57, 7, 133), ("NativeWorksModel", 508, 59, 7, 138), ("NativeWorksModel", 510, 61, 7, 144), ("NativeWorksModel", 512, 63, 7, 149), ("NativeWorksModel", 514, 65, 7, 155), ("NativeWorksModel", 516, 67, 7, 161), ("NativeWorksModel", 518, 69, 7, 166), ("NativeWorksModel", 520, 71, 7, 171), ("NativeWorksModel", 522, 73, 7, 177)]
set_option maxRecDepth 100000 in
theorem okG2 : ∀ q ∈ sG2, okTx q := by decide +kernel
