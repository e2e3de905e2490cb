/-! THE START: texts -/
def sG7 : List (String × Nat × Nat × Nat × Nat) := [("NativeWorksModel", 410, 173, 8, 63), ("NativeWorksModel", 412, 175, 8, 70), ("NativeWorksModel", 417, 177, 8, 257), ("NativeWorksModel", 427, 179, 8, 265), ("NativeWorksModel", 432, 181, 8, 275), ("NativeWorksModel", 436, 183, 8, 283), ("NativeWorksModel", 456, 185, 8, 290), ("NativeWorksModel", 461, 187, 8, 297)]
set_option maxRecDepth 100000 in
theorem okG7 : ∀ q ∈ sG7, okTx q := by decide +kernel
