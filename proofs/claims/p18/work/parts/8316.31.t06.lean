/-! THE START: texts -/
def sG6 : List (String × Nat × Nat × Nat × Nat) := [("NativeWorksModel", 379, 149, 7, 225), ("NativeWorksModel", 382, 151, 7, 233), ("NativeWorksModel", 384, 153, 7, 293), ("NativeWorksModel", 387, 155, 7, 302), ("NativeWorksModel", 390, 157, 7, 311), ("NativeWorksModel", 393, 159, 7, 320), ("NativeWorksModel", 396, 161, 7, 329), ("NativeWorksModel", 399, 163, 7, 338), ("NativeWorksModel", 402, 165, 7, 347), ("NativeWorksModel", 404, 167, 8, 37), ("NativeWorksModel", 406, 169, 8, 45), ("NativeWorksModel", 408, 171, 8, 54)]
set_option maxRecDepth 100000 in
theorem okG6 : ∀ q ∈ sG6, okTx q := by decide +kernel
