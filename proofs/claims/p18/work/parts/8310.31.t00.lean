/-! THE START: texts -/
def sG0 : List (String × Nat × Nat × Nat × Nat) := [("NativeWorks$Line", 38, 0, 3, 332), ("NativeWorks$Line", 44, 2, 3, 398), ("NativeWorks$Line", 46, 4, 4, 72), ("NativeWorks$Line", 48, 6, 4, 142), ("NativeWorks$Line", 50, 8, 4, 175), ("NativeWorks$Line", 52, 10, 4, 214), ("NativeWorks$Line", 54, 12, 4, 266), ("NativeWorks$Line", 56, 14, 4, 338), ("NativeWorks$Line", 58, 16, 4, 376), ("NativeWorks$Line", 60, 18, 5, 22), ("NativeWorks$Line", 62, 20, 5, 83), ("NativeWorks$Line", 64, 22, 5, 141)]
set_option maxRecDepth 100000 in
theorem okG0 : ∀ q ∈ sG0, okTx q := by decide +kernel
