/-! THE START: the words of the runner -/
section TB5
variable {args : Array Value} {s : State}
set_option maxRecDepth 100000 in
theorem tb60 (hts : ∀ w ∈ lw_tbl, w.before args s = true) : ∀ w ∈ rB60, w.before args s = true :=
  List.forall_mem_cons.mpr ⟨hts _ (tI1 (i := 111) rfl),
  List.forall_mem_cons.mpr ⟨hts _ (tI4 (i := 91) rfl),
  List.forall_mem_cons.mpr ⟨hts _ (tI5 (i := 14) rfl),
  List.forall_mem_cons.mpr ⟨hts _ (tI5 (i := 24) rfl),
  List.forall_mem_cons.mpr ⟨hts _ (tI9 (i := 184) rfl),
  List.forall_mem_cons.mpr ⟨hts _ (tI9 (i := 185) rfl),
  List.forall_mem_cons.mpr ⟨hts _ (tI9 (i := 186) rfl),
  List.forall_mem_cons.mpr ⟨hts _ (tI3 (i := 211) rfl),
  List.forall_mem_cons.mpr ⟨hts _ (tI3 (i := 151) rfl),
  List.forall_mem_cons.mpr ⟨hts _ (tI17 (i := 123) rfl),
  List.forall_mem_cons.mpr ⟨hts _ (tI17 (i := 117) (by decide +kernel)),
  List.forall_mem_cons.mpr ⟨hts _ (tI17 (i := 116) rfl),
  List.forall_mem_cons.mpr ⟨hts _ (tI17 (i := 110) (by decide +kernel)),
  List.forall_mem_cons.mpr ⟨hts _ (tI10 (i := 45) (by decide +kernel)),
  List.forall_mem_cons.mpr ⟨hts _ (tI10 (i := 46) (by decide +kernel)),
  List.forall_mem_cons.mpr ⟨hts _ (tI10 (i := 47) (by decide +kernel)),
  List.forall_mem_cons.mpr ⟨hts _ (tI14 (i := 128) (by decide +kernel)),
  List.forall_mem_cons.mpr ⟨hts _ (tI14 (i := 129) rfl),
  List.forall_mem_cons.mpr ⟨hts _ (tI14 (i := 130) rfl),
  List.forall_mem_cons.mpr ⟨hts _ (tI14 (i := 131) rfl),
  List.forall_mem_cons.mpr ⟨hts _ (tI17 (i := 47) (by decide +kernel)),
  List.forall_mem_cons.mpr ⟨hts _ (tI17 (i := 121) rfl),
  List.forall_mem_cons.mpr ⟨hts _ (tI17 (i := 122) rfl),
  List.forall_mem_cons.mpr ⟨hts _ (tI17 (i := 114) rfl),
  List.forall_mem_cons.mpr ⟨hts _ (tI17 (i := 115) rfl),
  List.forall_mem_cons.mpr ⟨hts _ (tI17 (i := 105) (by decide +kernel)),
  List.forall_mem_cons.mpr ⟨hts _ (tI17 (i := 106) (by decide +kernel)),
  List.forall_mem_cons.mpr ⟨hts _ (tI17 (i := 32) (by decide +kernel)), fun _ h => absurd h List.not_mem_nil⟩⟩⟩⟩⟩⟩⟩⟩⟩⟩⟩⟩⟩⟩⟩⟩⟩⟩⟩⟩⟩⟩⟩⟩⟩⟩⟩⟩
end TB5
