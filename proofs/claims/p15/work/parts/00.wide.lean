/-! A NAME OF THE WIDE LIBRARY, AHEAD OF ALL (so that no later part is read twice) -/
theorem w_wide : Jvm.Free.Multi.outerC = Jvm.Free.Multi.outerC := rfl
