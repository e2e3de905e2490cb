/-! TWO WAYS OF A RUN -/
noncomputable def rOr (F1 F2 : rEv) : rEv := fun as w n => Option.rec (motive := fun _ => Option rOut) (F2 as w n) (fun o => some o) (F1 as w n)
theorem rOr_l {F1 F2 : rEv} {as : List rCV} {w : rWd} {n : Nat} {o : rOut} (h : F1 as w n = some o) : rOr F1 F2 as w n = some o := by
  show Option.rec (motive := fun _ => Option rOut) (F2 as w n) (fun o => some o) (F1 as w n) = some o
  rw [h]
theorem met_or {cl : List vw_C} {fo : List rCC} {zs : List (String × String × String × rCV)} {rs : List (String × Nat × String × Nat)} {ns : List Cond} {Ts : List Cond} {l : Launch} {y : MethodName} {bytes : ByteArray} {maxL : Nat} {ret : Option FieldType} {fr lo : Nat} {F1 F2 : rEv} (h1 : rMet cl fo zs rs ns Ts l y bytes maxL ret fr lo F1) (h2 : rMet cl fo zs rs ns Ts l y bytes maxL ret fr lo F2) : rMet cl fo zs rs ns Ts l y bytes maxL ret fr lo (rOr F1 F2) := fun G as w n o h => by
  have h' : Option.rec (motive := fun _ => Option rOut) (F2 as w n) (fun o => some o) (F1 as w n) = some o := h
  cases e : F1 as w n with
  | none =>
    rw [e] at h'
    exact h2 G as w n o h'
  | some o1 =>
    rw [e] at h'
    have e2 : o1 = o := Option.some.inj h'
    subst e2
    exact h1 G as w n o1 e
