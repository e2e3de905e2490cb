/-! THE MACHINE DOESN'T SEE THEM: canonical numbers of locals, fields that are thought of alone -/
def kGhost (L : kLay) (b : Nat) : Bool := L.1.all (fun x => x.2.2.all (fun f => match f with
  | .inl c => !(c == b)
  | .inr _ => true)) && (L.2.1.all (fun x => !(x.1 == b)) && L.2.2.2.all (fun x => !(x.1 == b)))
section KR
variable {g : qG} {L : kLay} {cl : List vw_C} {fo : List rCC} {zs : List (String × String × String × rCV)} {rs : List (String × Nat × String × Nat)} {ns : List Cond} {Ts : List Cond} {G : rGm}
variable {l : Launch} {cc : ByteArray} {nL n : Nat} {own : String} {pc : Nat} {ret : Option FieldType} {fr lo : Nat} {Qf : kQf}
theorem qUp_nb {s : qSg} {b c : Nat} {i z : Int} (h : c ≠ b) : qUp s b i z c = s c := by
  funext j
  unfold qUp
  rw [if_neg (fun e => h e.1)]
theorem kPic.ghost {s : qSg} {H : Heap} {b : Nat} {z : Int} (h : kGhost L b = true) (hP : kPic g L cl fo G s n H) : kPic g L cl fo G (qUp s b 0 z) n H := by
  unfold kGhost at h
  rw [Bool.and_eq_true, Bool.and_eq_true, List.all_eq_true, List.all_eq_true, List.all_eq_true] at h
  obtain ⟨h1, h2, h3⟩ := h
  obtain ⟨p1, p2, p3, p4, p5, p6⟩ := hP
  refine ⟨p1, p2, ?_, ?_, p5, ?_⟩
  · intro x hx
    obtain ⟨q1, r, q2, q3⟩ := p3 x hx
    refine ⟨q1, r, q2, ?_⟩
    rw [map_congr_mem (f := kfld g G (qUp s b 0 z)) (h := kfld g G s) (fun f hf => by
      rcases f with c | y
      · have e := List.all_eq_true.mp (h1 x hx) _ hf
        have e2 : c ≠ b := by
          intro e3
          subst e3
          have e4 : (!(c == c)) = true := e
          rw [beq_self_eq_true] at e4
          cases e4
        show kv G (_, qUp s b 0 z c 0) = kv G (_, s c 0)
        rw [qUp_nb e2]
      · rfl)]
    exact q3
  · intro x hx
    have e2 : x.1 ≠ b := by
      intro e3
      have e4 : (!(x.1 == b)) = true := h2 x hx
      rw [e3, beq_self_eq_true] at e4
      cases e4
    rw [qUp_nb e2]
    exact p4 x hx
  · intro x hx
    have e2 : x.1 ≠ b := by
      intro e3
      have e4 : (!(x.1 == b)) = true := h3 x hx
      rw [e3, beq_self_eq_true] at e4
      cases e4
    rw [qUp_nb e2]
    exact p6 x hx
theorem k_gh {b : Nat} (h : kGhost L b = true) : ∀ ls st s z, kW g L cl fo zs rs ns Ts G l cc nL own ret fr lo n Qf pc ls st (qUp s b 0 z) → kW g L cl fo zs rs ns Ts G l cc nL own ret fr lo n Qf pc ls st s :=
  fun ls st s z hV p e R s0 m args below meth c X hq9 rl H locs hl hP hL => hV p e R s0 m args below meth c X hq9 rl H locs hl (hP.ghost h) hL
theorem k_n40 {i : Nat} : ∀ ls st s, (kW g L cl fo zs rs ns Ts G l cc nL own ret fr lo n Qf pc ls st s ∨ ∃ z : Int, (i, ((0, z) : qV)) ∈ ls ∧ kW g L cl fo zs rs ns Ts G l cc nL own ret fr lo n Qf pc (lsSet i (0, (Int32.ofInt z).toInt) ls) st s) → kW g L cl fo zs rs ns Ts G l cc nL own ret fr lo n Qf pc ls st s := by
  rintro ls st s (h | ⟨z, h1, h2⟩)
  · exact h
  · intro p e R s0 m args below meth c X hq9 rl H locs hl hP hL
    refine h2 p e R s0 m args below meth c X hq9 rl H locs ⟨hl.1, hl.2.1, fun q hq => ?_⟩ hP hL
    obtain ⟨x, hx, rfl⟩ := List.mem_map.mp hq
    unfold lsSet at hx
    rcases List.mem_cons.mp hx with rfl | hx
    · have e1 := hl.2.2 _ (List.mem_map.mpr ⟨_, h1, rfl⟩)
      have e2 : kLv G (i, ((0, (Int32.ofInt z).toInt) : qV)) = kLv G (i, ((0, z) : qV)) := by
        show (i, Value.int (Int32.ofInt (Int32.ofInt z).toInt)) = (i, Value.int (Int32.ofInt z))
        rw [Int32.ofInt_toInt]
      rw [e2]
      exact e1
    · exact hl.2.2 _ (List.mem_map.mpr ⟨x, (List.mem_filter.mp hx).1, rfl⟩)
end KR
