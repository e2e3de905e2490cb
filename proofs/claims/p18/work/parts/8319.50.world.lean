/-! THE START: all that holds there -/
section STK
variable {args : Array Value} {s : State}
theorem st_F {G : rGm} (hN : ∀ p, ∀ w ∈ npc p, w.before args s = true) (hG1 : G.2.2.1 = s.heap.size) (hG2 : G.2.2.2.2 = s.heap) (hF : ∀ i, G.2.2.2.1 i = nr ((tmOf i).eval args s none [] s)) (hK : u_Kn s RJ0 TJ0 4 (G.1.1 0) (G.1.2 0)) : ∀ (i : Nat) (x : rCC), rFo[i]? = some x → rFx vwCl G i x s := by
  intro i x hx
  have hi : i < 198 := by
    rw [← rFo_len]
    exact (List.getElem?_eq_some_iff.mp hx).1
  rcases sCov i hi with ⟨q, hq, h⟩ | ⟨q, hq, h⟩
  · obtain ⟨e1, e2, e3, e4, e5, e6⟩ := okG q hq
    have hw := st_seg e6 hN
    have hF0 := hF q.2.2.1
    have hF1 := hF (q.2.2.1 + 1)
    rw [e4] at hF0
    rw [e5] at hF1
    rcases h with rfl | rfl
    · cases (fT_e e1).symm.trans hx
      exact st_fxT hG1 hG2 hF0 hF1 e2.2.2.1 hK hw
    · cases (fA_e e2.1).symm.trans hx
      refine st_fxA hG1 hG2 hF1 e2 ?_
      rw [e3]
      exact fun w h => hw w (List.mem_cons_of_mem _ (List.mem_cons_of_mem _ h))
  · obtain ⟨e2, e4, e6⟩ := okSA q hq
    have hF0 := hF q.2.2.2.1
    rw [e4] at hF0
    subst h
    cases (fA_e e2.1).symm.trans hx
    exact st_fxA hG1 hG2 hF0 e2 (st_seg e6 hN)
theorem st_rs {G : rGm} (hts : ∀ w ∈ lw_tbl, w.before args s = true) (hN : ∀ p, ∀ w ∈ npc p, w.before args s = true) (hF : ∀ i, G.2.2.2.1 i = nr ((tmOf i).eval args s none [] s)) : ∀ q ∈ rRs, ∃ a, G.2.2.2.1 q.2.2.2 = .ref a ∧ vk_R q.1 q.2.1 q.2.2.1 a s := by
  intro q hq
  have h1 := at_npc sRx hN _ (List.mem_map.mpr ⟨q, hq, rfl⟩)
  have h2 := hts _ (at_tbl sRr _ (List.mem_map.mpr ⟨q, hq, rfl⟩))
  obtain ⟨a, c, cA, kA, q1, -⟩ := Cond.exactly_spec (args := args) (first := s) (o := none) (s := s) (idx := []) h1
  refine ⟨a, ?_, vk_R.of h2 q1⟩
  rw [hF, sRt q hq, q1]
  rfl
theorem st_zx {G : rGm} (hts : ∀ w ∈ lw_tbl, w.before args s = true) (hN : ∀ p, ∀ w ∈ npc p, w.before args s = true) (hG1 : G.2.2.1 = s.heap.size) (hG2 : G.2.2.2.2 = s.heap) : rZx G s := by
  unfold rZx
  rw [hG2]
  exact ⟨vx_Zqof (hts _ (tI5 (i := 92) rfl)) (hts _ (tI1 (i := 21) rfl)) (hN 2 _ (List.mem_of_getElem? (i := 349) (by decide +kernel))) (fun a ha => by omega), vx_Zqof (hts _ (tI5 (i := 94) rfl)) (hts _ (tI1 (i := 21) rfl)) (hN 2 _ (List.mem_of_getElem? (i := 350) (by decide +kernel))) (fun a ha => by omega)⟩
theorem st_zs {G : rGm} (hts : ∀ w ∈ lw_tbl, w.before args s = true) (hN : ∀ p, ∀ w ∈ npc p, w.before args s = true) (hG1 : G.2.2.1 = s.heap.size) (hG2 : G.2.2.2.2 = s.heap) (hF : ∀ i, G.2.2.2.1 i = nr ((tmOf i).eval args s none [] s)) : ∀ z ∈ rZs, va_Z z.1 z.2.1 z.2.2.1 (rv G z.2.2.2) (fun a => G.2.2.1 ≤ a) s G.2.2.2.2 := by
  have z0 : va_Z "java/lang/String" "COMPACT_STRINGS" "Z" (rv G (.inl 1)) (fun a => G.2.2.1 ≤ a) s G.2.2.2.2 := by
    rw [hG2]
    exact va_Zof (v := .int 1) (hts _ (tI1 (i := 199) rfl)) (hts _ (tI1 (i := 7) rfl)) (va_eqi (hN 1 _ (List.mem_of_getElem? (i := 2) (by decide +kernel)))) (fun a ha => by omega)
  have z1 : va_Z "jdk/internal/util/Preconditions" "SIOOBE_FORMATTER" "Ljava/util/function/BiFunction;" (rv G (.inr (.inr 20002))) (fun a => G.2.2.1 ≤ a) s G.2.2.2.2 := by
    obtain ⟨v, hv, hq⟩ := st_isRef (t := .static "jdk/internal/util/Preconditions" "SIOOBE_FORMATTER" "Ljava/util/function/BiFunction;") (hN 1 _ (List.mem_of_getElem? (i := 3) (by decide +kernel)))
    exact st_Z (i := 10000) ⟨by decide, by decide, by decide⟩ hG1 hG2 (by rw [hF, show tmOf 10000 = .static "jdk/internal/util/Preconditions" "SIOOBE_FORMATTER" "Ljava/util/function/BiFunction;" by decide +kernel]) (hts _ (tI1 (i := 215) rfl)) (hts _ (tI1 (i := 9) rfl)) hv hq
  have z2 : va_Z "NativeWorks$Instruction" "L_AT" "[I" (rv G (.inr (.inr 70))) (fun a => G.2.2.1 ≤ a) s G.2.2.2.2 := by
    obtain ⟨v, hv, hq⟩ := st_isRef (t := .static "NativeWorks$Instruction" "L_AT" "[I") (hN 2 _ (List.mem_of_getElem? (i := 333) (by decide +kernel)))
    exact st_Z (i := 34) ⟨by decide, by decide, by decide⟩ hG1 hG2 (by rw [hF, show tmOf 34 = .static "NativeWorks$Instruction" "L_AT" "[I" by decide +kernel]) (hts _ (tI3 (i := 41) rfl)) (hts _ (tI1 (i := 15) rfl)) hv hq
  have z3 : va_Z "NativeWorks$Instruction" "ARITHMETIC" "[I" (rv G (.inr (.inr 72))) (fun a => G.2.2.1 ≤ a) s G.2.2.2.2 := by
    obtain ⟨v, hv, hq⟩ := st_isRef (t := .static "NativeWorks$Instruction" "ARITHMETIC" "[I") (hN 1 _ (List.mem_of_getElem? (i := 7) (by decide +kernel)))
    exact st_Z (i := 35) ⟨by decide, by decide, by decide⟩ hG1 hG2 (by rw [hF, show tmOf 35 = .static "NativeWorks$Instruction" "ARITHMETIC" "[I" by decide +kernel]) (hts _ (tI3 (i := 31) rfl)) (hts _ (tI1 (i := 15) rfl)) hv hq
  have z4 : va_Z "NativeWorks$Instruction" "TABLE" "[I" (rv G (.inr (.inr 74))) (fun a => G.2.2.1 ≤ a) s G.2.2.2.2 := by
    obtain ⟨v, hv, hq⟩ := st_isRef (t := .static "NativeWorks$Instruction" "TABLE" "[I") (hN 1 _ (List.mem_of_getElem? (i := 64) (by decide +kernel)))
    exact st_Z (i := 36) ⟨by decide, by decide, by decide⟩ hG1 hG2 (by rw [hF, show tmOf 36 = .static "NativeWorks$Instruction" "TABLE" "[I" by decide +kernel]) (hts _ (tI3 (i := 33) rfl)) (hts _ (tI1 (i := 15) rfl)) hv hq
  have z5 : va_Z "java/lang/Intege\x72" "DigitOnes" "[B" (rv G (.inr (.inr 156))) (fun a => G.2.2.1 ≤ a) s G.2.2.2.2 := by
    obtain ⟨v, hv, hq⟩ := st_isRef (t := .static "java/lang/Intege\x72" "DigitOnes" "[B") (hN 2 _ (List.mem_of_getElem? (i := 351) (by decide +kernel)))
    exact st_Z (i := 77) ⟨by decide, by decide, by decide⟩ hG1 hG2 (by rw [hF, show tmOf 77 = .static "java/lang/Intege\x72" "DigitOnes" "[B" by decide +kernel]) (hts _ (tI6 (i := 199) rfl)) (hts _ (tI1 (i := 28) rfl)) hv hq
  have z6 : va_Z "java/lang/Intege\x72" "DigitTens" "[B" (rv G (.inr (.inr 158))) (fun a => G.2.2.1 ≤ a) s G.2.2.2.2 := by
    obtain ⟨v, hv, hq⟩ := st_isRef (t := .static "java/lang/Intege\x72" "DigitTens" "[B") (hN 3 _ (List.mem_of_getElem? (i := 54) (by decide +kernel)))
    exact st_Z (i := 78) ⟨by decide, by decide, by decide⟩ hG1 hG2 (by rw [hF, show tmOf 78 = .static "java/lang/Intege\x72" "DigitTens" "[B" by decide +kernel]) (hts _ (tI6 (i := 201) rfl)) (hts _ (tI1 (i := 28) rfl)) hv hq
  have z7 : va_Z "NativeWorks$Linke\x72" "START" "[B" (rv G (.inr (.inr 380))) (fun a => G.2.2.1 ≤ a) s G.2.2.2.2 := by
    obtain ⟨v, hv, hq⟩ := st_isRef (t := .static "NativeWorks$Linke\x72" "START" "[B") (hN 3 _ (List.mem_of_getElem? (i := 270) (by decide +kernel)))
    exact st_Z (i := 189) ⟨by decide, by decide, by decide⟩ hG1 hG2 (by rw [hF, show tmOf 189 = .static "NativeWorks$Linke\x72" "START" "[B" by decide +kernel]) (hts _ (tI9 (i := 39) rfl)) (hts _ (tI1 (i := 16) rfl)) hv hq
  have z8 : va_Z "NativeWorks$Assemble\x72" "SIZED_OPS" "[I" (rv G (.inr (.inr 382))) (fun a => G.2.2.1 ≤ a) s G.2.2.2.2 := by
    obtain ⟨v, hv, hq⟩ := st_isRef (t := .static "NativeWorks$Assemble\x72" "SIZED_OPS" "[I") (hN 3 _ (List.mem_of_getElem? (i := 157) (by decide +kernel)))
    exact st_Z (i := 190) ⟨by decide, by decide, by decide⟩ hG1 hG2 (by rw [hF, show tmOf 190 = .static "NativeWorks$Assemble\x72" "SIZED_OPS" "[I" by decide +kernel]) (hts _ (tI7 (i := 95) rfl)) (hts _ (tI1 (i := 5) rfl)) hv hq
  have z9 : va_Z "NativeWorks$Assemble\x72" "SIZED_SIZES" "[I" (rv G (.inr (.inr 384))) (fun a => G.2.2.1 ≤ a) s G.2.2.2.2 := by
    obtain ⟨v, hv, hq⟩ := st_isRef (t := .static "NativeWorks$Assemble\x72" "SIZED_SIZES" "[I") (hN 3 _ (List.mem_of_getElem? (i := 170) (by decide +kernel)))
    exact st_Z (i := 191) ⟨by decide, by decide, by decide⟩ hG1 hG2 (by rw [hF, show tmOf 191 = .static "NativeWorks$Assemble\x72" "SIZED_SIZES" "[I" by decide +kernel]) (hts _ (tI7 (i := 97) rfl)) (hts _ (tI1 (i := 5) rfl)) hv hq
  have z10 : va_Z "NativeWorks$Instruction" "COUNTS" "[I" (rv G (.inr (.inr 386))) (fun a => G.2.2.1 ≤ a) s G.2.2.2.2 := by
    obtain ⟨v, hv, hq⟩ := st_isRef (t := .static "NativeWorks$Instruction" "COUNTS" "[I") (hN 3 _ (List.mem_of_getElem? (i := 183) (by decide +kernel)))
    exact st_Z (i := 192) ⟨by decide, by decide, by decide⟩ hG1 hG2 (by rw [hF, show tmOf 192 = .static "NativeWorks$Instruction" "COUNTS" "[I" by decide +kernel]) (hts _ (tI8 (i := 6) rfl)) (hts _ (tI1 (i := 15) rfl)) hv hq
  have z11 : va_Z "NativeWorks$Instruction" "M_AT" "[I" (rv G (.inr (.inr 388))) (fun a => G.2.2.1 ≤ a) s G.2.2.2.2 := by
    obtain ⟨v, hv, hq⟩ := st_isRef (t := .static "NativeWorks$Instruction" "M_AT" "[I") (hN 3 _ (List.mem_of_getElem? (i := 199) (by decide +kernel)))
    exact st_Z (i := 193) ⟨by decide, by decide, by decide⟩ hG1 hG2 (by rw [hF, show tmOf 193 = .static "NativeWorks$Instruction" "M_AT" "[I" by decide +kernel]) (hts _ (tI8 (i := 12) rfl)) (hts _ (tI1 (i := 15) rfl)) hv hq
  have z12 : va_Z "NativeWorks$Instruction" "R_AT" "[I" (rv G (.inr (.inr 390))) (fun a => G.2.2.1 ≤ a) s G.2.2.2.2 := by
    obtain ⟨v, hv, hq⟩ := st_isRef (t := .static "NativeWorks$Instruction" "R_AT" "[I") (hN 3 _ (List.mem_of_getElem? (i := 215) (by decide +kernel)))
    exact st_Z (i := 194) ⟨by decide, by decide, by decide⟩ hG1 hG2 (by rw [hF, show tmOf 194 = .static "NativeWorks$Instruction" "R_AT" "[I" by decide +kernel]) (hts _ (tI8 (i := 14) rfl)) (hts _ (tI1 (i := 15) rfl)) hv hq
  have z13 : va_Z "NativeWorks$Instruction" "N_AT" "[I" (rv G (.inr (.inr 392))) (fun a => G.2.2.1 ≤ a) s G.2.2.2.2 := by
    obtain ⟨v, hv, hq⟩ := st_isRef (t := .static "NativeWorks$Instruction" "N_AT" "[I") (hN 3 _ (List.mem_of_getElem? (i := 231) (by decide +kernel)))
    exact st_Z (i := 195) ⟨by decide, by decide, by decide⟩ hG1 hG2 (by rw [hF, show tmOf 195 = .static "NativeWorks$Instruction" "N_AT" "[I" by decide +kernel]) (hts _ (tI8 (i := 16) rfl)) (hts _ (tI1 (i := 15) rfl)) hv hq
  have z14 : va_Z "NativeWorks$Instruction" "WIDTHS" "[I" (rv G (.inr (.inr 394))) (fun a => G.2.2.1 ≤ a) s G.2.2.2.2 := by
    obtain ⟨v, hv, hq⟩ := st_isRef (t := .static "NativeWorks$Instruction" "WIDTHS" "[I") (hN 3 _ (List.mem_of_getElem? (i := 247) (by decide +kernel)))
    exact st_Z (i := 196) ⟨by decide, by decide, by decide⟩ hG1 hG2 (by rw [hF, show tmOf 196 = .static "NativeWorks$Instruction" "WIDTHS" "[I" by decide +kernel]) (hts _ (tI8 (i := 49) rfl)) (hts _ (tI1 (i := 15) rfl)) hv hq
  have z15 : va_Z "NativeWorks$Line" "KINDS" "[I" (rv G (.inr (.inr 396))) (fun a => G.2.2.1 ≤ a) s G.2.2.2.2 := by
    obtain ⟨v, hv, hq⟩ := st_isRef (t := .static "NativeWorks$Line" "KINDS" "[I") (hN 3 _ (List.mem_of_getElem? (i := 256) (by decide +kernel)))
    exact st_Z (i := 197) ⟨by decide, by decide, by decide⟩ hG1 hG2 (by rw [hF, show tmOf 197 = .static "NativeWorks$Line" "KINDS" "[I" by decide +kernel]) (hts _ (tI8 (i := 156) rfl)) (hts _ (tI1 (i := 6) rfl)) hv hq
  exact List.forall_mem_cons.mpr ⟨z0, List.forall_mem_cons.mpr ⟨z1, List.forall_mem_cons.mpr ⟨z2, List.forall_mem_cons.mpr ⟨z3, List.forall_mem_cons.mpr ⟨z4, List.forall_mem_cons.mpr ⟨z5, List.forall_mem_cons.mpr ⟨z6, List.forall_mem_cons.mpr ⟨z7, List.forall_mem_cons.mpr ⟨z8, List.forall_mem_cons.mpr ⟨z9, List.forall_mem_cons.mpr ⟨z10, List.forall_mem_cons.mpr ⟨z11, List.forall_mem_cons.mpr ⟨z12, List.forall_mem_cons.mpr ⟨z13, List.forall_mem_cons.mpr ⟨z14, List.forall_mem_cons.mpr ⟨z15, fun _ h => absurd h List.not_mem_nil⟩⟩⟩⟩⟩⟩⟩⟩⟩⟩⟩⟩⟩⟩⟩⟩
theorem st_KK {b : Nat} (hts : ∀ w ∈ lw_tbl, w.before args s = true) (hN : ∀ p, ∀ w ∈ npc p, w.before args s = true) (hb : args[0]? = some (.ref b)) : ∃ G : rGm, G.2.2.1 = s.heap.size ∧ G.2.2.2.2 = s.heap ∧ G.2.2.2.1 30000 = .ref b ∧ rKK vwCl rFo rZs rRs rNs G s := by
  have hD : ∀ c : Nat, ∃ x : ClassId × (Nat → Nat), ∀ q, vwCl[c]? = some q → u_Kn s q.1 q.2.1 q.2.2 x.1 x.2 := by
    intro c
    cases hq : vwCl[c]? with
    | none => exact ⟨(0, fun _ => 0), fun q h => by cases h⟩
    | some q =>
      obtain ⟨cC, iS, h⟩ := st_kn hts q (List.mem_of_getElem? hq)
      exact ⟨(cC, iS), fun q' h' => by cases h'; exact h⟩
  obtain ⟨dD, hD⟩ := Classical.axiomOfChoice hD
  obtain ⟨aA, hA⟩ := Classical.axiomOfChoice (st_cA hts)
  have hF : ∀ i, (((fun c => (dD c).1, fun c => (dD c).2), (aA, (s.heap.size, (fun i => nr ((tmOf i).eval args s none [] s), s.heap)))) : rGm).2.2.2.1 i = nr ((tmOf i).eval args s none [] s) := fun _ => rfl
  refine ⟨((fun c => (dD c).1, fun c => (dD c).2), (aA, (s.heap.size, (fun i => nr ((tmOf i).eval args s none [] s), s.heap)))), rfl, rfl, ?_, ⟨fun c q hq => hD c q hq, fun k q hk => ?_⟩, ⟨⟨rfl, st_zx hts hN rfl rfl⟩, st_ns hts⟩, fun i => nr_q _, st_zs hts hN rfl rfl hF, st_rs hts hN hF, st_F hN rfl rfl hF (hD 0 _ kc0)⟩
  · rw [hF, show tmOf 30000 = .arg 0 by decide +kernel]
    show nr (args[0]?) = _
    rw [hb]
    rfl
  · obtain ⟨t, -, ht⟩ := List.mem_map.mp (List.mem_of_getElem? hk)
    subst ht
    exact hA t
end STK
