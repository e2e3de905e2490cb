/-! THE LAW'S LOOP -/
section KLOOP
variable {Z : List Frame → Array Value → State → State → Prop} {G : rGm} {l : Launch} {b L n : Nat} {xs : Nat → Int32}
theorem kls_next (c : Nat) : lsSub (kLs (6 * (c + 1))) (lsSet 4 (0, ((6 * c : Nat) : Int) + 6) (kLs (6 * c))) := fun q hq => by
  have e : ((6 * (c + 1) : Nat) : Int) = ((6 * c : Nat) : Int) + 6 := by omega
  simp only [List.mem_cons, List.not_mem_nil, or_false] at hq
  rcases hq with rfl | rfl | rfl | rfl | rfl
  · exact List.mem_cons_of_mem _ (List.mem_filter.mpr ⟨List.mem_cons_self, rfl⟩)
  · exact List.mem_cons_of_mem _ (List.mem_filter.mpr ⟨List.mem_cons_of_mem _ List.mem_cons_self, rfl⟩)
  · exact List.mem_cons_of_mem _ (List.mem_filter.mpr ⟨List.mem_cons_of_mem _ (List.mem_cons_of_mem _ List.mem_cons_self), rfl⟩)
  · exact List.mem_cons_of_mem _ (List.mem_filter.mpr ⟨List.mem_cons_of_mem _ (List.mem_cons_of_mem _ (List.mem_cons_of_mem _ List.mem_cons_self)), rfl⟩)
  · rw [e]
    exact List.mem_cons_self
set_option maxRecDepth 100000 in
theorem lt_loop (hl : l.stackTraces = false) (hb : G.2.2.2.1 30000 = .ref b) (hL : L ≤ 288) (hEnd : ∀ kc ks s, kc ≤ lwC → ks ≤ lwS → kL Z G l b L n xs kc ks 914 [] [] s) : ∀ (m c : Nat), c + m = 48 → ∀ s, tI (c : Int) s → kL Z G l b L n xs (14081 + c) (3374454 + 6 * c) 23 (kLs (6 * c)) [] s := by
  intro m
  induction m with
  | zero =>
    intro c hc s hI
    refine k_iload 4 dL_law_23 _ _ _ ⟨_, List.mem_cons_of_mem _ (List.mem_cons_of_mem _ (List.mem_cons_of_mem _ (List.mem_cons_of_mem _ List.mem_cons_self))), rfl, ?_⟩
    refine k_aload_n 0 rfl dL_law_25 _ _ _ ⟨_, List.mem_cons_self, rfl, ?_⟩
    refine kl_slen hb (by omega) dL_law_26 ?_
    refine k_bipush (z := 6) (by decide) dL_law_27 _ _ _ ?_
    refine k_isub dL_law_29 _ _ _ ⟨_, _, _, rfl, ?_⟩
    refine k_icmp_gt (tgt := 914) (by decide) dL_law_30 _ _ _ ⟨_, _, _, rfl, ⟨by omega, by omega⟩, (show in32 ((L : Int) - 6) from ⟨by omega, by omega⟩), fun q => ?_, fun q => ?_⟩
    · exact kL_sub (ls' := []) (fun q hq => by cases hq) (hEnd _ _ s (by show 14081 + c ≤ 14129; omega) (by show 3374454 + 6 * c ≤ 3374742; omega))
    · have q : ¬ ((L : Int) - 6 < ((6 * c : Nat) : Int)) := q
      omega
  | succ m ih =>
    intro c hc s hI
    refine k_iload 4 dL_law_23 _ _ _ ⟨_, List.mem_cons_of_mem _ (List.mem_cons_of_mem _ (List.mem_cons_of_mem _ (List.mem_cons_of_mem _ List.mem_cons_self))), rfl, ?_⟩
    refine k_aload_n 0 rfl dL_law_25 _ _ _ ⟨_, List.mem_cons_self, rfl, ?_⟩
    refine kl_slen hb (by omega) dL_law_26 ?_
    refine k_bipush (z := 6) (by decide) dL_law_27 _ _ _ ?_
    refine k_isub dL_law_29 _ _ _ ⟨_, _, _, rfl, ?_⟩
    refine k_icmp_gt (tgt := 914) (by decide) dL_law_30 _ _ _ ⟨_, _, _, rfl, ⟨by omega, by omega⟩, (show in32 ((L : Int) - 6) from ⟨by omega, by omega⟩), fun q => ?_, fun q => ?_⟩
    · exact kL_sub (ls' := []) (fun q hq => by cases hq) (hEnd _ _ s (by show 14081 + c ≤ 14129; omega) (by show 3374454 + 6 * c ≤ 3374742; omega))
    · have q : ¬ ((L : Int) - 6 < ((6 * c : Nat) : Int)) := q
      refine lt_33 (i := 6 * c) (c := (c : Int)) hl hb (by omega) (by omega) (by omega) (by omega) (by show 14081 + c + 1 ≤ 14129; omega) (by show 3374454 + 6 * c + 6 ≤ 3374742; omega) hI (fun s' hI' => ?_)
      refine k_iinc 4 (by decide) dL_law_908 _ _ _ ⟨_, List.mem_cons_of_mem _ (List.mem_cons_of_mem _ (List.mem_cons_of_mem _ (List.mem_cons_of_mem _ List.mem_cons_self))), ?_⟩
      refine kL_sub (ls' := kLs (6 * (c + 1))) (kls_next c) ?_
      have h := ih (c + 1) (by omega) s' (by have e : (((c + 1 : Nat)) : Int) = (c : Int) + 1 := by omega
                                             rw [e]; exact hI')
      exact k_goto (tgt := 23) (by decide) dL_law_911 _ _ _ h
end KLOOP
