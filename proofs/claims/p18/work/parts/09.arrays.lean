/-! THE RUNNER'S ROWS: copies, arrays of references, arrays of arrays -/
theorem arrV_ext {cA : ClassId} {N : Nat} {f g : Nat → Value} (h : ∀ j, j < N → f j = g j) : arrV cA N f = arrV cA N g := by
  unfold arrV
  congr 1
  apply congrArg
  funext j
  exact h j.val j.isLt
theorem okT_fits (G : rGm) {t : Nat} {v : rCV} (h : okT t v = true) : fits (rTy t) (rv G v) = true := by
  have h' : rB (Nat.beq t 0) (isI v) (rB (Nat.beq t 1) (isJ v) (okB t v)) = true := h
  cases e : Nat.beq t 0
  · rw [e] at h'
    have h2 : rB (Nat.beq t 1) (isJ v) (okB t v) = true := h'
    cases e1 : Nat.beq t 1
    · rw [e1] at h2
      rcases okB_e h2 with ⟨rfl, h3⟩ | ⟨rfl, h3⟩
      · rcases v with a | a | a
        · have h4 : rB (Nat.ble a 127) true (rB (Nat.ble 4294967168 a) (Nat.blt a 4294967296) false) = true := h3
          cases e2 : Nat.ble a 127
          · rw [e2] at h4
            obtain ⟨h5, h6⟩ := rB_and h4
            have g1 : 4294967168 ≤ a := Nat.ble_eq.mp h5
            have g2 : a < 4294967296 := Nat.blt_eq.mp h6
            have := (show ∀ b, b < 128 → fits .byte (.int (nI (b + 4294967168))) = true by decide +kernel) (a - 4294967168) (by omega)
            rw [Nat.sub_add_cancel g1] at this
            exact this
          · have g1 : a ≤ 127 := Nat.ble_eq.mp e2
            exact (show ∀ b, b < 128 → fits .byte (.int (nI b)) = true by decide +kernel) a (by omega)
        · cases h3
        · cases h3
      · obtain ⟨a, rfl, -, ha⟩ := isZ_e h3
        match a, ha with
        | 0, _ => rfl
        | 1, _ => rfl
    · have : t = 1 := Nat.eq_of_beq_eq_true e1
      subst this
      rw [e1] at h2
      obtain ⟨a, rfl⟩ := isJ_e h2
      rfl
  · have : t = 0 := Nat.eq_of_beq_eq_true e
    subst this
    rw [e] at h'
    obtain ⟨a, rfl⟩ := isI_e h'
    rfl
theorem rCp_some {β : Type} {t sp dp : Nat} {d : rCV} {m : rMp} {k : rMp → Option β} {o : β} : ∀ (N : Nat) (m' : rMp), rCp t N sp dp d m m' k = some o → ∃ m2, k m2 = some o ∧ (∀ i, i < N → okT t (rL d m (sp + i)) = true) ∧ ∀ (d' : rCV) (j : Nat), rL d' m2 j = if dp ≤ j ∧ j < dp + N then rL d m (sp + (j - dp)) else rL d' m' j := by
  intro N
  induction N with
  | zero =>
    intro m' h
    refine ⟨m', h, fun i hi => absurd hi (Nat.not_lt_zero i), fun d' j => ?_⟩
    rw [if_neg (by omega)]
  | succ N ih =>
    intro m' h
    have h' : rN (dp + N) (fun i => rN (i / 64) (fun q => rV (rL d m (sp + N)) (fun v => rB (okT t v) (rU m' q i v (fun m' => rCp t N sp dp d m m' k)) none))) = some o := h
    rw [rN_eq, rN_eq, rV_eq] at h'
    obtain ⟨h1, h2⟩ := rB_yes h'
    rw [rU_eq] at h2
    obtain ⟨m2, g1, g2, g3⟩ := ih _ h2
    refine ⟨m2, g1, fun i hi => ?_, fun d' j => ?_⟩
    · by_cases e : i = N
      · subst e; exact h1
      · exact g2 i (by omega)
    · rw [g3, rL_up]
      by_cases e : dp ≤ j ∧ j < dp + N
      · rw [if_pos e, if_pos (by omega)]
      · rw [if_neg e]
        by_cases e2 : j = dp + N
        · rw [if_pos e2, if_pos (by omega), show sp + (j - dp) = sp + N by omega]
        · rw [if_neg e2, if_neg (by omega)]
section RA
variable {cl : List vw_C} {fo : List rCC} {zs : List (String × String × String × rCV)} {rs : List (String × Nat × String × Nat)} {ns : List Cond} {Ts : List Cond} {G : rGm}
variable {l : Launch} {cc : ByteArray} {nL n0 : Nat} {own : String} {pc : Nat} {ret : Option FieldType} {ini : Bool} {fr lo : Nat} {Qf : rQf}
theorem nI_toInt2 {a : Nat} (h : a ≤ 120000000) : (nI a).toInt = (a : Int) := nI_toInt (by omega)
theorem s_acopy {ix : Nat} (w1 : Cond.methodLink own ix arraycopyName ∈ Ts) (w2 : Cond.native arraycopyName ∈ Ts) (w3 : Cond.static arraycopyName ∈ Ts) (w4 : Cond.initialized "java/lang/System" ∈ Ts) (hf : 1 ≤ fr) (hlo : 8 + (nativeFrameWords "java/lang/System" "arraycopy" 5 + 11) ≤ lo) (hd : decode cc pc = .ok (.invokestatic ix, 3)) : HS (rW cl fo zs rs ns Ts G l cc nL own ret ini fr lo n0 Qf) pc (pc + 3) (h_acopy fo) := by
  intro k0 ls st w n kk o e0
  obtain ⟨x5, st, rfl, e1⟩ := rP_some e0
  obtain ⟨x4, st, rfl, e2⟩ := rP_some e1
  obtain ⟨x3, st, rfl, e3⟩ := rP_some e2
  obtain ⟨x2, st, rfl, e4⟩ := rP_some e3
  obtain ⟨x1, st, rfl, e5⟩ := rP_some e4
  obtain ⟨hsum, e51⟩ := rB_yes e5
  obtain ⟨N, rfl, e6⟩ := rI_some e51
  obtain ⟨dp, rfl, e7⟩ := rI_some e6
  obtain ⟨sp, rfl, e8⟩ := rI_some e7
  obtain ⟨r3, rfl, e9⟩ := rR_some e8
  obtain ⟨r1, rfl, e10⟩ := rR_some e9
  have key : ∃ t1 N1 d1 m1, ((r1 % 2 = 1 ∧ wGet (r1 / 2) w = some (.inr (t1, N1, d1, m1))) ∨ (¬ r1 % 2 = 1 ∧ ¬ r1 = 0 ∧ fo[r1 / 2 - 1]? = some (.inr (t1, N1, d1, m1)))) ∧ rO w r3 (fun p c3 => rCA c3 (fun t3 N3 d3 m3 => rB (Nat.beq t1 t3) (rB (Nat.ble t1 3) (rB (Nat.ble (Nat.add sp N) N1) (rB (Nat.ble (Nat.add dp N) N3) (rCp t1 N sp dp d1 m1 m3 (fun m => rWS w p (.inr (t3, N3, d3, m)) (fun w => k0 ls st w n kk))) none) none) none) none)) = some o := by
    rcases rOF_some e10 with ⟨a, x, f, h⟩ | ⟨a, b, x, f, h⟩
    · obtain ⟨t, N, d, m, rfl, h5⟩ := rCA_some h
      exact ⟨t, N, d, m, Or.inl ⟨a, f⟩, h5⟩
    · obtain ⟨t, N, d, m, rfl, h5⟩ := rCA_some h
      exact ⟨t, N, d, m, Or.inr ⟨a, b, f⟩, h5⟩
  obtain ⟨t1, N1, d1, m1, h4, e11⟩ := key
  obtain ⟨q3, c3, hp, e12⟩ := rO_some e11
  obtain ⟨t3, N3, d3, m3, rfl, e13⟩ := rCA_some e12
  obtain ⟨g1, e14⟩ := rB_yes e13
  obtain ⟨g2, e15⟩ := rB_yes e14
  obtain ⟨g3, e16⟩ := rB_yes e15
  obtain ⟨g4, e17⟩ := rB_yes e16
  obtain ⟨m2, e18, g5, g6⟩ := rCp_some N m3 e17
  have ht : t1 = t3 := Nat.eq_of_beq_eq_true g1
  subst ht
  have g2 : t1 ≤ 3 := Nat.ble_eq.mp g2
  have g3 : sp + N ≤ N1 := Nat.ble_eq.mp g3
  have g4 : dp + N ≤ N3 := Nat.ble_eq.mp g4
  have e19 := rWS_some _ _ e18
  refine ⟨_, _, _, _, _, e19, Nat.le_refl _, Nat.le_refl _, fun _ _ hV p e R s m args below meth c X r1' r2' r3' rl H locs hl hP hL => ?_⟩
  obtain ⟨a1, a2, a, cs, a3, a4, a5, a6, a7, a8, a9⟩ := arr_at X.2.2.2.2.2.1 hP h4
  obtain ⟨b1, b2, b3⟩ := pic_cell hP hp
  obtain ⟨ks0, ks, hks, sComp, hsk⟩ := a5
  obtain ⟨-, kd, hkd, dComp, hdk⟩ := X.2.2.2.2.2.1.arr b1 N3 (fun j => rv G (rL d3 m3 j))
  have hR1 := X.2.2.2.2.2.2.2.2.2.2.1
  have hR2 := X.2.2.2.2.2.2.2.2.2.2.2
  have hget : ∀ i, i < N → cs.slots.getD ((nI sp).toNatClampNeg + i) .null = rv G (rL d1 m1 (sp + i)) := fun i hi => by
    rw [nI_clamp (n := sp) (by omega), Array.getD_eq_getD_getElem?, a9 _ (by omega)]
    rfl
  rw [List.map_cons, List.map_cons, List.map_cons, List.map_cons, List.map_cons, rv_own G q3, a3]
  intro T hT Xs
  have hrank : (rTy t1 = .int ∨ rTy t1 = .long ∨ rTy t1 = .byte ∨ rTy t1 = .boolean) := by
    match t1, g2 with
    | 0, _ => exact Or.inl rfl
    | 1, _ => exact Or.inr (Or.inl rfl)
    | 2, _ => exact Or.inr (Or.inr (Or.inl rfl))
    | 3, _ => exact Or.inr (Or.inr (Or.inr rfl))
  have hsm := rSum_eq G X.2.2.2.2.2.1.2.2.1 st
  have hsum' : rSum st ≤ 8 := Nat.ble_eq.mp hsum
  obtain ⟨vm', X', step⟩ := Xs.arraycopy X.1 X.2.2.2.1 (X.2.2.2.2.1 _ w1) (X.2.2.2.2.1 _ w2) (X.2.2.2.2.1 _ w3) (X.2.2.2.2.1 _ w4) (src := a) (dst := G.2.2.1 + r3 / 2) (cs := cs) (srcPos := nI sp) (destPos := nI dp) (n := nI N) (by rw [hT]; exact a4) (by rw [hT]; exact b3)
    ks0 (fun _ h => by cases h) a6 (fun h => by cases h) hks hkd hsk hdk (by rcases hrank with h | h | h | h <;> rw [h] <;> rfl) (nI_pos (by omega)) (nI_pos (by omega)) (nI_pos (by omega))
    (by rw [nI_toInt (by omega), nI_toInt (by omega)]; omega)
    (by rw [nI_toInt (by omega), nI_toInt (by omega)]; show ¬ _ > ((arrV _ N3 _).slots.size : Int); rw [arrV_size]; omega)
    (fun vm₁ _ i hi => by
      rw [nI_clamp (n := N) (by omega)] at hi
      rw [hget i hi]
      have hfit := okT_fits G (g5 i hi)
      refine ⟨hfit, ?_⟩
      rcases hrank with h | h | h | h <;> rw [h] at hfit <;> revert hfit <;> cases rv G (rL d1 m1 (sp + i)) <;> intro hfit <;> first | exact trivial | cases hfit)
    (g := F0 m pc rl (.int (nI N) :: .int (nI dp) :: .ref (G.2.2.1 + r3 / 2) :: .int (nI sp) :: .ref a :: st.map (rv G))) rfl (by rw [X.2.2.1]; exact hl.1) (rest := st.map (rv G)) rfl (by rw [X.2.1]; exact hd) (by rw [hR1]; exact hf) (by rw [hR2]; show 2 * 0 + _ + _ ≤ _; rw [hsm]; omega)
  have ec : copied cs (arrV (G.2.1 t1) N3 (fun j => rv G (rL d3 m3 j))) (nI sp) (nI dp) (nI N) = arrV (G.2.1 t1) N3 (fun j => rv G (rL d3 m2 j)) := by
    show (arrV (G.2.1 t1) N3 (fun j => rv G (rL d3 m3 j))).storeRun (nI dp).toNatClampNeg (cs.stretch (nI sp).toNatClampNeg (nI N).toNatClampNeg) = _
    have es : cs.stretch (nI sp).toNatClampNeg (nI N).toNatClampNeg = (List.range N).map (fun i => rv G (rL d1 m1 (sp + i))) := by
      unfold Cell.stretch
      rw [nI_clamp (n := N) (by omega)]
      apply List.map_congr_left
      intro i hi
      exact hget i (List.mem_range.mp hi)
    rw [es, Cell.storeRun, va_pairs, nI_clamp (n := dp) (by omega)]
    congr 1
    funext j
    simp only [List.length_map, List.length_range, Nat.add_zero]
    rw [g6]
    by_cases h : dp ≤ j ∧ j < dp + N
    · rw [if_pos h, if_pos h, List.getD_eq_getElem?_getD, List.getElem?_map, List.getElem?_range (by omega)]
      rfl
    · rw [if_neg h, if_neg h]
  rw [ec] at X' step
  have hl1 : G.2.2.1 + r3 / 2 < H.size := (Array.getElem?_eq_some_iff.mp b3).1
  have hheap : ((T.setVm vm').setCell (G.2.2.1 + r3 / 2) (arrV (G.2.1 t1) N3 (fun j => rv G (rL d3 m2 j)))).heap = H.setIfInBounds (G.2.2.1 + r3 / 2) (arrV (G.2.1 t1) N3 (fun j => rv G (rL d3 m2 j))) := by rw [← hT]; rfl
  obtain ⟨t, u1, u2⟩ := hV p e R s m args below meth c X r1' r2' r3' rl _ _ hl (pic_set hP hp rfl ⟨b1, b2, show (H.setIfInBounds (G.2.2.1 + r3 / 2) _)[G.2.2.1 + r3 / 2]? = some _ by simp [Array.getElem?_setIfInBounds, hl1]⟩ (by simp) (fun q hq => by simp [Array.getElem?_setIfInBounds, Ne.symm hq])) (fun x hx => by
    rcases List.mem_append.mp hx with h | h
    · exact hL x h
    · obtain ⟨z, -, hz⟩ := List.mem_map.mp h
      rw [← hz]
      exact Nat.le_add_right _ _) _ hheap X'
  exact ⟨t, step t u1, u2⟩
end RA
