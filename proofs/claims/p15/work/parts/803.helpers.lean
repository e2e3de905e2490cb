/-! THE LAW'S FIVE HELPERS (written by wip/p2/genhelp.py) -/
def ytL : yTb := ([], ([], ([], [])))
theorem ytL_ok : yTO vwCl rZs rNs rTs "NativeWorksLaw" ytL := ⟨fun x hx => (by cases hx), fun x hx => (by cases hx), fun x hx => (by cases hx), fun x hx => (by cases hx)⟩
def mtL : yMt := ([], ([], ([], [])))
def bH_unit : qCd := [([(21, 0, 0, 0), (29, 446, 0, 0)], (0, 0, 1, 0, [])),
  ([(0, 0, 0, 0)], (5, 0, 0, 0, [((-2147483648), 0), (2147483647, 0)])),
  ([(0, 1, 0, 0)], (5, 0, 0, 0, [((-2147483648), 0), (2147483647, 0)]))]
def pH_unit : List Nat := [8, 17, 15]
theorem ywH_unit : yRows gAll LAll ytL mtL [] 5 1 (zby cL_unit) pH_unit bH_unit pH_unit = true := by decide +kernel
set_option maxRecDepth 100000 in
set_option maxHeartbeats 4000000 in
theorem tlH_unit (l : Launch) (G : rGm) (n : Nat) {s s1 : qSg} {r : qW} {a : qX} {u : qV} {z : Int} (hz : in32 z) (hE : CtEnd gAll cq275 r a s [u] s1) : kW gAll LAll vwCl rFo rZs rRs rNs rTs G l cL_unit 5 "NativeWorksLaw" (some .int) 16 419 n (kHQ gAll LAll vwCl rFo rZs rRs rNs G n (CtEnd gAll cH_unit r a s)) 8 [] [((0 : Nat), z), (0, 0), (2, 28161)] s1 := by
  have hA := yRows_ok (G := G) (n := n) (Qf := kHQ gAll LAll vwCl rFo rZs rRs rNs G n (CtEnd gAll cH_unit r a s)) (Rr := CtEnd gAll cH_unit r a s) (l := l) (fr := 16) (lo := 419) (ret := some .int) (cts := []) LAll_ok LAll_la ytL_ok (fun b hb => by cases hb) (fun x hx => by cases hx) (fun x hx => by cases hx) (yEh_h (by decide)) (show yRt 1 (some FieldType.int) from rfl) (fun x hx => by cases hx) (fun x hx => by cases hx) bH_unit pH_unit ywH_unit
  exact hA.1 _ _ _ ⟨z, _, rfl, hz, ⟨_, 0, 0, z, _, [], rfl, gOut, by decide, by decide, by decide, by decide, rfl, ⟨Int.le_trans (by decide) hz.1, Int.le_trans hz.2 (by decide)⟩, ⟨_, rfl, hA.2.1 _ _ _ ⟨0, _, _, rfl, rfl, by decide, by decide, kHend (b := 446) hE (hE.1.up0 gOut rfl (Int.le_trans (by decide) hz.1) (Int.le_trans hz.2 (by decide))) (fun b hb => by
      funext i
      exact if_neg (fun e => hb e.1)) rfl (fun b hb => (show ∀ b ∈ cq275.2.2.2, b ∈ cH_unit.2.2.2 by decide +kernel) b hb) (by decide +kernel) (by decide +kernel)
      (fun x hx hl => by
      rcases List.mem_cons.mp hx with rfl | hx
      · exact List.mem_of_getElem? (i := 0) rfl
      rcases List.mem_cons.mp hx with rfl | hx
      · cases hl
      cases hx)⟩⟩⟩⟩
set_option maxRecDepth 100000 in
set_option maxHeartbeats 4000000 in
theorem txH_unit_0 (l : Launch) (G : rGm) (n : Nat) {s s1 : qSg} {r : qW} {a : qX} (hE : CtEnd gAll cq275 r a s [] s1) : kW gAll LAll vwCl rFo rZs rRs rNs rTs G l cL_unit 5 "NativeWorksLaw" (some .int) 16 419 n (kHQ gAll LAll vwCl rFo rZs rRs rNs G n (CtEnd gAll cH_unit r a s)) 15 [] [] s1 := by
  have hA := yRows_ok (G := G) (n := n) (Qf := kHQ gAll LAll vwCl rFo rZs rRs rNs G n (CtEnd gAll cH_unit r a s)) (Rr := CtEnd gAll cH_unit r a s) (l := l) (fr := 16) (lo := 419) (ret := some .int) (cts := []) LAll_ok LAll_la ytL_ok (fun b hb => by cases hb) (fun x hx => by cases hx) (fun x hx => by cases hx) (yEh_h (by decide)) (show yRt 1 (some FieldType.int) from rfl) (fun x hx => by cases hx) (fun x hx => by cases hx) bH_unit pH_unit ywH_unit
  exact hA.2.2.1 _ _ _ ⟨1, _, _, rfl, rfl, by decide, by decide, kHend (b := 446) hE hE.1 (fun b hb => rfl) rfl (fun b hb => (show ∀ b ∈ cq275.2.2.2, b ∈ cH_unit.2.2.2 by decide +kernel) b hb) (by decide +kernel) (by decide +kernel)
      (fun x hx hl => by
      rcases List.mem_cons.mp hx with rfl | hx
      · cases hl
      rcases List.mem_cons.mp hx with rfl | hx
      · exact List.mem_of_getElem? (i := 1) rfl
      cases hx)⟩
theorem hdV_X11_unit : yX11_unit.cls = RX11 ∧ yX11_unit.cls ≠ "java/lang/invoke/MethodHandle" ∧ yX11_unit.cls ≠ "java/lang/invoke/VarHandle" ∧ (parseMethodDescriptor yX11_unit.desc).map (fun d => d.parameters.length) = some 2 := by decide +kernel
theorem rc275_b : (0, (2, ((2 * ((0 : Nat) : Int) + 1, []), (0, [])))) ∈ cq275.2.1.1 := List.mem_cons_self
set_option maxRecDepth 100000 in
set_option maxHeartbeats 4000000 in
theorem kH_unit (l : Launch) (hl : l.stackTraces = false) (v : Int) (b : Int) : kMetH gAll LAll vwCl rFo rZs rRs rNs rTs l yL_unit cL_unit 5 [(0, 10, 13, 13)] 16 419 cH_unit [(2, 1), (0, v), (0, b), (2, 28161)] := by
  intro G n s r a hT hB
  refine r_ofWH (cc := cL_unit) (maxL := 5) (ret := some .int) (hh := [(0, 10, 13, 13)]) (by decide +kernel) rfl ?_
  intro p e s0 m args below meth c s₁ B hml hv
  obtain ⟨rfl, hP, hKK, hNc⟩ := hv
  have hts := atoms_spec (ws := .codeWith yL_unit cL_unit 5 (some .int) [(0, 10, 13, 13)] :: rTs) B.pre
  have htab := vx_table (x := yL_unit) B (hts _ List.mem_cons_self)
  have X : rCx vwCl rFo rZs rRs rNs rTs G p (headSpec (.codeWith yL_unit cL_unit 5 (some .int) [(0, 10, 13, 13)] :: rTs) { frames := 16, cells := 1, slots := 6, locals := 419 }).room s0 m _ meth c cL_unit 5 "NativeWorksLaw" (some .int) false 16 419 := ⟨B.exec, B.bytes, hml, findClass_of_methodNamed B.named, fun q hq => hts q (List.mem_cons_of_mem _ hq), hKK, B.notSynchronized, ⟨Nat.le_trans (Nat.le_add_right _ _) hP.1, hP.2.1, fun h => absurd rfl h⟩, B.returns, (fun h => by cases h), rfl, rfl⟩
  have hB2 := hB
  obtain ⟨hlen, ls, hsub, hsat⟩ := hB2
  have h3 := zwid_ok (r := r) (nL := 5) G hKK.2.2.1 [(2, 1), (0, v), (0, b), (2, 28161)] 0 (by rw [hlen]; exact (show zwid cH_unit.2.1.1 cH_unit.1 0 5 = true by decide +kernel)) (fun q hq _ => hsub q (by rw [hsat.now.1]; exact hq))
  rw [Nat.zero_add] at h3
  have hl0 := lv_entry (([(2, 1), (0, v), (0, b), (2, 28161)] : List qV).map (kv G)) (n := 5) h3
  rw [lg_entry_eq]
  rw [← kLv_args G hKK.2.2.1] at hl0
  have e0 : kv G (2, 1) = .ref (G.2.2.1 + 0) := kv_ref G 0
  have e9 : kv G (2, 28161) = .ref (G.2.2.1 + 14080) := kv_ref G 14080
  have hl1 : lv_has _ 5 [(0, kv G (2, 1)), (1, kv G (0, v)), (2, kv G (0, b)), (3, kv G (2, 28161))] := hl0
  rw [e0, e9] at hl1
  refine lv_aload_n X.1 X.2.1 dL_unit_0 rfl (lv_at hl1 3 rfl) ?_
  refine lv_iconst (v := Int32.ofInt 0) X.1 X.2.1 dL_unit_1 (by decide) ?_
  refine lv_aload_n X.1 X.2.1 dL_unit_2 rfl (lv_at hl1 0 rfl) ?_
  refine lv_iload_n X.1 X.2.1 dL_unit_3 rfl (lv_at (v := .int (Int32.ofInt v)) hl1 1 rfl) ?_
  refine lv_iload_n X.1 X.2.1 dL_unit_4 rfl (lv_at (v := .int (Int32.ofInt b)) hl1 2 rfl) ?_
  have hst : ([.int (Int32.ofInt b), .int (Int32.ofInt v), .ref (G.2.2.1 + 0), .int (Int32.ofInt 0), .ref (G.2.2.1 + 14080)] : List Value) = (([(2, 1), (0, v), (0, b)] : List qV).reverse ++ [(0, 0), (2, 28161)]).map (kv G) := by
    show _ = [kv G (0, b), kv G (0, v), kv G (2, 1), kv G (0, 0), kv G (2, 28161)]
    rw [e0, e9]
    rfl
  rw [hst]
  refine w_both (w_callX 2 0 13 lo_0 kc13 rc275_b rfl (m275 l hl) kGood kw961 kw962 kw964 kw599 kw963 hdV_X11_unit (by decide) (by decide) hT (kHbeg (C := cq275) (as := [(2, 1), (0, v), (0, b)]) hB rfl rfl (by decide +kernel)) (by decide) X hl1.1 hP (Nat.le_refl _) (Nat.le_refl _) dL_unit_5) X.2.2.2.1 ?_ ?_
  · rintro res s1 ⟨⟨u, rfl⟩, hE⟩ H2 L2 hP2 hL2
    obtain ⟨z, rfl⟩ := end1x (t := 0) hE (by decide +kernel) (by decide)
    have hK := tlH_unit l G n (z := (Int32.ofInt z).toInt) (i_rng _) hE
    have hW := hK p e _ s0 m _ below meth c X ⟨trivial, Nat.le_refl _, Nat.le_refl _⟩ _ H2 _ (lv_sub hl1 [] rfl) hP2 hL2
    have ez : kv G (0, (Int32.ofInt z).toInt) = kv G (0, z) := congrArg Value.int (ofI_toInt _)
    rw [show ([(0, (Int32.ofInt z).toInt), (0, 0), (2, 28161)] : List qV).map (kv G) = ([(0, z)] : List qV).map (kv G) ++ ([(0, 0), (2, 28161)] : List qV).map (kv G) from congrArg (fun v => v :: ([(0, 0), (2, 28161)] : List qV).map (kv G)) ez] at hW
    exact hW
  · rintro E s1 ⟨hX, hE⟩ 
    cases hX
    refine ⟨[], ⟨0, 10, 13, 13⟩, [], "java/lang/IllegalArgumentException", htab, (fun z hz => by cases hz), by decide, by decide, X.2.2.2.2.1 _ kw1140, (va_Nw.use rfl (hKK.2.1.2 _ kn10).1), fun H2 L2 qa hP2 hL2 => ?_⟩
    refine lv_astore (nL := 5) X.1 X.2.1 dL_unit_13 hl1 (by decide) rfl (fun ls2 hl2 => ?_)
    exact txH_unit_0 l G n hE p e _ s0 m _ below meth c X ⟨trivial, Nat.le_refl _, Nat.le_refl _⟩ _ H2 _ (lv_sub hl2 [] rfl) hP2 hL2
def bH_link : qCd := [([(21, 0, 0, 0), (29, 446, 0, 0)], (0, 0, 1, 0, [])),
  ([(0, 0, 0, 0)], (5, 0, 0, 0, [((-2147483648), 0), (2147483647, 0)])),
  ([(0, 1, 0, 0)], (5, 0, 0, 0, [((-2147483648), 0), (2147483647, 0)]))]
def pH_link : List Nat := [6, 14, 12]
theorem ywH_link : yRows gAll LAll ytL mtL [] 3 1 (zby cL_link) pH_link bH_link pH_link = true := by decide +kernel
set_option maxRecDepth 100000 in
set_option maxHeartbeats 4000000 in
theorem tlH_link (l : Launch) (G : rGm) (n : Nat) {s s1 : qSg} {r : qW} {a : qX} {u : qV} {z : Int} (hz : in32 z) (hE : CtEnd gAll cq262 r a s [u] s1) : kW gAll LAll vwCl rFo rZs rRs rNs rTs G l cL_link 3 "NativeWorksLaw" (some .int) 14 366 n (kHQ gAll LAll vwCl rFo rZs rRs rNs G n (CtEnd gAll cH_link r a s)) 6 [] [((0 : Nat), z), (0, 0), (2, 28161)] s1 := by
  have hA := yRows_ok (G := G) (n := n) (Qf := kHQ gAll LAll vwCl rFo rZs rRs rNs G n (CtEnd gAll cH_link r a s)) (Rr := CtEnd gAll cH_link r a s) (l := l) (fr := 14) (lo := 366) (ret := some .int) (cts := []) LAll_ok LAll_la ytL_ok (fun b hb => by cases hb) (fun x hx => by cases hx) (fun x hx => by cases hx) (yEh_h (by decide)) (show yRt 1 (some FieldType.int) from rfl) (fun x hx => by cases hx) (fun x hx => by cases hx) bH_link pH_link ywH_link
  exact hA.1 _ _ _ ⟨z, _, rfl, hz, ⟨_, 0, 0, z, _, [], rfl, gOut, by decide, by decide, by decide, by decide, rfl, ⟨Int.le_trans (by decide) hz.1, Int.le_trans hz.2 (by decide)⟩, ⟨_, rfl, hA.2.1 _ _ _ ⟨0, _, _, rfl, rfl, by decide, by decide, kHend (b := 446) hE (hE.1.up0 gOut rfl (Int.le_trans (by decide) hz.1) (Int.le_trans hz.2 (by decide))) (fun b hb => by
      funext i
      exact if_neg (fun e => hb e.1)) rfl (fun b hb => (show ∀ b ∈ cq262.2.2.2, b ∈ cH_link.2.2.2 by decide +kernel) b hb) (by decide +kernel) (by decide +kernel)
      (fun x hx hl => by
      rcases List.mem_cons.mp hx with rfl | hx
      · exact List.mem_of_getElem? (i := 0) rfl
      rcases List.mem_cons.mp hx with rfl | hx
      · cases hl
      cases hx)⟩⟩⟩⟩
set_option maxRecDepth 100000 in
set_option maxHeartbeats 4000000 in
theorem txH_link_0 (l : Launch) (G : rGm) (n : Nat) {s s1 : qSg} {r : qW} {a : qX} (hE : CtEnd gAll cq262 r a s [] s1) : kW gAll LAll vwCl rFo rZs rRs rNs rTs G l cL_link 3 "NativeWorksLaw" (some .int) 14 366 n (kHQ gAll LAll vwCl rFo rZs rRs rNs G n (CtEnd gAll cH_link r a s)) 12 [] [] s1 := by
  have hA := yRows_ok (G := G) (n := n) (Qf := kHQ gAll LAll vwCl rFo rZs rRs rNs G n (CtEnd gAll cH_link r a s)) (Rr := CtEnd gAll cH_link r a s) (l := l) (fr := 14) (lo := 366) (ret := some .int) (cts := []) LAll_ok LAll_la ytL_ok (fun b hb => by cases hb) (fun x hx => by cases hx) (fun x hx => by cases hx) (yEh_h (by decide)) (show yRt 1 (some FieldType.int) from rfl) (fun x hx => by cases hx) (fun x hx => by cases hx) bH_link pH_link ywH_link
  exact hA.2.2.1 _ _ _ ⟨1, _, _, rfl, rfl, by decide, by decide, kHend (b := 446) hE hE.1 (fun b hb => rfl) rfl (fun b hb => (show ∀ b ∈ cq262.2.2.2, b ∈ cH_link.2.2.2 by decide +kernel) b hb) (by decide +kernel) (by decide +kernel)
      (fun x hx hl => by
      rcases List.mem_cons.mp hx with rfl | hx
      · cases hl
      rcases List.mem_cons.mp hx with rfl | hx
      · exact List.mem_of_getElem? (i := 1) rfl
      cases hx)⟩
theorem hdV_X11_link : yX11_link.cls = RX11 ∧ yX11_link.cls ≠ "java/lang/invoke/MethodHandle" ∧ yX11_link.cls ≠ "java/lang/invoke/VarHandle" ∧ (parseMethodDescriptor yX11_link.desc).map (fun d => d.parameters.length) = some 0 := by decide +kernel
theorem rc262_b : (0, (2, ((2 * ((0 : Nat) : Int) + 1, []), (0, [])))) ∈ cq262.2.1.1 := List.mem_cons_self
set_option maxRecDepth 100000 in
set_option maxHeartbeats 4000000 in
theorem kH_link (l : Launch) (hl : l.stackTraces = false)  : kMetH gAll LAll vwCl rFo rZs rRs rNs rTs l yL_link cL_link 3 [(0, 8, 11, 19)] 14 366 cH_link [(2, 1), (2, 28161)] := by
  intro G n s r a hT hB
  refine r_ofWH (cc := cL_link) (maxL := 3) (ret := some .int) (hh := [(0, 8, 11, 19)]) (by decide +kernel) rfl ?_
  intro p e s0 m args below meth c s₁ B hml hv
  obtain ⟨rfl, hP, hKK, hNc⟩ := hv
  have hts := atoms_spec (ws := .codeWith yL_link cL_link 3 (some .int) [(0, 8, 11, 19)] :: rTs) B.pre
  have htab := vx_table (x := yL_link) B (hts _ List.mem_cons_self)
  have X : rCx vwCl rFo rZs rRs rNs rTs G p (headSpec (.codeWith yL_link cL_link 3 (some .int) [(0, 8, 11, 19)] :: rTs) { frames := 14, cells := 1, slots := 6, locals := 366 }).room s0 m _ meth c cL_link 3 "NativeWorksLaw" (some .int) false 14 366 := ⟨B.exec, B.bytes, hml, findClass_of_methodNamed B.named, fun q hq => hts q (List.mem_cons_of_mem _ hq), hKK, B.notSynchronized, ⟨Nat.le_trans (Nat.le_add_right _ _) hP.1, hP.2.1, fun h => absurd rfl h⟩, B.returns, (fun h => by cases h), rfl, rfl⟩
  have hB2 := hB
  obtain ⟨hlen, ls, hsub, hsat⟩ := hB2
  have h3 := zwid_ok (r := r) (nL := 3) G hKK.2.2.1 [(2, 1), (2, 28161)] 0 (by rw [hlen]; exact (show zwid cH_link.2.1.1 cH_link.1 0 3 = true by decide +kernel)) (fun q hq _ => hsub q (by rw [hsat.now.1]; exact hq))
  rw [Nat.zero_add] at h3
  have hl0 := lv_entry (([(2, 1), (2, 28161)] : List qV).map (kv G)) (n := 3) h3
  rw [lg_entry_eq]
  rw [← kLv_args G hKK.2.2.1] at hl0
  have e0 : kv G (2, 1) = .ref (G.2.2.1 + 0) := kv_ref G 0
  have e9 : kv G (2, 28161) = .ref (G.2.2.1 + 14080) := kv_ref G 14080
  have hl1 : lv_has _ 3 [(0, kv G (2, 1)), (1, kv G (2, 28161))] := hl0
  rw [e0, e9] at hl1
  refine lv_aload_n X.1 X.2.1 dL_link_0 rfl (lv_at hl1 1 rfl) ?_
  refine lv_iconst (v := Int32.ofInt 0) X.1 X.2.1 dL_link_1 (by decide) ?_
  refine lv_aload_n X.1 X.2.1 dL_link_2 rfl (lv_at hl1 0 rfl) ?_
  have hst : ([.ref (G.2.2.1 + 0), .int (Int32.ofInt 0), .ref (G.2.2.1 + 14080)] : List Value) = (([(2, 1)] : List qV).reverse ++ [(0, 0), (2, 28161)]).map (kv G) := by
    show _ = [kv G (2, 1), kv G (0, 0), kv G (2, 28161)]
    rw [e0, e9]
    rfl
  rw [hst]
  refine w_both (w_callX 0 0 13 lo_0 kc13 rc262_b rfl (m262 l hl) kGood kw965 kw966 kw968 kw599 kw967 hdV_X11_link (by decide) (by decide) hT (kHbeg (C := cq262) (as := [(2, 1)]) hB rfl rfl (by decide +kernel)) (by decide) X hl1.1 hP (Nat.le_refl _) (Nat.le_refl _) dL_link_3) X.2.2.2.1 ?_ ?_
  · rintro res s1 ⟨⟨u, rfl⟩, hE⟩ H2 L2 hP2 hL2
    obtain ⟨z, rfl⟩ := end1x (t := 0) hE (by decide +kernel) (by decide)
    have hK := tlH_link l G n (z := (Int32.ofInt z).toInt) (i_rng _) hE
    have hW := hK p e _ s0 m _ below meth c X ⟨trivial, Nat.le_refl _, Nat.le_refl _⟩ _ H2 _ (lv_sub hl1 [] rfl) hP2 hL2
    have ez : kv G (0, (Int32.ofInt z).toInt) = kv G (0, z) := congrArg Value.int (ofI_toInt _)
    rw [show ([(0, (Int32.ofInt z).toInt), (0, 0), (2, 28161)] : List qV).map (kv G) = ([(0, z)] : List qV).map (kv G) ++ ([(0, 0), (2, 28161)] : List qV).map (kv G) from congrArg (fun v => v :: ([(0, 0), (2, 28161)] : List qV).map (kv G)) ez] at hW
    exact hW
  · rintro E s1 ⟨hX, hE⟩ 
    cases hX
    refine ⟨[], ⟨0, 8, 11, 19⟩, [], "java/lang/IllegalStateException", htab, (fun z hz => by cases hz), by decide, by decide, X.2.2.2.2.1 _ kw1141, (va_Nw.use rfl (hKK.2.1.2 _ kn8).1), fun H2 L2 qa hP2 hL2 => ?_⟩
    refine lv_astore_n (nL := 3) X.1 X.2.1 dL_link_11 rfl hl1 (by decide) rfl (fun ls2 hl2 => ?_)
    exact txH_link_0 l G n hE p e _ s0 m _ below meth c X ⟨trivial, Nat.le_refl _, Nat.le_refl _⟩ _ H2 _ (lv_sub hl2 [] rfl) hP2 hL2
def bH_symbol : qCd := [([(29, 446, 0, 0)], (0, 0, 1, 0, [])),
  ([(0, 0, 0, 0)], (5, 0, 0, 0, [((-2147483648), 0), (2147483647, 0)])),
  ([(0, 1, 0, 0)], (5, 0, 0, 0, [((-2147483648), 0), (2147483647, 0)]))]
def pH_symbol : List Nat := [7, 14, 12]
theorem ywH_symbol : yRows gAll LAll ytL mtL [] 4 1 (zby cL_symbol) pH_symbol bH_symbol pH_symbol = true := by decide +kernel
set_option maxRecDepth 100000 in
set_option maxHeartbeats 4000000 in
theorem tlH_symbol (l : Launch) (G : rGm) (n : Nat) {s s1 : qSg} {r : qW} {a : qX} {u : qV} {z : Int} (hz : in64 z) (hE : CtEnd gAll cq274 r a s [u] s1) : kW gAll LAll vwCl rFo rZs rRs rNs rTs G l cL_symbol 4 "NativeWorksLaw" (some .int) 10 266 n (kHQ gAll LAll vwCl rFo rZs rRs rNs G n (CtEnd gAll cH_symbol r a s)) 7 [] [((1 : Nat), z), (0, 0), (2, 28161)] s1 := by
  have hA := yRows_ok (G := G) (n := n) (Qf := kHQ gAll LAll vwCl rFo rZs rRs rNs G n (CtEnd gAll cH_symbol r a s)) (Rr := CtEnd gAll cH_symbol r a s) (l := l) (fr := 10) (lo := 266) (ret := some .int) (cts := []) LAll_ok LAll_la ytL_ok (fun b hb => by cases hb) (fun x hx => by cases hx) (fun x hx => by cases hx) (yEh_h (by decide)) (show yRt 1 (some FieldType.int) from rfl) (fun x hx => by cases hx) (fun x hx => by cases hx) bH_symbol pH_symbol ywH_symbol
  exact hA.1 _ _ _ ⟨_, 0, 0, z, _, [], rfl, gOut, by decide, by decide, by decide, by decide, rfl, hz, ⟨_, rfl, hA.2.1 _ _ _ ⟨0, _, _, rfl, rfl, by decide, by decide, kHend (b := 446) hE (hE.1.up0 gOut rfl hz.1 hz.2) (fun b hb => by
      funext i
      exact if_neg (fun e => hb e.1)) rfl (fun b hb => (show ∀ b ∈ cq274.2.2.2, b ∈ cH_symbol.2.2.2 by decide +kernel) b hb) (by decide +kernel) (by decide +kernel)
      (fun x hx hl => by
      rcases List.mem_cons.mp hx with rfl | hx
      · exact List.mem_of_getElem? (i := 0) rfl
      rcases List.mem_cons.mp hx with rfl | hx
      · cases hl
      cases hx)⟩⟩⟩
set_option maxRecDepth 100000 in
set_option maxHeartbeats 4000000 in
theorem txH_symbol_0 (l : Launch) (G : rGm) (n : Nat) {s s1 : qSg} {r : qW} {a : qX} (hE : CtEnd gAll cq274 r a s [] s1) : kW gAll LAll vwCl rFo rZs rRs rNs rTs G l cL_symbol 4 "NativeWorksLaw" (some .int) 10 266 n (kHQ gAll LAll vwCl rFo rZs rRs rNs G n (CtEnd gAll cH_symbol r a s)) 12 [] [] s1 := by
  have hA := yRows_ok (G := G) (n := n) (Qf := kHQ gAll LAll vwCl rFo rZs rRs rNs G n (CtEnd gAll cH_symbol r a s)) (Rr := CtEnd gAll cH_symbol r a s) (l := l) (fr := 10) (lo := 266) (ret := some .int) (cts := []) LAll_ok LAll_la ytL_ok (fun b hb => by cases hb) (fun x hx => by cases hx) (fun x hx => by cases hx) (yEh_h (by decide)) (show yRt 1 (some FieldType.int) from rfl) (fun x hx => by cases hx) (fun x hx => by cases hx) bH_symbol pH_symbol ywH_symbol
  exact hA.2.2.1 _ _ _ ⟨1, _, _, rfl, rfl, by decide, by decide, kHend (b := 446) hE hE.1 (fun b hb => rfl) rfl (fun b hb => (show ∀ b ∈ cq274.2.2.2, b ∈ cH_symbol.2.2.2 by decide +kernel) b hb) (by decide +kernel) (by decide +kernel)
      (fun x hx hl => by
      rcases List.mem_cons.mp hx with rfl | hx
      · cases hl
      rcases List.mem_cons.mp hx with rfl | hx
      · exact List.mem_of_getElem? (i := 1) rfl
      cases hx)⟩
theorem hdV_X11_symbol : yX11_symbol.cls = RX11 ∧ yX11_symbol.cls ≠ "java/lang/invoke/MethodHandle" ∧ yX11_symbol.cls ≠ "java/lang/invoke/VarHandle" ∧ (parseMethodDescriptor yX11_symbol.desc).map (fun d => d.parameters.length) = some 1 := by decide +kernel
theorem rc274_b : (0, (2, ((2 * ((0 : Nat) : Int) + 1, []), (0, [])))) ∈ cq274.2.1.1 := List.mem_cons_self
set_option maxRecDepth 100000 in
set_option maxHeartbeats 4000000 in
theorem kH_symbol (l : Launch) (hl : l.stackTraces = false) (v : Int) : kMetH gAll LAll vwCl rFo rZs rRs rNs rTs l yL_symbol cL_symbol 4 [(0, 8, 11, 25)] 10 266 cH_symbol [(2, 1), (0, v), (2, 28161)] := by
  intro G n s r a hT hB
  refine r_ofWH (cc := cL_symbol) (maxL := 4) (ret := some .int) (hh := [(0, 8, 11, 25)]) (by decide +kernel) rfl ?_
  intro p e s0 m args below meth c s₁ B hml hv
  obtain ⟨rfl, hP, hKK, hNc⟩ := hv
  have hts := atoms_spec (ws := .codeWith yL_symbol cL_symbol 4 (some .int) [(0, 8, 11, 25)] :: rTs) B.pre
  have htab := vx_table (x := yL_symbol) B (hts _ List.mem_cons_self)
  have X : rCx vwCl rFo rZs rRs rNs rTs G p (headSpec (.codeWith yL_symbol cL_symbol 4 (some .int) [(0, 8, 11, 25)] :: rTs) { frames := 10, cells := 1, slots := 6, locals := 266 }).room s0 m _ meth c cL_symbol 4 "NativeWorksLaw" (some .int) false 10 266 := ⟨B.exec, B.bytes, hml, findClass_of_methodNamed B.named, fun q hq => hts q (List.mem_cons_of_mem _ hq), hKK, B.notSynchronized, ⟨Nat.le_trans (Nat.le_add_right _ _) hP.1, hP.2.1, fun h => absurd rfl h⟩, B.returns, (fun h => by cases h), rfl, rfl⟩
  have hB2 := hB
  obtain ⟨hlen, ls, hsub, hsat⟩ := hB2
  have h3 := zwid_ok (r := r) (nL := 4) G hKK.2.2.1 [(2, 1), (0, v), (2, 28161)] 0 (by rw [hlen]; exact (show zwid cH_symbol.2.1.1 cH_symbol.1 0 4 = true by decide +kernel)) (fun q hq _ => hsub q (by rw [hsat.now.1]; exact hq))
  rw [Nat.zero_add] at h3
  have hl0 := lv_entry (([(2, 1), (0, v), (2, 28161)] : List qV).map (kv G)) (n := 4) h3
  rw [lg_entry_eq]
  rw [← kLv_args G hKK.2.2.1] at hl0
  have e0 : kv G (2, 1) = .ref (G.2.2.1 + 0) := kv_ref G 0
  have e9 : kv G (2, 28161) = .ref (G.2.2.1 + 14080) := kv_ref G 14080
  have hl1 : lv_has _ 4 [(0, kv G (2, 1)), (1, kv G (0, v)), (2, kv G (2, 28161))] := hl0
  rw [e0, e9] at hl1
  refine lv_aload_n X.1 X.2.1 dL_symbol_0 rfl (lv_at hl1 2 rfl) ?_
  refine lv_iconst (v := Int32.ofInt 0) X.1 X.2.1 dL_symbol_1 (by decide) ?_
  refine lv_aload_n X.1 X.2.1 dL_symbol_2 rfl (lv_at hl1 0 rfl) ?_
  refine lv_iload_n X.1 X.2.1 dL_symbol_3 rfl (lv_at (v := .int (Int32.ofInt v)) hl1 1 rfl) ?_
  have hst : ([.int (Int32.ofInt v), .ref (G.2.2.1 + 0), .int (Int32.ofInt 0), .ref (G.2.2.1 + 14080)] : List Value) = (([(2, 1), (0, v)] : List qV).reverse ++ [(0, 0), (2, 28161)]).map (kv G) := by
    show _ = [kv G (0, v), kv G (2, 1), kv G (0, 0), kv G (2, 28161)]
    rw [e0, e9]
    rfl
  rw [hst]
  refine w_both (w_callX 1 0 13 lo_0 kc13 rc274_b rfl (m274 l hl) kGood kw969 kw970 kw972 kw599 kw971 hdV_X11_symbol (by decide) (by decide) hT (kHbeg (C := cq274) (as := [(2, 1), (0, v)]) hB rfl rfl (by decide +kernel)) (by decide) X hl1.1 hP (Nat.le_refl _) (Nat.le_refl _) dL_symbol_4) X.2.2.2.1 ?_ ?_
  · rintro res s1 ⟨⟨u, rfl⟩, hE⟩ H2 L2 hP2 hL2
    obtain ⟨z, rfl⟩ := end1x (t := 1) hE (by decide +kernel) (by decide)
    have hK := tlH_symbol l G n (z := (Int64.ofInt z).toInt) (j_rng _) hE
    have hW := hK p e _ s0 m _ below meth c X ⟨trivial, Nat.le_refl _, Nat.le_refl _⟩ _ H2 _ (lv_sub hl1 [] rfl) hP2 hL2
    have ez : kv G (1, (Int64.ofInt z).toInt) = kv G (1, z) := congrArg Value.long (ofJ_toInt _)
    rw [show ([(1, (Int64.ofInt z).toInt), (0, 0), (2, 28161)] : List qV).map (kv G) = ([(1, z)] : List qV).map (kv G) ++ ([(0, 0), (2, 28161)] : List qV).map (kv G) from congrArg (fun v => v :: ([(0, 0), (2, 28161)] : List qV).map (kv G)) ez] at hW
    exact hW
  · rintro E s1 ⟨hX, hE⟩ 
    cases hX
    refine ⟨[], ⟨0, 8, 11, 25⟩, [], "java/util/NoSuchElementException", htab, (fun z hz => by cases hz), by decide, by decide, X.2.2.2.2.1 _ kw1142, (va_Nw.use rfl (hKK.2.1.2 _ kn9).1), fun H2 L2 qa hP2 hL2 => ?_⟩
    refine lv_astore_n (nL := 4) X.1 X.2.1 dL_symbol_11 rfl hl1 (by decide) rfl (fun ls2 hl2 => ?_)
    exact txH_symbol_0 l G n hE p e _ s0 m _ below meth c X ⟨trivial, Nat.le_refl _, Nat.le_refl _⟩ _ H2 _ (lv_sub hl2 [] rfl) hP2 hL2
def bH_load : qCd := [([(29, 446, 0, 0)], (0, 0, 1, 0, [])),
  ([(0, 0, 0, 0)], (5, 0, 0, 0, [((-2147483648), 0), (2147483647, 0)])),
  ([(0, 1, 0, 0)], (5, 0, 0, 0, [((-2147483648), 0), (2147483647, 0)]))]
def pH_load : List Nat := [6, 13, 11]
theorem ywH_load : yRows gAll LAll ytL mtL [] 3 1 (zby cL_load) pH_load bH_load pH_load = true := by decide +kernel
set_option maxRecDepth 100000 in
set_option maxHeartbeats 4000000 in
theorem tlH_load (l : Launch) (G : rGm) (n : Nat) {s s1 : qSg} {r : qW} {a : qX} {u : qV} {z : Int} (hz : in64 z) (hE : CtEnd gAll cq263 r a s [u] s1) : kW gAll LAll vwCl rFo rZs rRs rNs rTs G l cL_load 3 "NativeWorksLaw" (some .int) 12 311 n (kHQ gAll LAll vwCl rFo rZs rRs rNs G n (CtEnd gAll cH_load r a s)) 6 [] [((1 : Nat), z), (0, 0), (2, 28161)] s1 := by
  have hA := yRows_ok (G := G) (n := n) (Qf := kHQ gAll LAll vwCl rFo rZs rRs rNs G n (CtEnd gAll cH_load r a s)) (Rr := CtEnd gAll cH_load r a s) (l := l) (fr := 12) (lo := 311) (ret := some .int) (cts := []) LAll_ok LAll_la ytL_ok (fun b hb => by cases hb) (fun x hx => by cases hx) (fun x hx => by cases hx) (yEh_h (by decide)) (show yRt 1 (some FieldType.int) from rfl) (fun x hx => by cases hx) (fun x hx => by cases hx) bH_load pH_load ywH_load
  exact hA.1 _ _ _ ⟨_, 0, 0, z, _, [], rfl, gOut, by decide, by decide, by decide, by decide, rfl, hz, ⟨_, rfl, hA.2.1 _ _ _ ⟨0, _, _, rfl, rfl, by decide, by decide, kHend (b := 446) hE (hE.1.up0 gOut rfl hz.1 hz.2) (fun b hb => by
      funext i
      exact if_neg (fun e => hb e.1)) rfl (fun b hb => (show ∀ b ∈ cq263.2.2.2, b ∈ cH_load.2.2.2 by decide +kernel) b hb) (by decide +kernel) (by decide +kernel)
      (fun x hx hl => by
      rcases List.mem_cons.mp hx with rfl | hx
      · exact List.mem_of_getElem? (i := 0) rfl
      rcases List.mem_cons.mp hx with rfl | hx
      · cases hl
      cases hx)⟩⟩⟩
set_option maxRecDepth 100000 in
set_option maxHeartbeats 4000000 in
theorem txH_load_0 (l : Launch) (G : rGm) (n : Nat) {s s1 : qSg} {r : qW} {a : qX} (hE : CtEnd gAll cq263 r a s [] s1) : kW gAll LAll vwCl rFo rZs rRs rNs rTs G l cL_load 3 "NativeWorksLaw" (some .int) 12 311 n (kHQ gAll LAll vwCl rFo rZs rRs rNs G n (CtEnd gAll cH_load r a s)) 11 [] [] s1 := by
  have hA := yRows_ok (G := G) (n := n) (Qf := kHQ gAll LAll vwCl rFo rZs rRs rNs G n (CtEnd gAll cH_load r a s)) (Rr := CtEnd gAll cH_load r a s) (l := l) (fr := 12) (lo := 311) (ret := some .int) (cts := []) LAll_ok LAll_la ytL_ok (fun b hb => by cases hb) (fun x hx => by cases hx) (fun x hx => by cases hx) (yEh_h (by decide)) (show yRt 1 (some FieldType.int) from rfl) (fun x hx => by cases hx) (fun x hx => by cases hx) bH_load pH_load ywH_load
  exact hA.2.2.1 _ _ _ ⟨1, _, _, rfl, rfl, by decide, by decide, kHend (b := 446) hE hE.1 (fun b hb => rfl) rfl (fun b hb => (show ∀ b ∈ cq263.2.2.2, b ∈ cH_load.2.2.2 by decide +kernel) b hb) (by decide +kernel) (by decide +kernel)
      (fun x hx hl => by
      rcases List.mem_cons.mp hx with rfl | hx
      · cases hl
      rcases List.mem_cons.mp hx with rfl | hx
      · exact List.mem_of_getElem? (i := 1) rfl
      cases hx)⟩
theorem hdV_X11_load : yX11_load.cls = RX11 ∧ yX11_load.cls ≠ "java/lang/invoke/MethodHandle" ∧ yX11_load.cls ≠ "java/lang/invoke/VarHandle" ∧ (parseMethodDescriptor yX11_load.desc).map (fun d => d.parameters.length) = some 0 := by decide +kernel
theorem rc263_b : (0, (2, ((2 * ((0 : Nat) : Int) + 1, []), (0, [])))) ∈ cq263.2.1.1 := List.mem_cons_self
set_option maxRecDepth 100000 in
set_option maxHeartbeats 4000000 in
theorem kH_load (l : Launch) (hl : l.stackTraces = false)  : kMetH gAll LAll vwCl rFo rZs rRs rNs rTs l yL_load cL_load 3 [(0, 7, 10, 19)] 12 311 cH_load [(2, 1), (2, 28161)] := by
  intro G n s r a hT hB
  refine r_ofWH (cc := cL_load) (maxL := 3) (ret := some .int) (hh := [(0, 7, 10, 19)]) (by decide +kernel) rfl ?_
  intro p e s0 m args below meth c s₁ B hml hv
  obtain ⟨rfl, hP, hKK, hNc⟩ := hv
  have hts := atoms_spec (ws := .codeWith yL_load cL_load 3 (some .int) [(0, 7, 10, 19)] :: rTs) B.pre
  have htab := vx_table (x := yL_load) B (hts _ List.mem_cons_self)
  have X : rCx vwCl rFo rZs rRs rNs rTs G p (headSpec (.codeWith yL_load cL_load 3 (some .int) [(0, 7, 10, 19)] :: rTs) { frames := 12, cells := 1, slots := 6, locals := 311 }).room s0 m _ meth c cL_load 3 "NativeWorksLaw" (some .int) false 12 311 := ⟨B.exec, B.bytes, hml, findClass_of_methodNamed B.named, fun q hq => hts q (List.mem_cons_of_mem _ hq), hKK, B.notSynchronized, ⟨Nat.le_trans (Nat.le_add_right _ _) hP.1, hP.2.1, fun h => absurd rfl h⟩, B.returns, (fun h => by cases h), rfl, rfl⟩
  have hB2 := hB
  obtain ⟨hlen, ls, hsub, hsat⟩ := hB2
  have h3 := zwid_ok (r := r) (nL := 3) G hKK.2.2.1 [(2, 1), (2, 28161)] 0 (by rw [hlen]; exact (show zwid cH_load.2.1.1 cH_load.1 0 3 = true by decide +kernel)) (fun q hq _ => hsub q (by rw [hsat.now.1]; exact hq))
  rw [Nat.zero_add] at h3
  have hl0 := lv_entry (([(2, 1), (2, 28161)] : List qV).map (kv G)) (n := 3) h3
  rw [lg_entry_eq]
  rw [← kLv_args G hKK.2.2.1] at hl0
  have e0 : kv G (2, 1) = .ref (G.2.2.1 + 0) := kv_ref G 0
  have e9 : kv G (2, 28161) = .ref (G.2.2.1 + 14080) := kv_ref G 14080
  have hl1 : lv_has _ 3 [(0, kv G (2, 1)), (1, kv G (2, 28161))] := hl0
  rw [e0, e9] at hl1
  refine lv_aload_n X.1 X.2.1 dL_load_0 rfl (lv_at hl1 1 rfl) ?_
  refine lv_iconst (v := Int32.ofInt 0) X.1 X.2.1 dL_load_1 (by decide) ?_
  refine lv_aload_n X.1 X.2.1 dL_load_2 rfl (lv_at hl1 0 rfl) ?_
  have hst : ([.ref (G.2.2.1 + 0), .int (Int32.ofInt 0), .ref (G.2.2.1 + 14080)] : List Value) = (([(2, 1)] : List qV).reverse ++ [(0, 0), (2, 28161)]).map (kv G) := by
    show _ = [kv G (2, 1), kv G (0, 0), kv G (2, 28161)]
    rw [e0, e9]
    rfl
  rw [hst]
  refine w_both (w_callX 0 0 13 lo_0 kc13 rc263_b rfl (m263 l hl) kGood kw973 kw974 kw976 kw599 kw975 hdV_X11_load (by decide) (by decide) hT (kHbeg (C := cq263) (as := [(2, 1)]) hB rfl rfl (by decide +kernel)) (by decide) X hl1.1 hP (Nat.le_refl _) (Nat.le_refl _) dL_load_3) X.2.2.2.1 ?_ ?_
  · rintro res s1 ⟨⟨u, rfl⟩, hE⟩ H2 L2 hP2 hL2
    obtain ⟨z, rfl⟩ := end1x (t := 1) hE (by decide +kernel) (by decide)
    have hK := tlH_load l G n (z := (Int64.ofInt z).toInt) (j_rng _) hE
    have hW := hK p e _ s0 m _ below meth c X ⟨trivial, Nat.le_refl _, Nat.le_refl _⟩ _ H2 _ (lv_sub hl1 [] rfl) hP2 hL2
    have ez : kv G (1, (Int64.ofInt z).toInt) = kv G (1, z) := congrArg Value.long (ofJ_toInt _)
    rw [show ([(1, (Int64.ofInt z).toInt), (0, 0), (2, 28161)] : List qV).map (kv G) = ([(1, z)] : List qV).map (kv G) ++ ([(0, 0), (2, 28161)] : List qV).map (kv G) from congrArg (fun v => v :: ([(0, 0), (2, 28161)] : List qV).map (kv G)) ez] at hW
    exact hW
  · rintro E s1 ⟨hX, hE⟩ 
    cases hX
    refine ⟨[], ⟨0, 7, 10, 19⟩, [], "java/lang/IllegalStateException", htab, (fun z hz => by cases hz), by decide, by decide, X.2.2.2.2.1 _ kw1141, (va_Nw.use rfl (hKK.2.1.2 _ kn8).1), fun H2 L2 qa hP2 hL2 => ?_⟩
    refine lv_astore_n (nL := 3) X.1 X.2.1 dL_load_10 rfl hl1 (by decide) rfl (fun ls2 hl2 => ?_)
    exact txH_load_0 l G n hE p e _ s0 m _ below meth c X ⟨trivial, Nat.le_refl _, Nat.le_refl _⟩ _ H2 _ (lv_sub hl2 [] rfl) hP2 hL2
def bH_run : qCd := [([(21, 0, 0, 0), (29, 446, 0, 0)], (0, 0, 1, 0, [])),
  ([(0, 0, 0, 0)], (5, 0, 0, 0, [((-2147483648), 0), (2147483647, 0)])),
  ([(0, 1, 0, 0)], (5, 0, 0, 0, [((-2147483648), 0), (2147483647, 0)])),
  ([(0, 2, 0, 0)], (5, 0, 0, 0, [((-2147483648), 0), (2147483647, 0)]))]
def pH_run : List Nat := [7, 18, 13, 16]
theorem ywH_run : yRows gAll LAll ytL mtL [] 4 1 (zby cL_run) pH_run bH_run pH_run = true := by decide +kernel
set_option maxRecDepth 100000 in
set_option maxHeartbeats 4000000 in
theorem tlH_run (l : Launch) (G : rGm) (n : Nat) {s s1 : qSg} {r : qW} {a : qX} {u : qV} {z : Int} (hz : in32 z) (hE : CtEnd gAll cq269 r a s [u] s1) : kW gAll LAll vwCl rFo rZs rRs rNs rTs G l cL_run 4 "NativeWorksLaw" (some .int) 15 402 n (kHQ gAll LAll vwCl rFo rZs rRs rNs G n (CtEnd gAll cH_run r a s)) 7 [] [((0 : Nat), z), (0, 0), (2, 28161)] s1 := by
  have hA := yRows_ok (G := G) (n := n) (Qf := kHQ gAll LAll vwCl rFo rZs rRs rNs G n (CtEnd gAll cH_run r a s)) (Rr := CtEnd gAll cH_run r a s) (l := l) (fr := 15) (lo := 402) (ret := some .int) (cts := []) LAll_ok LAll_la ytL_ok (fun b hb => by cases hb) (fun x hx => by cases hx) (fun x hx => by cases hx) (yEh_h (by decide)) (show yRt 1 (some FieldType.int) from rfl) (fun x hx => by cases hx) (fun x hx => by cases hx) bH_run pH_run ywH_run
  exact hA.1 _ _ _ ⟨z, _, rfl, hz, ⟨_, 0, 0, z, _, [], rfl, gOut, by decide, by decide, by decide, by decide, rfl, ⟨Int.le_trans (by decide) hz.1, Int.le_trans hz.2 (by decide)⟩, ⟨_, rfl, hA.2.1 _ _ _ ⟨0, _, _, rfl, rfl, by decide, by decide, kHend (b := 446) hE (hE.1.up0 gOut rfl (Int.le_trans (by decide) hz.1) (Int.le_trans hz.2 (by decide))) (fun b hb => by
      funext i
      exact if_neg (fun e => hb e.1)) rfl (fun b hb => (show ∀ b ∈ cq269.2.2.2, b ∈ cH_run.2.2.2 by decide +kernel) b hb) (by decide +kernel) (by decide +kernel)
      (fun x hx hl => by
      rcases List.mem_cons.mp hx with rfl | hx
      · exact List.mem_of_getElem? (i := 0) rfl
      rcases List.mem_cons.mp hx with rfl | hx
      · exact List.mem_of_getElem? (i := 1) rfl
      rcases List.mem_cons.mp hx with rfl | hx
      · cases hl
      cases hx)⟩⟩⟩⟩
set_option maxRecDepth 100000 in
set_option maxHeartbeats 4000000 in
theorem txH_run_0 (l : Launch) (G : rGm) (n : Nat) {s s1 : qSg} {r : qW} {a : qX} (hE : CtEnd gAll cq269 r a s [] s1) : kW gAll LAll vwCl rFo rZs rRs rNs rTs G l cL_run 4 "NativeWorksLaw" (some .int) 15 402 n (kHQ gAll LAll vwCl rFo rZs rRs rNs G n (CtEnd gAll cH_run r a s)) 13 [] [] s1 := by
  have hA := yRows_ok (G := G) (n := n) (Qf := kHQ gAll LAll vwCl rFo rZs rRs rNs G n (CtEnd gAll cH_run r a s)) (Rr := CtEnd gAll cH_run r a s) (l := l) (fr := 15) (lo := 402) (ret := some .int) (cts := []) LAll_ok LAll_la ytL_ok (fun b hb => by cases hb) (fun x hx => by cases hx) (fun x hx => by cases hx) (yEh_h (by decide)) (show yRt 1 (some FieldType.int) from rfl) (fun x hx => by cases hx) (fun x hx => by cases hx) bH_run pH_run ywH_run
  exact hA.2.2.1 _ _ _ ⟨1, _, _, rfl, rfl, by decide, by decide, kHend (b := 446) hE hE.1 (fun b hb => rfl) rfl (fun b hb => (show ∀ b ∈ cq269.2.2.2, b ∈ cH_run.2.2.2 by decide +kernel) b hb) (by decide +kernel) (by decide +kernel)
      (fun x hx hl => by
      rcases List.mem_cons.mp hx with rfl | hx
      · cases hl
      rcases List.mem_cons.mp hx with rfl | hx
      · cases hl
      rcases List.mem_cons.mp hx with rfl | hx
      · exact List.mem_of_getElem? (i := 2) rfl
      cases hx)⟩
set_option maxRecDepth 100000 in
set_option maxHeartbeats 4000000 in
theorem txH_run_1 (l : Launch) (G : rGm) (n : Nat) {s s1 : qSg} {r : qW} {a : qX} (hE : CtEnd gAll cq269 r a s [] s1) : kW gAll LAll vwCl rFo rZs rRs rNs rTs G l cL_run 4 "NativeWorksLaw" (some .int) 15 402 n (kHQ gAll LAll vwCl rFo rZs rRs rNs G n (CtEnd gAll cH_run r a s)) 16 [] [] s1 := by
  have hA := yRows_ok (G := G) (n := n) (Qf := kHQ gAll LAll vwCl rFo rZs rRs rNs G n (CtEnd gAll cH_run r a s)) (Rr := CtEnd gAll cH_run r a s) (l := l) (fr := 15) (lo := 402) (ret := some .int) (cts := []) LAll_ok LAll_la ytL_ok (fun b hb => by cases hb) (fun x hx => by cases hx) (fun x hx => by cases hx) (yEh_h (by decide)) (show yRt 1 (some FieldType.int) from rfl) (fun x hx => by cases hx) (fun x hx => by cases hx) bH_run pH_run ywH_run
  exact hA.2.2.2.1 _ _ _ ⟨2, _, _, rfl, rfl, by decide, by decide, kHend (b := 446) hE hE.1 (fun b hb => rfl) rfl (fun b hb => (show ∀ b ∈ cq269.2.2.2, b ∈ cH_run.2.2.2 by decide +kernel) b hb) (by decide +kernel) (by decide +kernel)
      (fun x hx hl => by
      rcases List.mem_cons.mp hx with rfl | hx
      · cases hl
      rcases List.mem_cons.mp hx with rfl | hx
      · cases hl
      rcases List.mem_cons.mp hx with rfl | hx
      · exact List.mem_of_getElem? (i := 3) rfl
      cases hx)⟩
theorem hdV_X11_run : yX11_run.cls = RX11 ∧ yX11_run.cls ≠ "java/lang/invoke/MethodHandle" ∧ yX11_run.cls ≠ "java/lang/invoke/VarHandle" ∧ (parseMethodDescriptor yX11_run.desc).map (fun d => d.parameters.length) = some 1 := by decide +kernel
theorem rc269_b : (0, (2, ((2 * ((0 : Nat) : Int) + 1, []), (0, [])))) ∈ cq269.2.1.1 := List.mem_cons_self
set_option maxRecDepth 100000 in
set_option maxHeartbeats 4000000 in
theorem kH_run (l : Launch) (hl : l.stackTraces = false) (v : Int) : kMetH gAll LAll vwCl rFo rZs rRs rNs rTs l yL_run cL_run 4 [(0, 9, 12, 13), (0, 9, 15, 19)] 15 402 cH_run [(2, 1), (0, v), (2, 28161)] := by
  intro G n s r a hT hB
  refine r_ofWH (cc := cL_run) (maxL := 4) (ret := some .int) (hh := [(0, 9, 12, 13), (0, 9, 15, 19)]) (by decide +kernel) rfl ?_
  intro p e s0 m args below meth c s₁ B hml hv
  obtain ⟨rfl, hP, hKK, hNc⟩ := hv
  have hts := atoms_spec (ws := .codeWith yL_run cL_run 4 (some .int) [(0, 9, 12, 13), (0, 9, 15, 19)] :: rTs) B.pre
  have htab := vx_table (x := yL_run) B (hts _ List.mem_cons_self)
  have X : rCx vwCl rFo rZs rRs rNs rTs G p (headSpec (.codeWith yL_run cL_run 4 (some .int) [(0, 9, 12, 13), (0, 9, 15, 19)] :: rTs) { frames := 15, cells := 1, slots := 6, locals := 402 }).room s0 m _ meth c cL_run 4 "NativeWorksLaw" (some .int) false 15 402 := ⟨B.exec, B.bytes, hml, findClass_of_methodNamed B.named, fun q hq => hts q (List.mem_cons_of_mem _ hq), hKK, B.notSynchronized, ⟨Nat.le_trans (Nat.le_add_right _ _) hP.1, hP.2.1, fun h => absurd rfl h⟩, B.returns, (fun h => by cases h), rfl, rfl⟩
  have hB2 := hB
  obtain ⟨hlen, ls, hsub, hsat⟩ := hB2
  have h3 := zwid_ok (r := r) (nL := 4) G hKK.2.2.1 [(2, 1), (0, v), (2, 28161)] 0 (by rw [hlen]; exact (show zwid cH_run.2.1.1 cH_run.1 0 4 = true by decide +kernel)) (fun q hq _ => hsub q (by rw [hsat.now.1]; exact hq))
  rw [Nat.zero_add] at h3
  have hl0 := lv_entry (([(2, 1), (0, v), (2, 28161)] : List qV).map (kv G)) (n := 4) h3
  rw [lg_entry_eq]
  rw [← kLv_args G hKK.2.2.1] at hl0
  have e0 : kv G (2, 1) = .ref (G.2.2.1 + 0) := kv_ref G 0
  have e9 : kv G (2, 28161) = .ref (G.2.2.1 + 14080) := kv_ref G 14080
  have hl1 : lv_has _ 4 [(0, kv G (2, 1)), (1, kv G (0, v)), (2, kv G (2, 28161))] := hl0
  rw [e0, e9] at hl1
  refine lv_aload_n X.1 X.2.1 dL_run_0 rfl (lv_at hl1 2 rfl) ?_
  refine lv_iconst (v := Int32.ofInt 0) X.1 X.2.1 dL_run_1 (by decide) ?_
  refine lv_aload_n X.1 X.2.1 dL_run_2 rfl (lv_at hl1 0 rfl) ?_
  refine lv_iload_n X.1 X.2.1 dL_run_3 rfl (lv_at (v := .int (Int32.ofInt v)) hl1 1 rfl) ?_
  have hst : ([.int (Int32.ofInt v), .ref (G.2.2.1 + 0), .int (Int32.ofInt 0), .ref (G.2.2.1 + 14080)] : List Value) = (([(2, 1), (0, v)] : List qV).reverse ++ [(0, 0), (2, 28161)]).map (kv G) := by
    show _ = [kv G (0, v), kv G (2, 1), kv G (0, 0), kv G (2, 28161)]
    rw [e0, e9]
    rfl
  rw [hst]
  refine w_both (w_callX 1 0 13 lo_0 kc13 rc269_b rfl (m269 l hl) kGood kw977 kw978 kw980 kw599 kw979 hdV_X11_run (by decide) (by decide) hT (kHbeg (C := cq269) (as := [(2, 1), (0, v)]) hB rfl rfl (by decide +kernel)) (by decide) X hl1.1 hP (Nat.le_refl _) (Nat.le_refl _) dL_run_4) X.2.2.2.1 ?_ ?_
  · rintro res s1 ⟨⟨u, rfl⟩, hE⟩ H2 L2 hP2 hL2
    obtain ⟨z, rfl⟩ := end1x (t := 0) hE (by decide +kernel) (by decide)
    have hK := tlH_run l G n (z := (Int32.ofInt z).toInt) (i_rng _) hE
    have hW := hK p e _ s0 m _ below meth c X ⟨trivial, Nat.le_refl _, Nat.le_refl _⟩ _ H2 _ (lv_sub hl1 [] rfl) hP2 hL2
    have ez : kv G (0, (Int32.ofInt z).toInt) = kv G (0, z) := congrArg Value.int (ofI_toInt _)
    rw [show ([(0, (Int32.ofInt z).toInt), (0, 0), (2, 28161)] : List qV).map (kv G) = ([(0, z)] : List qV).map (kv G) ++ ([(0, 0), (2, 28161)] : List qV).map (kv G) from congrArg (fun v => v :: ([(0, 0), (2, 28161)] : List qV).map (kv G)) ez] at hW
    exact hW
  · rintro E s1 ⟨hX, hE⟩ 
    rcases hX with rfl | rfl
    · refine ⟨[], ⟨0, 9, 12, 13⟩, [⟨0, 9, 15, 19⟩], "java/lang/IllegalArgumentException", htab, (fun z hz => by cases hz), by decide, by decide, X.2.2.2.2.1 _ kw1140, (va_Nw.use rfl (hKK.2.1.2 _ kn10).1), fun H2 L2 qa hP2 hL2 => ?_⟩
      refine lv_astore_n (nL := 4) X.1 X.2.1 dL_run_12 rfl hl1 (by decide) rfl (fun ls2 hl2 => ?_)
      exact txH_run_0 l G n hE p e _ s0 m _ below meth c X ⟨trivial, Nat.le_refl _, Nat.le_refl _⟩ _ H2 _ (lv_sub hl2 [] rfl) hP2 hL2
    · refine ⟨[⟨0, 9, 12, 13⟩], ⟨0, 9, 15, 19⟩, [], "java/lang/IllegalStateException", htab, (fun z hz => Or.inr (by
        rw [List.mem_singleton.mp hz]
        exact ⟨by decide, "java/lang/IllegalArgumentException", X.2.2.2.2.1 _ kw1140, hNc⟩)), by decide, by decide, X.2.2.2.2.1 _ kw1141, (va_Nw.use rfl (hKK.2.1.2 _ kn8).1), fun H2 L2 qa hP2 hL2 => ?_⟩
      refine lv_astore_n (nL := 4) X.1 X.2.1 dL_run_15 rfl hl1 (by decide) rfl (fun ls2 hl2 => ?_)
      exact txH_run_1 l G n hE p e _ s0 m _ below meth c X ⟨trivial, Nat.le_refl _, Nat.le_refl _⟩ _ H2 _ (lv_sub hl2 [] rfl) hP2 hL2
