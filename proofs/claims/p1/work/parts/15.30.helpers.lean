/-! THE LAW'S HELPERS -/
set_option maxRecDepth 1000000 in
set_option maxHeartbeats 40000000 in
theorem hm_link (l : Launch) (hl : l.stackTraces = false) : rMetH vwCl rFo rZs rRs rNs rTs l yL_link cL_link 3 [(0, 8, 11, 19)] 7 103 [.inr (.inr 1), .inr (.inr 28161)] wL 14081 1 wM 14082 6 := by
  intro G
  refine r_ofWH (cc := cL_link) (maxL := 3) (ret := some .int) (hh := [(0, 8, 11, 19)]) (by decide +kernel) rfl ?_
  intro p e s m args below meth c s₁ B hml hv
  obtain ⟨rfl, hP, hKK, hNc⟩ := hv
  have hts := atoms_spec (ws := .codeWith yL_link cL_link 3 (some .int) [(0, 8, 11, 19)] :: rTs) B.pre
  have htab := vx_table (x := yL_link) B (hts _ List.mem_cons_self)
  have X : rCx vwCl rFo rZs rRs rNs rTs G p (headSpec (.codeWith yL_link cL_link 3 (some .int) [(0, 8, 11, 19)] :: rTs) { frames := 7, cells := 14082 - 14081, slots := 6, locals := 103 }).room s m _ meth c cL_link 3 "NativeWorksLaw" (some .int) false 7 103 := ⟨B.exec, B.bytes, hml, findClass_of_methodNamed B.named, fun q hq => hts q (List.mem_cons_of_mem _ hq), hKK, B.notSynchronized, ⟨by rw [hP.1]; exact Nat.le_add_right _ _, hP.2.1, fun h => absurd rfl h⟩, B.returns, (fun h => by cases h), rfl, rfl⟩
  obtain ⟨i1, i2⟩ := rIni_at (G := G) hKK.2.2.1 (nL := 3) (as := [.inr (.inr 1), .inr (.inr 28161)]) (ls := [(0, .inr (.inr 1)), (1, .inr (.inr 28161))]) (fun k => rfl)
  have hl0 := lv_entry (([.inr (.inr 1), .inr (.inr 28161)] : List rCV).map (rv G)) (n := 3) i2
  rw [lg_entry_eq]
  rw [← i1] at hl0
  have hl1 : lv_has _ 3 [(0, rv G (.inr (.inr 1))), (1, rv G (.inr (.inr 28161)))] := hl0
  rw [rv_own G (by decide), rv_own G (by decide)] at hl1
  refine lv_aload_n X.1 X.2.1 dL_link_0 rfl (lv_at hl1 1 rfl) ?_
  refine lv_iconst (v := nI 0) X.1 X.2.1 dL_link_1 (by decide) ?_
  refine lv_aload_n X.1 X.2.1 dL_link_2 rfl (lv_at hl1 0 rfl) ?_
  have hst : ([.ref (G.2.2.1 + 1 / 2), .int (nI 0), .ref (G.2.2.1 + 28161 / 2)] : List Value) = (([.inr (.inr 1)] : List rCV).reverse ++ ([.inl 0, .inr (.inr 28161)] : List rCV)).map (rv G) := by
    show _ = [rv G (.inr (.inr 1)), .int (nI 0), rv G (.inr (.inr 28161))]
    rw [rv_own G (by decide), rv_own G (by decide)]
  rw [hst]
  obtain ⟨w1, hF, hw⟩ := f_link 14081
  refine w_caught (w_callX 0 13 kc13 (okx_X11_link l hl) kGood kw965 kw966 kw968 kw599 kw967 (by decide +kernel) (by decide) (by decide) hF rfl (by decide) rfl X hl0.1 hP (Nat.le_of_ble_eq_true rfl) (Nat.le_of_ble_eq_true rfl) dL_link_3) X.2.2.2.1 [] ⟨0, 8, 11, 19⟩ [] htab (fun z hz => by cases hz) (by decide) (by decide) (X.2.2.2.2.1 _ kw1145) (va_Nw.use rfl (hKK.2.1.2 _ kn8).1) (by have := hP.1; show s.heap.size + (0 + (14082 - 14081)) ≤ G.2.2.1 + 14082; omega) (fun H2 L qa hPic hL => ?_)
  refine lv_astore_n (nL := 3) X.1 X.2.1 dL_link_11 rfl hl1 (by decide) rfl (fun ls2 hl2 => ?_)
  refine lv_iconst (v := nI 1) X.1 X.2.1 dL_link_12 (by decide) ?_
  exact W.iret X.1 X.2.1 X.2.2.2.2.2.2.2.2.1 (fun t ht hW => ⟨rfl, by rw [ht]; exact hPic.less hw, hKK.warm hW⟩) (fun z hz => hL z (by simpa using hz)) dL_link_13 X.2.2.2.2.2.2.1
set_option maxRecDepth 1000000 in
set_option maxHeartbeats 40000000 in
theorem hm_load (l : Launch) (hl : l.stackTraces = false) : rMetH vwCl rFo rZs rRs rNs rTs l yL_load cL_load 3 [(0, 7, 10, 19)] 7 102 [.inr (.inr 1), .inr (.inr 28161)] wL 14081 1 wM 14082 6 := by
  intro G
  refine r_ofWH (cc := cL_load) (maxL := 3) (ret := some .int) (hh := [(0, 7, 10, 19)]) (by decide +kernel) rfl ?_
  intro p e s m args below meth c s₁ B hml hv
  obtain ⟨rfl, hP, hKK, hNc⟩ := hv
  have hts := atoms_spec (ws := .codeWith yL_load cL_load 3 (some .int) [(0, 7, 10, 19)] :: rTs) B.pre
  have htab := vx_table (x := yL_load) B (hts _ List.mem_cons_self)
  have X : rCx vwCl rFo rZs rRs rNs rTs G p (headSpec (.codeWith yL_load cL_load 3 (some .int) [(0, 7, 10, 19)] :: rTs) { frames := 7, cells := 14082 - 14081, slots := 6, locals := 102 }).room s m _ meth c cL_load 3 "NativeWorksLaw" (some .int) false 7 102 := ⟨B.exec, B.bytes, hml, findClass_of_methodNamed B.named, fun q hq => hts q (List.mem_cons_of_mem _ hq), hKK, B.notSynchronized, ⟨by rw [hP.1]; exact Nat.le_add_right _ _, hP.2.1, fun h => absurd rfl h⟩, B.returns, (fun h => by cases h), rfl, rfl⟩
  obtain ⟨i1, i2⟩ := rIni_at (G := G) hKK.2.2.1 (nL := 3) (as := [.inr (.inr 1), .inr (.inr 28161)]) (ls := [(0, .inr (.inr 1)), (1, .inr (.inr 28161))]) (fun k => rfl)
  have hl0 := lv_entry (([.inr (.inr 1), .inr (.inr 28161)] : List rCV).map (rv G)) (n := 3) i2
  rw [lg_entry_eq]
  rw [← i1] at hl0
  have hl1 : lv_has _ 3 [(0, rv G (.inr (.inr 1))), (1, rv G (.inr (.inr 28161)))] := hl0
  rw [rv_own G (by decide), rv_own G (by decide)] at hl1
  refine lv_aload_n X.1 X.2.1 dL_load_0 rfl (lv_at hl1 1 rfl) ?_
  refine lv_iconst (v := nI 0) X.1 X.2.1 dL_load_1 (by decide) ?_
  refine lv_aload_n X.1 X.2.1 dL_load_2 rfl (lv_at hl1 0 rfl) ?_
  have hst : ([.ref (G.2.2.1 + 1 / 2), .int (nI 0), .ref (G.2.2.1 + 28161 / 2)] : List Value) = (([.inr (.inr 1)] : List rCV).reverse ++ ([.inl 0, .inr (.inr 28161)] : List rCV)).map (rv G) := by
    show _ = [rv G (.inr (.inr 1)), .int (nI 0), rv G (.inr (.inr 28161))]
    rw [rv_own G (by decide), rv_own G (by decide)]
  rw [hst]
  obtain ⟨w1, hF, hw⟩ := f_load 14081
  refine w_caught (w_callX 0 13 kc13 (okx_X11_load l hl) kGood kw973 kw974 kw976 kw599 kw975 (by decide +kernel) (by decide) (by decide) hF rfl (by decide) rfl X hl0.1 hP (Nat.le_of_ble_eq_true rfl) (Nat.le_of_ble_eq_true rfl) dL_load_3) X.2.2.2.1 [] ⟨0, 7, 10, 19⟩ [] htab (fun z hz => by cases hz) (by decide) (by decide) (X.2.2.2.2.1 _ kw1145) (va_Nw.use rfl (hKK.2.1.2 _ kn8).1) (by have := hP.1; show s.heap.size + (0 + (14082 - 14081)) ≤ G.2.2.1 + 14082; omega) (fun H2 L qa hPic hL => ?_)
  refine lv_astore_n (nL := 3) X.1 X.2.1 dL_load_10 rfl hl1 (by decide) rfl (fun ls2 hl2 => ?_)
  refine lv_iconst (v := nI 1) X.1 X.2.1 dL_load_11 (by decide) ?_
  exact W.iret X.1 X.2.1 X.2.2.2.2.2.2.2.2.1 (fun t ht hW => ⟨rfl, by rw [ht]; exact hPic.less hw, hKK.warm hW⟩) (fun z hz => hL z (by simpa using hz)) dL_load_12 X.2.2.2.2.2.2.1
set_option maxRecDepth 1000000 in
set_option maxHeartbeats 40000000 in
theorem hm_symbol (l : Launch) (hl : l.stackTraces = false) (a : Nat) : rMetH vwCl rFo rZs rRs rNs rTs l yL_symbol cL_symbol 4 [(0, 8, 11, 25)] 7 105 [.inr (.inr 1), .inl a, .inr (.inr 28161)] wL 14081 1 wM 14082 6 := by
  intro G
  refine r_ofWH (cc := cL_symbol) (maxL := 4) (ret := some .int) (hh := [(0, 8, 11, 25)]) (by decide +kernel) rfl ?_
  intro p e s m args below meth c s₁ B hml hv
  obtain ⟨rfl, hP, hKK, hNc⟩ := hv
  have hts := atoms_spec (ws := .codeWith yL_symbol cL_symbol 4 (some .int) [(0, 8, 11, 25)] :: rTs) B.pre
  have htab := vx_table (x := yL_symbol) B (hts _ List.mem_cons_self)
  have X : rCx vwCl rFo rZs rRs rNs rTs G p (headSpec (.codeWith yL_symbol cL_symbol 4 (some .int) [(0, 8, 11, 25)] :: rTs) { frames := 7, cells := 14082 - 14081, slots := 6, locals := 105 }).room s m _ meth c cL_symbol 4 "NativeWorksLaw" (some .int) false 7 105 := ⟨B.exec, B.bytes, hml, findClass_of_methodNamed B.named, fun q hq => hts q (List.mem_cons_of_mem _ hq), hKK, B.notSynchronized, ⟨by rw [hP.1]; exact Nat.le_add_right _ _, hP.2.1, fun h => absurd rfl h⟩, B.returns, (fun h => by cases h), rfl, rfl⟩
  obtain ⟨i1, i2⟩ := rIni_at (G := G) hKK.2.2.1 (nL := 4) (as := [.inr (.inr 1), .inl a, .inr (.inr 28161)]) (ls := [(0, .inr (.inr 1)), (1, .inl a), (2, .inr (.inr 28161))]) (fun k => rfl)
  have hl0 := lv_entry (([.inr (.inr 1), .inl a, .inr (.inr 28161)] : List rCV).map (rv G)) (n := 4) i2
  rw [lg_entry_eq]
  rw [← i1] at hl0
  have hl1 : lv_has _ 4 [(0, rv G (.inr (.inr 1))), (1, .int (nI a)), (2, rv G (.inr (.inr 28161)))] := hl0
  rw [rv_own G (by decide), rv_own G (by decide)] at hl1
  refine lv_aload_n X.1 X.2.1 dL_symbol_0 rfl (lv_at hl1 2 rfl) ?_
  refine lv_iconst (v := nI 0) X.1 X.2.1 dL_symbol_1 (by decide) ?_
  refine lv_aload_n X.1 X.2.1 dL_symbol_2 rfl (lv_at hl1 0 rfl) ?_
  refine lv_iload_n X.1 X.2.1 dL_symbol_3 rfl (lv_at hl1 1 rfl) ?_
  have hst : ([.int (nI a), .ref (G.2.2.1 + 1 / 2), .int (nI 0), .ref (G.2.2.1 + 28161 / 2)] : List Value) = (([.inr (.inr 1), .inl a] : List rCV).reverse ++ ([.inl 0, .inr (.inr 28161)] : List rCV)).map (rv G) := by
    show _ = [.int (nI a), rv G (.inr (.inr 1)), .int (nI 0), rv G (.inr (.inr 28161))]
    rw [rv_own G (by decide), rv_own G (by decide)]
  rw [hst]
  obtain ⟨w1, hF, hw⟩ := f_symbol a 14081
  refine w_caught (w_callX 1 13 kc13 (okx_X11_symbol l hl) kGood kw969 kw970 kw972 kw599 kw971 (by decide +kernel) (by decide) (by decide) hF rfl (by decide) rfl X hl0.1 hP (Nat.le_of_ble_eq_true rfl) (Nat.le_of_ble_eq_true rfl) dL_symbol_4) X.2.2.2.1 [] ⟨0, 8, 11, 25⟩ [] htab (fun z hz => by cases hz) (by decide) (by decide) (X.2.2.2.2.1 _ kw1146) (va_Nw.use rfl (hKK.2.1.2 _ kn9).1) (by have := hP.1; show s.heap.size + (0 + (14082 - 14081)) ≤ G.2.2.1 + 14082; omega) (fun H2 L qa hPic hL => ?_)
  refine lv_astore_n (nL := 4) X.1 X.2.1 dL_symbol_11 rfl hl1 (by decide) rfl (fun ls2 hl2 => ?_)
  refine lv_iconst (v := nI 1) X.1 X.2.1 dL_symbol_12 (by decide) ?_
  exact W.iret X.1 X.2.1 X.2.2.2.2.2.2.2.2.1 (fun t ht hW => ⟨rfl, by rw [ht]; exact hPic.less hw, hKK.warm hW⟩) (fun z hz => hL z (by simpa using hz)) dL_symbol_13 X.2.2.2.2.2.2.1
set_option maxRecDepth 1000000 in
set_option maxHeartbeats 40000000 in
theorem hm_run0 (l : Launch) (hl : l.stackTraces = false) (a : Nat) (h0 : rLt a 1 = true) : rMetH vwCl rFo rZs rRs rNs rTs l yL_run cL_run 4 [(0, 9, 12, 13), (0, 9, 15, 19)] 7 103 [.inr (.inr 1), .inl a, .inr (.inr 28161)] wL 14081 1 wM 14082 6 := by
  intro G
  refine r_ofWH (cc := cL_run) (maxL := 4) (ret := some .int) (hh := [(0, 9, 12, 13), (0, 9, 15, 19)]) (by decide +kernel) rfl ?_
  intro p e s m args below meth c s₁ B hml hv
  obtain ⟨rfl, hP, hKK, hNc⟩ := hv
  have hts := atoms_spec (ws := .codeWith yL_run cL_run 4 (some .int) [(0, 9, 12, 13), (0, 9, 15, 19)] :: rTs) B.pre
  have htab := vx_table (x := yL_run) B (hts _ List.mem_cons_self)
  have X : rCx vwCl rFo rZs rRs rNs rTs G p (headSpec (.codeWith yL_run cL_run 4 (some .int) [(0, 9, 12, 13), (0, 9, 15, 19)] :: rTs) { frames := 7, cells := 14082 - 14081, slots := 6, locals := 103 }).room s m _ meth c cL_run 4 "NativeWorksLaw" (some .int) false 7 103 := ⟨B.exec, B.bytes, hml, findClass_of_methodNamed B.named, fun q hq => hts q (List.mem_cons_of_mem _ hq), hKK, B.notSynchronized, ⟨by rw [hP.1]; exact Nat.le_add_right _ _, hP.2.1, fun h => absurd rfl h⟩, B.returns, (fun h => by cases h), rfl, rfl⟩
  obtain ⟨i1, i2⟩ := rIni_at (G := G) hKK.2.2.1 (nL := 4) (as := [.inr (.inr 1), .inl a, .inr (.inr 28161)]) (ls := [(0, .inr (.inr 1)), (1, .inl a), (2, .inr (.inr 28161))]) (fun k => rfl)
  have hl0 := lv_entry (([.inr (.inr 1), .inl a, .inr (.inr 28161)] : List rCV).map (rv G)) (n := 4) i2
  rw [lg_entry_eq]
  rw [← i1] at hl0
  have hl1 : lv_has _ 4 [(0, rv G (.inr (.inr 1))), (1, .int (nI a)), (2, rv G (.inr (.inr 28161)))] := hl0
  rw [rv_own G (by decide), rv_own G (by decide)] at hl1
  refine lv_aload_n X.1 X.2.1 dL_run_0 rfl (lv_at hl1 2 rfl) ?_
  refine lv_iconst (v := nI 0) X.1 X.2.1 dL_run_1 (by decide) ?_
  refine lv_aload_n X.1 X.2.1 dL_run_2 rfl (lv_at hl1 0 rfl) ?_
  refine lv_iload_n X.1 X.2.1 dL_run_3 rfl (lv_at hl1 1 rfl) ?_
  have hst : ([.int (nI a), .ref (G.2.2.1 + 1 / 2), .int (nI 0), .ref (G.2.2.1 + 28161 / 2)] : List Value) = (([.inr (.inr 1), .inl a] : List rCV).reverse ++ ([.inl 0, .inr (.inr 28161)] : List rCV)).map (rv G) := by
    show _ = [.int (nI a), rv G (.inr (.inr 1)), .int (nI 0), rv G (.inr (.inr 28161))]
    rw [rv_own G (by decide), rv_own G (by decide)]
  rw [hst]
  obtain ⟨w1, hF, hw⟩ := f_run_0 a 14081 h0
  refine w_caught (w_callX 1 13 kc13 (okx_X11_run l hl) kGood kw977 kw978 kw980 kw599 kw979 (by decide +kernel) (by decide) (by decide) hF rfl (by decide) rfl X hl0.1 hP (Nat.le_of_ble_eq_true rfl) (Nat.le_of_ble_eq_true rfl) dL_run_4) X.2.2.2.1 [] ⟨0, 9, 12, 13⟩ [⟨0, 9, 15, 19⟩] htab (fun z hz => by cases hz) (by decide) (by decide) (X.2.2.2.2.1 _ kw1144) (va_Nw.use rfl (hKK.2.1.2 _ kn10).1) (by have := hP.1; show s.heap.size + (0 + (14082 - 14081)) ≤ G.2.2.1 + 14082; omega) (fun H2 L qa hPic hL => ?_)
  refine lv_astore_n (nL := 4) X.1 X.2.1 dL_run_12 rfl hl1 (by decide) rfl (fun ls2 hl2 => ?_)
  refine lv_iconst (v := nI 1) X.1 X.2.1 dL_run_13 (by decide) ?_
  exact W.iret X.1 X.2.1 X.2.2.2.2.2.2.2.2.1 (fun t ht hW => ⟨rfl, by rw [ht]; exact hPic.less hw, hKK.warm hW⟩) (fun z hz => hL z (by simpa using hz)) dL_run_14 X.2.2.2.2.2.2.1
set_option maxRecDepth 1000000 in
set_option maxHeartbeats 40000000 in
theorem hm_run1 (l : Launch) (hl : l.stackTraces = false) (a : Nat) (h0 : rLt a 1 = false) (h1 : rLe a 4000 = true) : rMetH vwCl rFo rZs rRs rNs rTs l yL_run cL_run 4 [(0, 9, 12, 13), (0, 9, 15, 19)] 7 103 [.inr (.inr 1), .inl a, .inr (.inr 28161)] wL 14081 2 wM 14082 6 := by
  intro G
  refine r_ofWH (cc := cL_run) (maxL := 4) (ret := some .int) (hh := [(0, 9, 12, 13), (0, 9, 15, 19)]) (by decide +kernel) rfl ?_
  intro p e s m args below meth c s₁ B hml hv
  obtain ⟨rfl, hP, hKK, hNc⟩ := hv
  have hts := atoms_spec (ws := .codeWith yL_run cL_run 4 (some .int) [(0, 9, 12, 13), (0, 9, 15, 19)] :: rTs) B.pre
  have htab := vx_table (x := yL_run) B (hts _ List.mem_cons_self)
  have X : rCx vwCl rFo rZs rRs rNs rTs G p (headSpec (.codeWith yL_run cL_run 4 (some .int) [(0, 9, 12, 13), (0, 9, 15, 19)] :: rTs) { frames := 7, cells := 14082 - 14081, slots := 6, locals := 103 }).room s m _ meth c cL_run 4 "NativeWorksLaw" (some .int) false 7 103 := ⟨B.exec, B.bytes, hml, findClass_of_methodNamed B.named, fun q hq => hts q (List.mem_cons_of_mem _ hq), hKK, B.notSynchronized, ⟨by rw [hP.1]; exact Nat.le_add_right _ _, hP.2.1, fun h => absurd rfl h⟩, B.returns, (fun h => by cases h), rfl, rfl⟩
  obtain ⟨i1, i2⟩ := rIni_at (G := G) hKK.2.2.1 (nL := 4) (as := [.inr (.inr 1), .inl a, .inr (.inr 28161)]) (ls := [(0, .inr (.inr 1)), (1, .inl a), (2, .inr (.inr 28161))]) (fun k => rfl)
  have hl0 := lv_entry (([.inr (.inr 1), .inl a, .inr (.inr 28161)] : List rCV).map (rv G)) (n := 4) i2
  rw [lg_entry_eq]
  rw [← i1] at hl0
  have hl1 : lv_has _ 4 [(0, rv G (.inr (.inr 1))), (1, .int (nI a)), (2, rv G (.inr (.inr 28161)))] := hl0
  rw [rv_own G (by decide), rv_own G (by decide)] at hl1
  refine lv_aload_n X.1 X.2.1 dL_run_0 rfl (lv_at hl1 2 rfl) ?_
  refine lv_iconst (v := nI 0) X.1 X.2.1 dL_run_1 (by decide) ?_
  refine lv_aload_n X.1 X.2.1 dL_run_2 rfl (lv_at hl1 0 rfl) ?_
  refine lv_iload_n X.1 X.2.1 dL_run_3 rfl (lv_at hl1 1 rfl) ?_
  have hst : ([.int (nI a), .ref (G.2.2.1 + 1 / 2), .int (nI 0), .ref (G.2.2.1 + 28161 / 2)] : List Value) = (([.inr (.inr 1), .inl a] : List rCV).reverse ++ ([.inl 0, .inr (.inr 28161)] : List rCV)).map (rv G) := by
    show _ = [.int (nI a), rv G (.inr (.inr 1)), .int (nI 0), rv G (.inr (.inr 28161))]
    rw [rv_own G (by decide), rv_own G (by decide)]
  rw [hst]
  obtain ⟨w1, hF, hw⟩ := f_run_1 a 14081 h0 h1
  refine w_caught (w_callX 1 13 kc13 (okx_X11_run l hl) kGood kw977 kw978 kw980 kw599 kw979 (by decide +kernel) (by decide) (by decide) hF rfl (by decide) rfl X hl0.1 hP (Nat.le_of_ble_eq_true rfl) (Nat.le_of_ble_eq_true rfl) dL_run_4) X.2.2.2.1 [⟨0, 9, 12, 13⟩] ⟨0, 9, 15, 19⟩ [] htab (fun z hz => Or.inr (by
    rw [List.mem_singleton.mp hz]
    exact ⟨by decide, "java/lang/IllegalArgumentException", X.2.2.2.2.1 _ kw1144, hNc⟩)) (by decide) (by decide) (X.2.2.2.2.1 _ kw1145) (va_Nw.use rfl (hKK.2.1.2 _ kn8).1) (by have := hP.1; show s.heap.size + (0 + (14082 - 14081)) ≤ G.2.2.1 + 14082; omega) (fun H2 L qa hPic hL => ?_)
  refine lv_astore_n (nL := 4) X.1 X.2.1 dL_run_15 rfl hl1 (by decide) rfl (fun ls2 hl2 => ?_)
  refine lv_iconst (v := nI 2) X.1 X.2.1 dL_run_16 (by decide) ?_
  exact W.iret X.1 X.2.1 X.2.2.2.2.2.2.2.2.1 (fun t ht hW => ⟨rfl, by rw [ht]; exact hPic.less hw, hKK.warm hW⟩) (fun z hz => hL z (by simpa using hz)) dL_run_17 X.2.2.2.2.2.2.1
set_option maxRecDepth 1000000 in
set_option maxHeartbeats 40000000 in
theorem hm_run2 (l : Launch) (hl : l.stackTraces = false) (a : Nat) (h0 : rLt a 1 = false) (h1 : rLe a 4000 = false) : rMetH vwCl rFo rZs rRs rNs rTs l yL_run cL_run 4 [(0, 9, 12, 13), (0, 9, 15, 19)] 7 103 [.inr (.inr 1), .inl a, .inr (.inr 28161)] wL 14081 1 wM 14082 6 := by
  intro G
  refine r_ofWH (cc := cL_run) (maxL := 4) (ret := some .int) (hh := [(0, 9, 12, 13), (0, 9, 15, 19)]) (by decide +kernel) rfl ?_
  intro p e s m args below meth c s₁ B hml hv
  obtain ⟨rfl, hP, hKK, hNc⟩ := hv
  have hts := atoms_spec (ws := .codeWith yL_run cL_run 4 (some .int) [(0, 9, 12, 13), (0, 9, 15, 19)] :: rTs) B.pre
  have htab := vx_table (x := yL_run) B (hts _ List.mem_cons_self)
  have X : rCx vwCl rFo rZs rRs rNs rTs G p (headSpec (.codeWith yL_run cL_run 4 (some .int) [(0, 9, 12, 13), (0, 9, 15, 19)] :: rTs) { frames := 7, cells := 14082 - 14081, slots := 6, locals := 103 }).room s m _ meth c cL_run 4 "NativeWorksLaw" (some .int) false 7 103 := ⟨B.exec, B.bytes, hml, findClass_of_methodNamed B.named, fun q hq => hts q (List.mem_cons_of_mem _ hq), hKK, B.notSynchronized, ⟨by rw [hP.1]; exact Nat.le_add_right _ _, hP.2.1, fun h => absurd rfl h⟩, B.returns, (fun h => by cases h), rfl, rfl⟩
  obtain ⟨i1, i2⟩ := rIni_at (G := G) hKK.2.2.1 (nL := 4) (as := [.inr (.inr 1), .inl a, .inr (.inr 28161)]) (ls := [(0, .inr (.inr 1)), (1, .inl a), (2, .inr (.inr 28161))]) (fun k => rfl)
  have hl0 := lv_entry (([.inr (.inr 1), .inl a, .inr (.inr 28161)] : List rCV).map (rv G)) (n := 4) i2
  rw [lg_entry_eq]
  rw [← i1] at hl0
  have hl1 : lv_has _ 4 [(0, rv G (.inr (.inr 1))), (1, .int (nI a)), (2, rv G (.inr (.inr 28161)))] := hl0
  rw [rv_own G (by decide), rv_own G (by decide)] at hl1
  refine lv_aload_n X.1 X.2.1 dL_run_0 rfl (lv_at hl1 2 rfl) ?_
  refine lv_iconst (v := nI 0) X.1 X.2.1 dL_run_1 (by decide) ?_
  refine lv_aload_n X.1 X.2.1 dL_run_2 rfl (lv_at hl1 0 rfl) ?_
  refine lv_iload_n X.1 X.2.1 dL_run_3 rfl (lv_at hl1 1 rfl) ?_
  have hst : ([.int (nI a), .ref (G.2.2.1 + 1 / 2), .int (nI 0), .ref (G.2.2.1 + 28161 / 2)] : List Value) = (([.inr (.inr 1), .inl a] : List rCV).reverse ++ ([.inl 0, .inr (.inr 28161)] : List rCV)).map (rv G) := by
    show _ = [.int (nI a), rv G (.inr (.inr 1)), .int (nI 0), rv G (.inr (.inr 28161))]
    rw [rv_own G (by decide), rv_own G (by decide)]
  rw [hst]
  obtain ⟨w1, hF, hw⟩ := f_run_2 a 14081 h0 h1
  refine w_caught (w_callX 1 13 kc13 (okx_X11_run l hl) kGood kw977 kw978 kw980 kw599 kw979 (by decide +kernel) (by decide) (by decide) hF rfl (by decide) rfl X hl0.1 hP (Nat.le_of_ble_eq_true rfl) (Nat.le_of_ble_eq_true rfl) dL_run_4) X.2.2.2.1 [] ⟨0, 9, 12, 13⟩ [⟨0, 9, 15, 19⟩] htab (fun z hz => by cases hz) (by decide) (by decide) (X.2.2.2.2.1 _ kw1144) (va_Nw.use rfl (hKK.2.1.2 _ kn10).1) (by have := hP.1; show s.heap.size + (0 + (14082 - 14081)) ≤ G.2.2.1 + 14082; omega) (fun H2 L qa hPic hL => ?_)
  refine lv_astore_n (nL := 4) X.1 X.2.1 dL_run_12 rfl hl1 (by decide) rfl (fun ls2 hl2 => ?_)
  refine lv_iconst (v := nI 1) X.1 X.2.1 dL_run_13 (by decide) ?_
  exact W.iret X.1 X.2.1 X.2.2.2.2.2.2.2.2.1 (fun t ht hW => ⟨rfl, by rw [ht]; exact hPic.less hw, hKK.warm hW⟩) (fun z hz => hL z (by simpa using hz)) dL_run_14 X.2.2.2.2.2.2.1
set_option maxRecDepth 1000000 in
set_option maxHeartbeats 40000000 in
theorem hm_unit0 (l : Launch) (a : Nat) : rMetH vwCl rFo rZs rRs rNs rTs l yL_unit cL_unit 5 [(0, 10, 13, 13)] 6 141 [.inr (.inr 1), .inl a, .inl 0, .inr (.inr 28161)] wL 14081 0 wU 14081 0 := by
  intro G
  refine r_ofWH (cc := cL_unit) (maxL := 5) (ret := some .int) (hh := [(0, 10, 13, 13)]) (by decide +kernel) rfl ?_
  intro p e s m args below meth c s₁ B hml hv
  obtain ⟨rfl, hP, hKK, hNc⟩ := hv
  have hts := atoms_spec (ws := .codeWith yL_unit cL_unit 5 (some .int) [(0, 10, 13, 13)] :: rTs) B.pre
  have X : rCx vwCl rFo rZs rRs rNs rTs G p (headSpec (.codeWith yL_unit cL_unit 5 (some .int) [(0, 10, 13, 13)] :: rTs) { frames := 6, cells := 14081 - 14081, slots := 0, locals := 141 }).room s m _ meth c cL_unit 5 "NativeWorksLaw" (some .int) false 6 141 := ⟨B.exec, B.bytes, hml, findClass_of_methodNamed B.named, fun q hq => hts q (List.mem_cons_of_mem _ hq), hKK, B.notSynchronized, ⟨by rw [hP.1]; exact Nat.le_add_right _ _, hP.2.1, fun h => absurd rfl h⟩, B.returns, (fun h => by cases h), rfl, rfl⟩
  obtain ⟨i1, i2⟩ := rIni_at (G := G) hKK.2.2.1 (nL := 5) (as := [.inr (.inr 1), .inl a, .inl 0, .inr (.inr 28161)]) (ls := [(0, .inr (.inr 1)), (1, .inl a), (2, .inl 0), (3, .inr (.inr 28161))]) (fun k => rfl)
  have hl0 := lv_entry (([.inr (.inr 1), .inl a, .inl 0, .inr (.inr 28161)] : List rCV).map (rv G)) (n := 5) i2
  rw [lg_entry_eq]
  rw [← i1] at hl0
  have hV : rW vwCl rFo rZs rRs rNs rTs G l cL_unit 5 "NativeWorksLaw" (some .int) false 6 141 14081 (rMQ vwCl rFo rZs rRs rNs G 14081) (some (.inl 0), (wU, (14081, 0))) 0 [(0, .inr (.inr 1)), (1, .inl a), (2, .inl 0), (3, .inr (.inr 28161))] [] wL 14081 0 := by
    refine HS.seg (ls' := [(0, .inr (.inr 1)), (1, .inl a), (2, .inl 0), (3, .inr (.inr 28161))]) (st' := [.inl 0, .inl a, .inr (.inr 1), .inl 0, .inr (.inr 28161)]) (w' := wL) (n' := 14081) (c' := 0) (HS.comp (s_aload_n (k := 3) 3 rfl dL_unit_0) <|
    HS.comp (s_iconst 0 (by decide +kernel) dL_unit_1) <|
    HS.comp (s_aload_n (k := 0) 0 rfl dL_unit_2) <|
    HS.comp (s_iload_n (k := 1) 1 rfl dL_unit_3) <|
    s_iload_n (k := 2) 2 rfl dL_unit_4) rfl (Nat.le_refl _) (Nat.le_refl _) ?_
    obtain ⟨w1, hF, hw⟩ := f_unit0 a 14081
    refine HS.callE (as := [.inr (.inr 1), .inl a, .inl 0]) (st := [.inl 0, .inr (.inr 28161)]) (s_callV 2 13 kc13 (ok_X11_unit l) kGood kw961 kw962 kw964 kw599 kw963 (by decide +kernel) (by decide) (by decide) dL_unit_5) (fun h hv => rW.less h hv) hF rfl (by decide) rfl hw (Nat.le_refl _) (Nat.le_refl _) ?_
    refine HS.seg (ls' := [(0, .inr (.inr 1)), (1, .inl a), (2, .inl 0), (3, .inr (.inr 28161))]) (st' := []) (w' := wU) (n' := 14081) (c' := 0) (HS.comp (s_i2lZ dL_unit_8) <|
    s_lastore dL_unit_9) rfl (Nat.le_refl _) (Nat.le_refl _) ?_
    refine V_go (pcs := [17]) (s_goto (b := 0) (tgt := 17) rfl (by decide) dL_unit_10) rfl (Nat.le_refl _) (Nat.le_refl _) ?_
    refine HS.seg (ls' := [(0, .inr (.inr 1)), (1, .inl a), (2, .inl 0), (3, .inr (.inr 28161))]) (st' := [.inl 0]) (w' := wU) (n' := 14081) (c' := 0) (s_iconst 0 (by decide +kernel) dL_unit_17) rfl (Nat.le_refl _) (Nat.le_refl _) ?_
    exact (s_reti isI rfl okr_I dL_unit_18 (pcs := []) (fun _ _ _ _ _ _ => none) (fun _ _ _ _ _ _ _ _ _ h => by cases h) _ _ _ _ _ _ rfl).2
  have hW := hV p e (headSpec (.codeWith yL_unit cL_unit 5 (some .int) [(0, 10, 13, 13)] :: rTs) { frames := 6, cells := 14081 - 14081, slots := 0, locals := 141 }).room s m _ below meth c X (Nat.le_refl _) (Nat.le_refl _) (Nat.le_refl _) _ s.heap [] hl0 hP (fun x hx => by cases hx)
  exact hW
set_option maxRecDepth 1000000 in
set_option maxHeartbeats 40000000 in
theorem hm_unit1 (l : Launch) (a : Nat) : rMetH vwCl rFo rZs rRs rNs rTs l yL_unit cL_unit 5 [(0, 10, 13, 13)] 6 141 [.inr (.inr 1), .inl a, .inl 1, .inr (.inr 28161)] wL 14081 0 wU 14081 0 := by
  intro G
  refine r_ofWH (cc := cL_unit) (maxL := 5) (ret := some .int) (hh := [(0, 10, 13, 13)]) (by decide +kernel) rfl ?_
  intro p e s m args below meth c s₁ B hml hv
  obtain ⟨rfl, hP, hKK, hNc⟩ := hv
  have hts := atoms_spec (ws := .codeWith yL_unit cL_unit 5 (some .int) [(0, 10, 13, 13)] :: rTs) B.pre
  have X : rCx vwCl rFo rZs rRs rNs rTs G p (headSpec (.codeWith yL_unit cL_unit 5 (some .int) [(0, 10, 13, 13)] :: rTs) { frames := 6, cells := 14081 - 14081, slots := 0, locals := 141 }).room s m _ meth c cL_unit 5 "NativeWorksLaw" (some .int) false 6 141 := ⟨B.exec, B.bytes, hml, findClass_of_methodNamed B.named, fun q hq => hts q (List.mem_cons_of_mem _ hq), hKK, B.notSynchronized, ⟨by rw [hP.1]; exact Nat.le_add_right _ _, hP.2.1, fun h => absurd rfl h⟩, B.returns, (fun h => by cases h), rfl, rfl⟩
  obtain ⟨i1, i2⟩ := rIni_at (G := G) hKK.2.2.1 (nL := 5) (as := [.inr (.inr 1), .inl a, .inl 1, .inr (.inr 28161)]) (ls := [(0, .inr (.inr 1)), (1, .inl a), (2, .inl 1), (3, .inr (.inr 28161))]) (fun k => rfl)
  have hl0 := lv_entry (([.inr (.inr 1), .inl a, .inl 1, .inr (.inr 28161)] : List rCV).map (rv G)) (n := 5) i2
  rw [lg_entry_eq]
  rw [← i1] at hl0
  have hV : rW vwCl rFo rZs rRs rNs rTs G l cL_unit 5 "NativeWorksLaw" (some .int) false 6 141 14081 (rMQ vwCl rFo rZs rRs rNs G 14081) (some (.inl 0), (wU, (14081, 0))) 0 [(0, .inr (.inr 1)), (1, .inl a), (2, .inl 1), (3, .inr (.inr 28161))] [] wL 14081 0 := by
    refine HS.seg (ls' := [(0, .inr (.inr 1)), (1, .inl a), (2, .inl 1), (3, .inr (.inr 28161))]) (st' := [.inl 1, .inl a, .inr (.inr 1), .inl 0, .inr (.inr 28161)]) (w' := wL) (n' := 14081) (c' := 0) (HS.comp (s_aload_n (k := 3) 3 rfl dL_unit_0) <|
    HS.comp (s_iconst 0 (by decide +kernel) dL_unit_1) <|
    HS.comp (s_aload_n (k := 0) 0 rfl dL_unit_2) <|
    HS.comp (s_iload_n (k := 1) 1 rfl dL_unit_3) <|
    s_iload_n (k := 2) 2 rfl dL_unit_4) rfl (Nat.le_refl _) (Nat.le_refl _) ?_
    obtain ⟨w1, hF, hw⟩ := f_unit1 a 14081
    refine HS.callE (as := [.inr (.inr 1), .inl a, .inl 1]) (st := [.inl 0, .inr (.inr 28161)]) (s_callV 2 13 kc13 (ok_X11_unit l) kGood kw961 kw962 kw964 kw599 kw963 (by decide +kernel) (by decide) (by decide) dL_unit_5) (fun h hv => rW.less h hv) hF rfl (by decide) rfl hw (Nat.le_refl _) (Nat.le_refl _) ?_
    refine HS.seg (ls' := [(0, .inr (.inr 1)), (1, .inl a), (2, .inl 1), (3, .inr (.inr 28161))]) (st' := []) (w' := wU) (n' := 14081) (c' := 0) (HS.comp (s_i2lZ dL_unit_8) <|
    s_lastore dL_unit_9) rfl (Nat.le_refl _) (Nat.le_refl _) ?_
    refine V_go (pcs := [17]) (s_goto (b := 0) (tgt := 17) rfl (by decide) dL_unit_10) rfl (Nat.le_refl _) (Nat.le_refl _) ?_
    refine HS.seg (ls' := [(0, .inr (.inr 1)), (1, .inl a), (2, .inl 1), (3, .inr (.inr 28161))]) (st' := [.inl 0]) (w' := wU) (n' := 14081) (c' := 0) (s_iconst 0 (by decide +kernel) dL_unit_17) rfl (Nat.le_refl _) (Nat.le_refl _) ?_
    exact (s_reti isI rfl okr_I dL_unit_18 (pcs := []) (fun _ _ _ _ _ _ => none) (fun _ _ _ _ _ _ _ _ _ h => by cases h) _ _ _ _ _ _ rfl).2
  have hW := hV p e (headSpec (.codeWith yL_unit cL_unit 5 (some .int) [(0, 10, 13, 13)] :: rTs) { frames := 6, cells := 14081 - 14081, slots := 0, locals := 141 }).room s m _ below meth c X (Nat.le_refl _) (Nat.le_refl _) (Nat.le_refl _) _ s.heap [] hl0 hP (fun x hx => by cases hx)
  exact hW
