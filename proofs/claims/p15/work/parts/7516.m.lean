/-! METHODS, CALLEES FIRST (written by wip/p2/genmeth.py) -/
/-! 348 Model.macro (I)V -/
theorem hdV_X13_findEnd : yX13_findEnd.cls = RX13 ∧ yX13_findEnd.cls ≠ "java/lang/invoke/MethodHandle" ∧ yX13_findEnd.cls ≠ "java/lang/invoke/VarHandle" ∧ (parseMethodDescriptor yX13_findEnd.desc).map (fun d => d.parameters.length) = some 6 := by decide +kernel
theorem st338 (l : Launch) {G : rGm} {cc : ByteArray} {nL n fr lo : Nat} {ret : Option FieldType} {Qf : kQf} (hf : 5 ≤ fr) (hlo : 120 ≤ lo) : ySite gAll LAll vwCl rFo rZs rRs rNs rTs G l cc nL RX13 ret fr lo n Qf 182 880 cq346 := ys_V 6 13454 15 rc346 lo_13454 kc15 (m346 l) kGood kw2631 kw2632 kw2633 kw315 kw2453 hdV_X13_findEnd hf hlo
theorem hdV_X13_goBehind : yX13_goBehind.cls = RX13 ∧ yX13_goBehind.cls ≠ "java/lang/invoke/MethodHandle" ∧ yX13_goBehind.cls ≠ "java/lang/invoke/VarHandle" ∧ (parseMethodDescriptor yX13_goBehind.desc).map (fun d => d.parameters.length) = some 0 := by decide +kernel
theorem st339 (l : Launch) {G : rGm} {cc : ByteArray} {nL n fr lo : Nat} {ret : Option FieldType} {Qf : kQf} (hf : 1 ≤ fr) (hlo : 20 ≤ lo) : ySite gAll LAll vwCl rFo rZs rRs rNs rTs G l cc nL RX13 ret fr lo n Qf 182 958 cq347 := ys_V 0 13454 15 rc347 lo_13454 kc15 (m347 l) kGood kw2634 kw2635 kw2636 kw315 kw2505 hdV_X13_goBehind hf hlo
def mt348 : yMt := ([(182, (860, 0)), (182, (797, 1)), (182, (678, 2)), (182, (880, 3)), (182, (958, 4))], ([], ([], [])))
theorem rc348 : yRc cq348 13454 1 = true := by decide +kernel
theorem yr348 : yRun gAll t348 b348 cq348 := yRun_p (cuts := u348) (fuel := 300) gAll_tag ruI2_RtI ruJ2_RtJ rqL_ok ⟨zsm_e _ z348_s, List.forall_mem_cons.mpr ⟨zsm_e _ z348_0, yA_n⟩⟩
theorem zw348 : zwid cq348.2.1.1 cq348.1 0 5 = true := by decide +kernel
set_option maxRecDepth 100000 in
theorem yw348 : yRows gAll LAll yt12 mt348 gHo 5 0 (zby cX13_macro) p348 b348 p348 = true := by decide +kernel
set_option maxRecDepth 100000 in
theorem m348 (l : Launch) : kMet gAll LAll vwCl rFo rZs rRs rNs rTs l yX13_macro cX13_macro 5 none 5 120 cq348 := kmet_y2 (rt := 0) (by decide +kernel) yr348 zw348 rfl yw348 LAll_ok LAll_la yt12_ok gHo_ok rfl (fun G n Qf => List.forall_mem_cons.mpr ⟨⟨cq330, rfl, st323 l (by decide) (by decide)⟩, List.forall_mem_cons.mpr ⟨⟨cq296, rfl, st289 l (by decide) (by decide)⟩, List.forall_mem_cons.mpr ⟨⟨cq294, rfl, st299 l (by decide) (by decide)⟩, List.forall_mem_cons.mpr ⟨⟨cq346, rfl, st338 l (by decide) (by decide)⟩, List.forall_mem_cons.mpr ⟨⟨cq347, rfl, st339 l (by decide) (by decide)⟩, yA_n⟩⟩⟩⟩⟩) rfl (fun G n Rr => yA_n) rfl
/-! 349 Model.reader ()I -/
def mt349 : yMt := ([], ([], ([], [])))
theorem rc349 : yRc cq349 13454 0 = true := by decide +kernel
theorem yr349 : yRun gAll t349 b349 cq349 := yRun_p (cuts := u349) (fuel := 300) gAll_tag ruI2_RtI ruJ2_RtJ rqL_ok ⟨zsm_e _ z349_s, List.forall_mem_cons.mpr ⟨zsm_e _ z349_0, yA_n⟩⟩
theorem zw349 : zwid cq349.2.1.1 cq349.1 0 2 = true := by decide +kernel
set_option maxRecDepth 100000 in
theorem yw349 : yRows gAll LAll yt12 mt349 gHo 2 1 (zby cX13_reader) p349 b349 p349 = true := by decide +kernel
set_option maxRecDepth 100000 in
theorem m349 (l : Launch) : kMet gAll LAll vwCl rFo rZs rRs rNs rTs l yX13_reader cX13_reader 2 (some .int) 0 0 cq349 := kmet_y2 (rt := 1) (by decide +kernel) yr349 zw349 rfl yw349 LAll_ok LAll_la yt12_ok gHo_ok rfl (fun G n Qf => yA_n) rfl (fun G n Rr => yA_n) rfl
/-! 350 Model.structure (II)V -/
theorem hdV_X13_reader : yX13_reader.cls = RX13 ∧ yX13_reader.cls ≠ "java/lang/invoke/MethodHandle" ∧ yX13_reader.cls ≠ "java/lang/invoke/VarHandle" ∧ (parseMethodDescriptor yX13_reader.desc).map (fun d => d.parameters.length) = some 0 := by decide +kernel
theorem st340 (l : Launch) {G : rGm} {cc : ByteArray} {nL n fr lo : Nat} {ret : Option FieldType} {Qf : kQf} (hf : 1 ≤ fr) (hlo : 21 ≤ lo) : ySite gAll LAll vwCl rFo rZs rRs rNs rTs G l cc nL RX13 ret fr lo n Qf 182 672 cq349 := ys_V 0 13454 15 rc349 lo_13454 kc15 (m349 l) kGood kw797 kw798 kw799 kw315 kw796 hdV_X13_reader hf hlo
theorem hdV_X13_macro : yX13_macro.cls = RX13 ∧ yX13_macro.cls ≠ "java/lang/invoke/MethodHandle" ∧ yX13_macro.cls ≠ "java/lang/invoke/VarHandle" ∧ (parseMethodDescriptor yX13_macro.desc).map (fun d => d.parameters.length) = some 1 := by decide +kernel
theorem st341 (l : Launch) {G : rGm} {cc : ByteArray} {nL n fr lo : Nat} {ret : Option FieldType} {Qf : kQf} (hf : 6 ≤ fr) (hlo : 144 ≤ lo) : ySite gAll LAll vwCl rFo rZs rRs rNs rTs G l cc nL RX13 ret fr lo n Qf 182 961 cq348 := ys_V 1 13454 15 rc348 lo_13454 kc15 (m348 l) kGood kw2831 kw2832 kw2833 kw315 kw2630 hdV_X13_macro hf hlo
def mt350 : yMt := ([(182, (672, 0)), (182, (678, 1)), (182, (880, 2)), (182, (958, 3)), (182, (961, 4)), (182, (928, 5)), (182, (964, 6))], ([], ([], [])))
theorem rc350 : yRc cq350 13454 2 = true := by decide +kernel
theorem yr350 : yRun gAll t350 b350 cq350 := yRun_p (cuts := u350) (fuel := 300) gAll_tag ruI2_RtI ruJ2_RtJ rqL_ok ⟨zsm_e _ z350_s, List.forall_mem_cons.mpr ⟨zsm_e _ z350_0, List.forall_mem_cons.mpr ⟨zsm_e _ z350_1, List.forall_mem_cons.mpr ⟨zsm_e _ z350_2, List.forall_mem_cons.mpr ⟨zsm_e _ z350_3, yA_n⟩⟩⟩⟩⟩
theorem zw350 : zwid cq350.2.1.1 cq350.1 0 9 = true := by decide +kernel
set_option maxRecDepth 100000 in
theorem yw350 : yRows gAll LAll yt12 mt350 gHo 9 0 (zby cX13_structure) p350 b350 p350 = true := by decide +kernel
set_option maxRecDepth 100000 in
theorem m350 (l : Launch) : kMet gAll LAll vwCl rFo rZs rRs rNs rTs l yX13_structure cX13_structure 9 none 7 162 cq350 := kmet_y2 (rt := 0) (by decide +kernel) yr350 zw350 rfl yw350 LAll_ok LAll_la yt12_ok gHo_ok rfl (fun G n Qf => List.forall_mem_cons.mpr ⟨⟨cq349, rfl, st340 l (by decide) (by decide)⟩, List.forall_mem_cons.mpr ⟨⟨cq294, rfl, st299 l (by decide) (by decide)⟩, List.forall_mem_cons.mpr ⟨⟨cq346, rfl, st338 l (by decide) (by decide)⟩, List.forall_mem_cons.mpr ⟨⟨cq347, rfl, st339 l (by decide) (by decide)⟩, List.forall_mem_cons.mpr ⟨⟨cq348, rfl, st341 l (by decide) (by decide)⟩, List.forall_mem_cons.mpr ⟨⟨cq311, rfl, st307 l (by decide) (by decide)⟩, List.forall_mem_cons.mpr ⟨⟨cq280, rfl, st278 l (by decide) (by decide)⟩, yA_n⟩⟩⟩⟩⟩⟩⟩) rfl (fun G n Rr => yA_n) rfl
/-! 351 Model.act (III)V -/
theorem hdV_X13_nameAll : yX13_nameAll.cls = RX13 ∧ yX13_nameAll.cls ≠ "java/lang/invoke/MethodHandle" ∧ yX13_nameAll.cls ≠ "java/lang/invoke/VarHandle" ∧ (parseMethodDescriptor yX13_nameAll.desc).map (fun d => d.parameters.length) = some 2 := by decide +kernel
theorem st342 (l : Launch) {G : rGm} {cc : ByteArray} {nL n fr lo : Nat} {ret : Option FieldType} {Qf : kQf} (hf : 4 ≤ fr) (hlo : 94 ≤ lo) : ySite gAll LAll vwCl rFo rZs rRs rNs rTs G l cc nL RX13 ret fr lo n Qf 182 897 cq339 := ys_V 2 13454 15 rc339 lo_13454 kc15 (m339 l) kGood kw2159 kw2160 kw2161 kw315 kw2650 hdV_X13_nameAll hf hlo
theorem hdV_X13_define : yX13_define.cls = RX13 ∧ yX13_define.cls ≠ "java/lang/invoke/MethodHandle" ∧ yX13_define.cls ≠ "java/lang/invoke/VarHandle" ∧ (parseMethodDescriptor yX13_define.desc).map (fun d => d.parameters.length) = some 1 := by decide +kernel
theorem st343 (l : Launch) {G : rGm} {cc : ByteArray} {nL n fr lo : Nat} {ret : Option FieldType} {Qf : kQf} (hf : 8 ≤ fr) (hlo : 186 ≤ lo) : ySite gAll LAll vwCl rFo rZs rRs rNs rTs G l cc nL RX13 ret fr lo n Qf 182 900 cq312 := ys_V 1 13454 15 rc312 lo_13454 kc15 (m312 l) kGood kw2162 kw2163 kw2164 kw315 kw2375 hdV_X13_define hf hlo
theorem hdV_X13_dataOf : yX13_dataOf.cls = RX13 ∧ yX13_dataOf.cls ≠ "java/lang/invoke/MethodHandle" ∧ yX13_dataOf.cls ≠ "java/lang/invoke/VarHandle" ∧ (parseMethodDescriptor yX13_dataOf.desc).map (fun d => d.parameters.length) = some 2 := by decide +kernel
theorem st344 (l : Launch) {G : rGm} {cc : ByteArray} {nL n fr lo : Nat} {ret : Option FieldType} {Qf : kQf} (hf : 7 ≤ fr) (hlo : 172 ≤ lo) : ySite gAll LAll vwCl rFo rZs rRs rNs rTs G l cc nL RX13 ret fr lo n Qf 182 903 cq310 := ys_V 2 13454 15 rc310 lo_13454 kc15 (m310 l) kGood kw2165 kw2166 kw2167 kw315 kw2347 hdV_X13_dataOf hf hlo
theorem hdV_X13_fill : yX13_fill.cls = RX13 ∧ yX13_fill.cls ≠ "java/lang/invoke/MethodHandle" ∧ yX13_fill.cls ≠ "java/lang/invoke/VarHandle" ∧ (parseMethodDescriptor yX13_fill.desc).map (fun d => d.parameters.length) = some 2 := by decide +kernel
theorem st345 (l : Launch) {G : rGm} {cc : ByteArray} {nL n fr lo : Nat} {ret : Option FieldType} {Qf : kQf} (hf : 8 ≤ fr) (hlo : 188 ≤ lo) : ySite gAll LAll vwCl rFo rZs rRs rNs rTs G l cc nL RX13 ret fr lo n Qf 182 906 cq313 := ys_V 2 13454 15 rc313 lo_13454 kc15 (m313 l) kGood kw2168 kw2169 kw2170 kw315 kw2450 hdV_X13_fill hf hlo
theorem hdV_X13_structure : yX13_structure.cls = RX13 ∧ yX13_structure.cls ≠ "java/lang/invoke/MethodHandle" ∧ yX13_structure.cls ≠ "java/lang/invoke/VarHandle" ∧ (parseMethodDescriptor yX13_structure.desc).map (fun d => d.parameters.length) = some 2 := by decide +kernel
theorem st346 (l : Launch) {G : rGm} {cc : ByteArray} {nL n fr lo : Nat} {ret : Option FieldType} {Qf : kQf} (hf : 8 ≤ fr) (hlo : 190 ≤ lo) : ySite gAll LAll vwCl rFo rZs rRs rNs rTs G l cc nL RX13 ret fr lo n Qf 182 909 cq350 := ys_V 2 13454 15 rc350 lo_13454 kc15 (m350 l) kGood kw2171 kw2172 kw2173 kw315 kw2830 hdV_X13_structure hf hlo
theorem hdV_X13_call : yX13_call.cls = RX13 ∧ yX13_call.cls ≠ "java/lang/invoke/MethodHandle" ∧ yX13_call.cls ≠ "java/lang/invoke/VarHandle" ∧ (parseMethodDescriptor yX13_call.desc).map (fun d => d.parameters.length) = some 1 := by decide +kernel
theorem st347 (l : Launch) {G : rGm} {cc : ByteArray} {nL n fr lo : Nat} {ret : Option FieldType} {Qf : kQf} (hf : 2 ≤ fr) (hlo : 46 ≤ lo) : ySite gAll LAll vwCl rFo rZs rRs rNs rTs G l cc nL RX13 ret fr lo n Qf 182 912 cq281 := ys_V 1 13454 15 rc281 lo_13454 kc15 (m281 l) kGood kw2174 kw2175 kw2176 kw315 kw2323 hdV_X13_call hf hlo
theorem hdV_X13_instruction : yX13_instruction.cls = RX13 ∧ yX13_instruction.cls ≠ "java/lang/invoke/MethodHandle" ∧ yX13_instruction.cls ≠ "java/lang/invoke/VarHandle" ∧ (parseMethodDescriptor yX13_instruction.desc).map (fun d => d.parameters.length) = some 2 := by decide +kernel
theorem st348 (l : Launch) {G : rGm} {cc : ByteArray} {nL n fr lo : Nat} {ret : Option FieldType} {Qf : kQf} (hf : 8 ≤ fr) (hlo : 200 ≤ lo) : ySite gAll LAll vwCl rFo rZs rRs rNs rTs G l cc nL RX13 ret fr lo n Qf 182 915 cq338 := ys_V 2 13454 15 rc338 lo_13454 kc15 (m338 l) kGood kw2177 kw2178 kw2179 kw315 kw2528 hdV_X13_instruction hf hlo
def mt351 : yMt := ([(182, (860, 0)), (182, (678, 1)), (182, (897, 2)), (182, (900, 3)), (182, (903, 4)), (182, (906, 5)), (182, (909, 6)), (182, (912, 7)), (182, (915, 8))], ([], ([], [])))
theorem rc351 : yRc cq351 13454 3 = true := by decide +kernel
theorem yr351 : yRun gAll t351 b351 cq351 := yRun_p (cuts := u351) (fuel := 300) gAll_tag ruI2_RtI ruJ2_RtJ rqL_ok ⟨zsm_e _ z351_s, List.forall_mem_cons.mpr ⟨zsm_e _ z351_0, List.forall_mem_cons.mpr ⟨zsm_e _ z351_1, yA_n⟩⟩⟩
theorem zw351 : zwid cq351.2.1.1 cq351.1 0 7 = true := by decide +kernel
set_option maxRecDepth 100000 in
theorem yw351 : yRows gAll LAll yt12 mt351 gHo 7 0 (zby cX13_act) p351 b351 p351 = true := by decide +kernel
set_option maxRecDepth 100000 in
theorem m351 (l : Launch) : kMet gAll LAll vwCl rFo rZs rRs rNs rTs l yX13_act cX13_act 7 none 8 200 cq351 := kmet_y2 (rt := 0) (by decide +kernel) yr351 zw351 rfl yw351 LAll_ok LAll_la yt12_ok gHo_ok rfl (fun G n Qf => List.forall_mem_cons.mpr ⟨⟨cq330, rfl, st323 l (by decide) (by decide)⟩, List.forall_mem_cons.mpr ⟨⟨cq294, rfl, st299 l (by decide) (by decide)⟩, List.forall_mem_cons.mpr ⟨⟨cq339, rfl, st342 l (by decide) (by decide)⟩, List.forall_mem_cons.mpr ⟨⟨cq312, rfl, st343 l (by decide) (by decide)⟩, List.forall_mem_cons.mpr ⟨⟨cq310, rfl, st344 l (by decide) (by decide)⟩, List.forall_mem_cons.mpr ⟨⟨cq313, rfl, st345 l (by decide) (by decide)⟩, List.forall_mem_cons.mpr ⟨⟨cq350, rfl, st346 l (by decide) (by decide)⟩, List.forall_mem_cons.mpr ⟨⟨cq281, rfl, st347 l (by decide) (by decide)⟩, List.forall_mem_cons.mpr ⟨⟨cq338, rfl, st348 l (by decide) (by decide)⟩, yA_n⟩⟩⟩⟩⟩⟩⟩⟩⟩) rfl (fun G n Rr => yA_n) rfl
/-! 352 Model.cut (JI)J -/
def mt352 : yMt := ([], ([], ([], [])))
theorem yr352 : yRun gAll t352 b352 cq352 := yRun_z gAll_tag ruI2_RtI ruJ2_RtJ rqL_ok z352
theorem zw352 : zwid cq352.2.1.1 cq352.1 0 3 = true := by decide +kernel
set_option maxRecDepth 100000 in
theorem yw352 : yRows gAll LAll yt12 mt352 gHo 3 2 (zby cX13_cut) p352 b352 p352 = true := by decide +kernel
set_option maxRecDepth 100000 in
theorem m352 (l : Launch) : kMet gAll LAll vwCl rFo rZs rRs rNs rTs l yX13_cut cX13_cut 3 (some .long) 0 0 cq352 := kmet_y2 (rt := 2) (by decide +kernel) yr352 zw352 rfl yw352 LAll_ok LAll_la yt12_ok gHo_ok rfl (fun G n Qf => yA_n) rfl (fun G n Rr => yA_n) rfl
/-! 353 Model.upper (JI)J -/
def mt353 : yMt := ([], ([], ([], [])))
theorem yr353 : yRun gAll t353 b353 cq353 := yRun_z gAll_tag ruI2_RtI ruJ2_RtJ rqL_ok z353
theorem zw353 : zwid cq353.2.1.1 cq353.1 0 3 = true := by decide +kernel
set_option maxRecDepth 100000 in
theorem yw353 : yRows gAll LAll yt12 mt353 gHo 3 2 (zby cX13_upper) p353 b353 p353 = true := by decide +kernel
set_option maxRecDepth 100000 in
theorem m353 (l : Launch) : kMet gAll LAll vwCl rFo rZs rRs rNs rTs l yX13_upper cX13_upper 3 (some .long) 0 0 cq353 := kmet_y2 (rt := 2) (by decide +kernel) yr353 zw353 rfl yw353 LAll_ok LAll_la yt12_ok gHo_ok rfl (fun G n Qf => yA_n) rfl (fun G n Rr => yA_n) rfl
/-! 354 Model.zsp (JI)V -/
theorem hdS_X13_cut : yX13_cut.cls ≠ "java/lang/invoke/MethodHandle" ∧ yX13_cut.cls ≠ "java/lang/invoke/VarHandle" ∧ (parseMethodDescriptor yX13_cut.desc).map (fun d => d.parameters.length) = some 2 := by decide +kernel
theorem st349 (l : Launch) {G : rGm} {cc : ByteArray} {nL n fr lo : Nat} {ret : Option FieldType} {Qf : kQf} (hf : 1 ≤ fr) (hlo : 22 ≤ lo) : ySite gAll LAll vwCl rFo rZs rRs rNs rTs G l cc nL RX13 ret fr lo n Qf 184 1346 cq352 := ys_S 2 rfl (m352 l) kGood kw2185 kw2186 kw315 kw2187 hdS_X13_cut hf hlo
theorem hdS_X13_upper : yX13_upper.cls ≠ "java/lang/invoke/MethodHandle" ∧ yX13_upper.cls ≠ "java/lang/invoke/VarHandle" ∧ (parseMethodDescriptor yX13_upper.desc).map (fun d => d.parameters.length) = some 2 := by decide +kernel
theorem st350 (l : Launch) {G : rGm} {cc : ByteArray} {nL n fr lo : Nat} {ret : Option FieldType} {Qf : kQf} (hf : 1 ≤ fr) (hlo : 22 ≤ lo) : ySite gAll LAll vwCl rFo rZs rRs rNs rTs G l cc nL RX13 ret fr lo n Qf 184 1369 cq353 := ys_S 2 rfl (m353 l) kGood kw2191 kw2192 kw315 kw2193 hdS_X13_upper hf hlo
theorem st351 (l : Launch) {G : rGm} {cc : ByteArray} {nL n fr lo : Nat} {ret : Option FieldType} {Qf : kQf} (hf : 1 ≤ fr) (hlo : 21 ≤ lo) : ySite gAll LAll vwCl rFo rZs rRs rNs rTs G l cc nL RX13 ret fr lo n Qf 184 1375 cq206 := ys_S 1 rfl (m206 l) kGood kw2873 kw1948 kw1949 kw1950 hdS_J13_bitCount_95d88 hf hlo
def mt354 : yMt := ([(184, (1346, 0)), (184, (1369, 1)), (184, (1375, 2))], ([], ([], [])))
theorem rc354 : yRc cq354 13454 2 = true := by decide +kernel
theorem yr354 : yRun gAll t354 b354 cq354 := yRun_z gAll_tag ruI2_RtI ruJ2_RtJ rqL_ok z354
theorem zw354 : zwid cq354.2.1.1 cq354.1 0 4 = true := by decide +kernel
set_option maxRecDepth 100000 in
theorem yw354 : yRows gAll LAll yt12 mt354 gHo 4 0 (zby cX13_zsp) p354 b354 p354 = true := by decide +kernel
set_option maxRecDepth 100000 in
theorem m354 (l : Launch) : kMet gAll LAll vwCl rFo rZs rRs rNs rTs l yX13_zsp cX13_zsp 4 none 1 22 cq354 := kmet_y2 (rt := 0) (by decide +kernel) yr354 zw354 rfl yw354 LAll_ok LAll_la yt12_ok gHo_ok rfl (fun G n Qf => List.forall_mem_cons.mpr ⟨⟨cq352, rfl, st349 l (by decide) (by decide)⟩, List.forall_mem_cons.mpr ⟨⟨cq353, rfl, st350 l (by decide) (by decide)⟩, List.forall_mem_cons.mpr ⟨⟨cq206, rfl, st351 l (by decide) (by decide)⟩, yA_n⟩⟩⟩) rfl (fun G n Rr => yA_n) rfl
/-! 355 java/lang/Long.compare (JJ)I -/
def mt355 : yMt := ([], ([], ([], [])))
theorem yr355 : yRun gAll t355 b355 cq355 := yRun_z gAll_tag ruI2_RtI ruJ2_RtJ rqL_ok z355
theorem zw355 : zwid cq355.2.1.1 cq355.1 0 4 = true := by decide +kernel
set_option maxRecDepth 100000 in
theorem yw355 : yRows gAll LAll yt15 mt355 gHo 4 1 (zby cJ13_compare_74951) p355 b355 p355 = true := by decide +kernel
set_option maxRecDepth 100000 in
theorem m355 (l : Launch) : kMet gAll LAll vwCl rFo rZs rRs rNs rTs l yJ13_compare_74951 cJ13_compare_74951 4 (some .int) 0 0 cq355 := kmet_y2 (rt := 1) (by decide +kernel) yr355 zw355 rfl yw355 LAll_ok LAll_la yt15_ok gHo_ok rfl (fun G n Qf => yA_n) rfl (fun G n Rr => yA_n) rfl
/-! 356 java/lang/Long.compareUnsigned (JJ)I -/
theorem hdS_J13_compare_74951 : yJ13_compare_74951.cls ≠ "java/lang/invoke/MethodHandle" ∧ yJ13_compare_74951.cls ≠ "java/lang/invoke/VarHandle" ∧ (parseMethodDescriptor yJ13_compare_74951.desc).map (fun d => d.parameters.length) = some 2 := by decide +kernel
theorem st352 (l : Launch) {G : rGm} {cc : ByteArray} {nL n fr lo : Nat} {ret : Option FieldType} {Qf : kQf} (hf : 1 ≤ fr) (hlo : 23 ≤ lo) : ySite gAll LAll vwCl rFo rZs rRs rNs rTs G l cc nL RJ13 ret fr lo n Qf 184 302 cq355 := ys_S 2 rfl (m355 l) kGood kw2897 kw2898 kw1949 kw2899 hdS_J13_compare_74951 hf hlo
def mt356 : yMt := ([(184, (302, 0))], ([], ([], [])))
theorem yr356 : yRun gAll t356 b356 cq356 := yRun_z gAll_tag ruI2_RtI ruJ2_RtJ rqL_ok z356
theorem zw356 : zwid cq356.2.1.1 cq356.1 0 4 = true := by decide +kernel
set_option maxRecDepth 100000 in
theorem yw356 : yRows gAll LAll yt15 mt356 gHo 4 1 (zby cJ13_compareUnsigned_74951) p356 b356 p356 = true := by decide +kernel
set_option maxRecDepth 100000 in
theorem m356 (l : Launch) : kMet gAll LAll vwCl rFo rZs rRs rNs rTs l yJ13_compareUnsigned_74951 cJ13_compareUnsigned_74951 4 (some .int) 1 23 cq356 := kmet_y2 (rt := 1) (by decide +kernel) yr356 zw356 rfl yw356 LAll_ok LAll_la yt15_ok gHo_ok rfl (fun G n Qf => List.forall_mem_cons.mpr ⟨⟨cq355, rfl, st352 l (by decide) (by decide)⟩, yA_n⟩) rfl (fun G n Rr => yA_n) rfl
/-! 357 Model.add (JJZI)J -/
theorem hdS_J13_compareUnsigned_74951 : yJ13_compareUnsigned_74951.cls ≠ "java/lang/invoke/MethodHandle" ∧ yJ13_compareUnsigned_74951.cls ≠ "java/lang/invoke/VarHandle" ∧ (parseMethodDescriptor yJ13_compareUnsigned_74951.desc).map (fun d => d.parameters.length) = some 2 := by decide +kernel
theorem st353 (l : Launch) {G : rGm} {cc : ByteArray} {nL n fr lo : Nat} {ret : Option FieldType} {Qf : kQf} (hf : 2 ≤ fr) (hlo : 46 ≤ lo) : ySite gAll LAll vwCl rFo rZs rRs rNs rTs G l cc nL RX13 ret fr lo n Qf 184 711 cq356 := ys_S 2 rfl (m356 l) kGood kw2188 kw2189 kw1949 kw2190 hdS_J13_compareUnsigned_74951 hf hlo
theorem hdV_X13_zsp : yX13_zsp.cls = RX13 ∧ yX13_zsp.cls ≠ "java/lang/invoke/MethodHandle" ∧ yX13_zsp.cls ≠ "java/lang/invoke/VarHandle" ∧ (parseMethodDescriptor yX13_zsp.desc).map (fun d => d.parameters.length) = some 2 := by decide +kernel
theorem st354 (l : Launch) {G : rGm} {cc : ByteArray} {nL n fr lo : Nat} {ret : Option FieldType} {Qf : kQf} (hf : 2 ≤ fr) (hlo : 45 ≤ lo) : ySite gAll LAll vwCl rFo rZs rRs rNs rTs G l cc nL RX13 ret fr lo n Qf 182 1387 cq354 := ys_V 2 13454 15 rc354 lo_13454 kc15 (m354 l) kGood kw2194 kw2195 kw2196 kw315 kw2872 hdV_X13_zsp hf hlo
def mt357 : yMt := ([(184, (1346, 0)), (184, (711, 1)), (184, (1369, 2)), (182, (1387, 3))], ([], ([], [])))
theorem rc357 : yRc cq357 13454 4 = true := by decide +kernel
theorem yr357 : yRun gAll t357 b357 cq357 := yRun_z gAll_tag ruI2_RtI ruJ2_RtJ rqL_ok z357
theorem zw357 : zwid cq357.2.1.1 cq357.1 0 9 = true := by decide +kernel
set_option maxRecDepth 100000 in
theorem yw357 : yRows gAll LAll yt12 mt357 gHo 9 2 (zby cX13_add) p357 b357 p357 = true := by decide +kernel
set_option maxRecDepth 100000 in
theorem m357 (l : Launch) : kMet gAll LAll vwCl rFo rZs rRs rNs rTs l yX13_add cX13_add 9 (some .long) 2 46 cq357 := kmet_y2 (rt := 2) (by decide +kernel) yr357 zw357 rfl yw357 LAll_ok LAll_la yt12_ok gHo_ok rfl (fun G n Qf => List.forall_mem_cons.mpr ⟨⟨cq352, rfl, st349 l (by decide) (by decide)⟩, List.forall_mem_cons.mpr ⟨⟨cq356, rfl, st353 l (by decide) (by decide)⟩, List.forall_mem_cons.mpr ⟨⟨cq353, rfl, st350 l (by decide) (by decide)⟩, List.forall_mem_cons.mpr ⟨⟨cq354, rfl, st354 l (by decide) (by decide)⟩, yA_n⟩⟩⟩⟩) rfl (fun G n Rr => yA_n) rfl
/-! 358 Model.addressNow ()J -/
def mt358 : yMt := ([], ([], ([], [])))
theorem rc358 : yRc cq358 13454 0 = true := by decide +kernel
theorem yr358 : yRun gAll t358 b358 cq358 := yRun_z gAll_tag ruI2_RtI ruJ2_RtJ rqL_ok z358
theorem zw358 : zwid cq358.2.1.1 cq358.1 0 7 = true := by decide +kernel
set_option maxRecDepth 100000 in
theorem yw358 : yRows gAll LAll yt12 mt358 gHo 7 2 (zby cX13_addressNow) p358 b358 p358 = true := by decide +kernel
set_option maxRecDepth 100000 in
theorem m358 (l : Launch) : kMet gAll LAll vwCl rFo rZs rRs rNs rTs l yX13_addressNow cX13_addressNow 7 (some .long) 0 0 cq358 := kmet_y2 (rt := 2) (by decide +kernel) yr358 zw358 rfl yw358 LAll_ok LAll_la yt12_ok gHo_ok rfl (fun G n Qf => yA_n) rfl (fun G n Rr => yA_n) rfl
/-! 359 Model.append (I)V -/
def mt359 : yMt := ([], ([], ([], [])))
theorem rc359 : yRc cq359 13454 1 = true := by decide +kernel
theorem yr359 : yRun gAll t359 b359 cq359 := yRun_z gAll_tag ruI2_RtI ruJ2_RtJ rqL_ok z359
theorem zw359 : zwid cq359.2.1.1 cq359.1 0 2 = true := by decide +kernel
set_option maxRecDepth 100000 in
theorem yw359 : yRows gAll LAll yt12 mt359 gHo 2 0 (zby cX13_append) p359 b359 p359 = true := by decide +kernel
set_option maxRecDepth 100000 in
theorem m359 (l : Launch) : kMet gAll LAll vwCl rFo rZs rRs rNs rTs l yX13_append cX13_append 2 none 0 0 cq359 := kmet_y2 (rt := 0) (by decide +kernel) yr359 zw359 rfl yw359 LAll_ok LAll_la yt12_ok gHo_ok rfl (fun G n Qf => yA_n) rfl (fun G n Rr => yA_n) rfl
/-! 360 Model.appendNumber (I)V -/
theorem hdV_X13_append : yX13_append.cls = RX13 ∧ yX13_append.cls ≠ "java/lang/invoke/MethodHandle" ∧ yX13_append.cls ≠ "java/lang/invoke/VarHandle" ∧ (parseMethodDescriptor yX13_append.desc).map (fun d => d.parameters.length) = some 1 := by decide +kernel
theorem st355 (l : Launch) {G : rGm} {cc : ByteArray} {nL n fr lo : Nat} {ret : Option FieldType} {Qf : kQf} (hf : 1 ≤ fr) (hlo : 21 ≤ lo) : ySite gAll LAll vwCl rFo rZs rRs rNs rTs G l cc nL RX13 ret fr lo n Qf 182 691 cq359 := ys_V 1 13454 15 rc359 lo_13454 kc15 (m359 l) kGood kw2199 kw2200 kw2201 kw315 kw2202 hdV_X13_append hf hlo
def mt360 : yMt := ([(182, (691, 0))], ([], ([], [])))
theorem rc360 : yRc cq360 13454 1 = true := by decide +kernel
theorem yr360 : yRun gAll t360 b360 cq360 := yRun_p (cuts := u360) (fuel := 300) gAll_tag ruI2_RtI ruJ2_RtJ rqL_ok ⟨zsm_e _ z360_s, List.forall_mem_cons.mpr ⟨zsm_e _ z360_0, List.forall_mem_cons.mpr ⟨zsm_e _ z360_1, yA_n⟩⟩⟩
theorem zw360 : zwid cq360.2.1.1 cq360.1 0 4 = true := by decide +kernel
set_option maxRecDepth 100000 in
theorem yw360 : yRows gAll LAll yt12 mt360 gHo 4 0 (zby cX13_appendNumber) p360 b360 p360 = true := by decide +kernel
set_option maxRecDepth 100000 in
theorem m360 (l : Launch) : kMet gAll LAll vwCl rFo rZs rRs rNs rTs l yX13_appendNumber cX13_appendNumber 4 none 1 21 cq360 := kmet_y2 (rt := 0) (by decide +kernel) yr360 zw360 rfl yw360 LAll_ok LAll_la yt12_ok gHo_ok rfl (fun G n Qf => List.forall_mem_cons.mpr ⟨⟨cq359, rfl, st355 l (by decide) (by decide)⟩, yA_n⟩) rfl (fun G n Rr => yA_n) rfl
/-! 361 Model.kindAt (I)I -/
def mt361 : yMt := ([], ([], ([], [])))
theorem rc361 : yRc cq361 13454 1 = true := by decide +kernel
theorem yr361 : yRun gAll t361 b361 cq361 := yRun_z gAll_tag ruI2_RtI ruJ2_RtJ rqL_ok z361
theorem zw361 : zwid cq361.2.1.1 cq361.1 0 2 = true := by decide +kernel
set_option maxRecDepth 100000 in
theorem yw361 : yRows gAll LAll yt12 mt361 gHo 2 1 (zby cX13_kindAt) p361 b361 p361 = true := by decide +kernel
set_option maxRecDepth 100000 in
theorem m361 (l : Launch) : kMet gAll LAll vwCl rFo rZs rRs rNs rTs l yX13_kindAt cX13_kindAt 2 (some .int) 0 0 cq361 := kmet_y2 (rt := 1) (by decide +kernel) yr361 zw361 rfl yw361 LAll_ok LAll_la yt12_ok gHo_ok rfl (fun G n Qf => yA_n) rfl (fun G n Rr => yA_n) rfl
/-! 362 Model.registerAt (I)I -/
def mt362 : yMt := ([], ([], ([], [])))
theorem rc362 : yRc cq362 13454 1 = true := by decide +kernel
theorem yr362 : yRun gAll t362 b362 cq362 := yRun_z gAll_tag ruI2_RtI ruJ2_RtJ rqL_ok z362
theorem zw362 : zwid cq362.2.1.1 cq362.1 0 2 = true := by decide +kernel
set_option maxRecDepth 100000 in
theorem yw362 : yRows gAll LAll yt12 mt362 gHo 2 1 (zby cX13_registerAt) p362 b362 p362 = true := by decide +kernel
set_option maxRecDepth 100000 in
theorem m362 (l : Launch) : kMet gAll LAll vwCl rFo rZs rRs rNs rTs l yX13_registerAt cX13_registerAt 2 (some .int) 0 0 cq362 := kmet_y2 (rt := 1) (by decide +kernel) yr362 zw362 rfl yw362 LAll_ok LAll_la yt12_ok gHo_ok rfl (fun G n Qf => yA_n) rfl (fun G n Rr => yA_n) rfl
/-! 363 Model.setRegister (IIJ)V -/
def mt363 : yMt := ([], ([], ([], [])))
theorem rc363 : yRc cq363 13454 3 = true := by decide +kernel
theorem yr363 : yRun gAll t363 b363 cq363 := yRun_z gAll_tag ruI2_RtI ruJ2_RtJ rqL_ok z363
theorem zw363 : zwid cq363.2.1.1 cq363.1 0 5 = true := by decide +kernel
set_option maxRecDepth 100000 in
theorem yw363 : yRows gAll LAll yt12 mt363 gHo 5 0 (zby cX13_setRegister) p363 b363 p363 = true := by decide +kernel
set_option maxRecDepth 100000 in
theorem m363 (l : Launch) : kMet gAll LAll vwCl rFo rZs rRs rNs rTs l yX13_setRegister cX13_setRegister 5 none 0 0 cq363 := kmet_y2 (rt := 0) (by decide +kernel) yr363 zw363 rfl yw363 LAll_ok LAll_la yt12_ok gHo_ok rfl (fun G n Qf => yA_n) rfl (fun G n Rr => yA_n) rfl
/-! 364 Model.heapBegin ()J -/
def mt364 : yMt := ([], ([], ([], [])))
theorem rc364 : yRc cq364 13454 0 = true := by decide +kernel
def fp_Model_heapBegin : List Nat := [390]
theorem ag_Model_heapBegin {s s' : qSg} (hB : ∀ b ∈ fp_Model_heapBegin, AgB gDet s s' b) (as : List qV) : dm_Model_heapBegin as s = dm_Model_heapBegin as s' := by
  unfold dm_Model_heapBegin
  show zRun gDet (dk_Model_heapBegin s') s dc_Model_heapBegin as = zRun gDet (dk_Model_heapBegin s') s' dc_Model_heapBegin as
  exact zRun_ag gd_ok.P hB (show dc_Model_heapBegin.all (fun x => x.1.all (okF gDet fp_Model_heapBegin)) = true by decide +kernel) as
set_option maxHeartbeats 4000000 in
theorem he_Model_heapBegin (s : qSg) : ∀ as r a v, CtBeg gAll d364 as s r a → Typed gAll s → dm_Model_heapBegin (as.map cnV) s = some v → dEv 1170 (([] : List Nat).map a) (([(0, [(0, 1)])] : List qL).map (qe r)) = some v.2 := by
  intro as r a v hB hT e
  obtain ⟨hlen, ls, hsub, hsat⟩ := hB
  obtain ⟨hls, -, hsc, hav, -⟩ := hsat.now
  have hlen : as.length = 1 := hlen
  match as, hlen with
  | [w0], _ =>
    have x0 := hsub (0, ((2 : Nat), qe r ((26909, []) : qL))) (by rw [hls]; exact List.mem_cons_self)
    cases lsArgs_hd (x0)
    have e1 : dm_Model_heapBegin [((2 : Nat), qe r ((26909, []) : qL))] s = some v := by
      unfold dm_Model_heapBegin at e ⊢
      rw [zRun_cn (map_cn _)] at e
      exact e
    have e2 := ag_Model_heapBegin (s := s) (s' := dSto [] [(390, dZ (([(0, [(0, 1)])] : List qL).map (qe r)) 0)]) (fun b hb => by
      rcases List.mem_cons.mp hb with rfl | hb
      · exact yFld (by decide +kernel) rfl rfl (hsc (390, (0, [(0, 1)])) (List.mem_cons_self))
      cases hb) [((2 : Nat), qe r ((26909, []) : qL))]
    rw [e2] at e1
    exact congrArg (fun o => o.map (fun v => v.2)) e1
theorem hd_Model_heapBegin : ∀ s, Typed gAll s → HC gAll t364 (dk_Model_heapBegin s) s := by
  intro s hT j C hC
  match j, hC with
  | j + 0, hC => cases (show none = some C from hC)
set_option maxHeartbeats 4000000 in
theorem dC_Model_heapBegin (s : qSg) (hT : Typed gAll s) : DetC gAll cq364 s (fun as => dm_Model_heapBegin as s) := detC_of (p := 1170) (t := 1) (vs := []) (zi := [(0, [(0, 1)])]) (Cd := d364) rfl rfl rfl (⟨⟨_, rfl, ⟨_, rfl, (fun z hz => by
    rcases List.mem_cons.mp hz with rfl | hz
    · exact Or.inr rfl
    cases hz), List.mem_cons_self⟩, Nat.le_of_ble_eq_true rfl, Nat.le_of_ble_eq_true rfl⟩, trivial⟩) (by decide) (by decide +kernel) (by decide +kernel)
  (fun fs zs z h1 h2 => by
    rw [PQ_c (show fTab[1170]? = none by decide +kernel)]
    match fs, zs, h1, h2 with
    | [], [z0], _, _ => exact Iff.rfl) (yDet_b gAll_tag z364 gd_ok (by decide +kernel) (eqCd_ok (by decide +kernel)) hd_Model_heapBegin s) (he_Model_heapBegin s)
theorem yr364 : yRun gAll t364 b364 cq364 := yRun_d (dc := dc_Model_heapBegin) (cl := dk_Model_heapBegin) gAll_tag z364 gd_ok (by decide +kernel) (eqCd_ok (by decide +kernel)) hd_Model_heapBegin rfl rfl (fun s hT => dC_Model_heapBegin s hT)
theorem zw364 : zwid cq364.2.1.1 cq364.1 0 1 = true := by decide +kernel
set_option maxRecDepth 100000 in
theorem yw364 : yRows gAll LAll yt12 mt364 gHo 1 2 (zby cX13_heapBegin) p364 b364 p364 = true := by decide +kernel
set_option maxRecDepth 100000 in
theorem m364 (l : Launch) : kMet gAll LAll vwCl rFo rZs rRs rNs rTs l yX13_heapBegin cX13_heapBegin 1 (some .long) 0 0 cq364 := kmet_y2 (rt := 2) (by decide +kernel) yr364 zw364 rfl yw364 LAll_ok LAll_la yt12_ok gHo_ok rfl (fun G n Qf => yA_n) rfl (fun G n Rr => yA_n) rfl
/-! 365 Model.find (JZ)I -/
theorem hdV_X13_heapBegin : yX13_heapBegin.cls = RX13 ∧ yX13_heapBegin.cls ≠ "java/lang/invoke/MethodHandle" ∧ yX13_heapBegin.cls ≠ "java/lang/invoke/VarHandle" ∧ (parseMethodDescriptor yX13_heapBegin.desc).map (fun d => d.parameters.length) = some 0 := by decide +kernel
theorem st356 (l : Launch) {G : rGm} {cc : ByteArray} {nL n fr lo : Nat} {ret : Option FieldType} {Qf : kQf} (hf : 1 ≤ fr) (hlo : 20 ≤ lo) : ySite gAll LAll vwCl rFo rZs rRs rNs rTs G l cc nL RX13 ret fr lo n Qf 182 1305 cq364 := ys_V 0 13454 15 rc364 lo_13454 kc15 (m364 l) kGood kw879 kw880 kw881 kw315 kw878 hdV_X13_heapBegin hf hlo
def mt365 : yMt := ([(182, (1305, 0))], ([], ([], [])))
theorem rc365 : yRc cq365 13454 2 = true := by decide +kernel
def fp_Model_find : List Nat := [269, 270, 390, 391, 392, 393, 394, 395]
theorem ag_Model_find {s s' : qSg} (hB : ∀ b ∈ fp_Model_find, AgB gDet s s' b) (as : List qV) : dm_Model_find as s = dm_Model_find as s' := by
  unfold dm_Model_find
  have e : dk_Model_find s = dk_Model_find s' := by
    funext i
    match i with
    | 0 => exact congrArg (fun f => some (1, f)) (funext fun as => ag_Model_heapBegin (fun b hb => hB b ((show ∀ b ∈ fp_Model_heapBegin, b ∈ fp_Model_find by decide +kernel) b hb)) as)
    | i + 1 => exact (show dk_Model_find s (i + 1) = none from rfl).trans (show none = dk_Model_find s' (i + 1) from rfl)
  rw [e]
  exact zRun_ag gd_ok.P hB (show dc_Model_find.all (fun x => x.1.all (okF gDet fp_Model_find)) = true by decide +kernel) as
set_option maxHeartbeats 4000000 in
theorem he_Model_find (s : qSg) : ∀ as r a v, CtBeg gAll d365 as s r a → Typed gAll s → dm_Model_find (as.map cnV) s = some v → dEv 1030 (([] : List Nat).map a) (([(0, [(0, 1)]), (0, [(1, 1)]), (0, [(9, 1)]), (0, [(4, 1)]), (0, [(7, 1)]), (0, [(5, 1)]), (0, [(6, 1)]), (0, [(2, 1)]), (0, [(3, 1)]), (0, [(8, 1)])] : List qL).map (qe r)) = some v.2 := by
  intro as r a v hB hT e
  obtain ⟨hlen, ls, hsub, hsat⟩ := hB
  obtain ⟨hls, -, hsc, hav, -⟩ := hsat.now
  have hlen : as.length = 3 := hlen
  match as, hlen with
  | [w0, w1, w2], _ =>
    have x0 := hsub (0, ((2 : Nat), qe r ((26909, []) : qL))) (by rw [hls]; exact List.mem_cons_self)
    cases lsArgs_hd (x0)
    have x1 := hsub (1, ((1 : Nat), qe r ((0, [(0, 1)]) : qL))) (by rw [hls]; exact List.mem_cons_of_mem _ (List.mem_cons_self))
    cases lsArgs_hd (lsArgs_tl (by decide) (by decide) (x1))
    have x2 := hsub (3, ((0 : Nat), qe r ((0, [(1, 1)]) : qL))) (by rw [hls]; exact List.mem_cons_of_mem _ (List.mem_cons_of_mem _ (List.mem_cons_self)))
    cases lsArgs_hd (lsArgs_t2 (by decide) (lsArgs_tl (by decide) (by decide) (x2)))
    have e1 : dm_Model_find [((2 : Nat), qe r ((26909, []) : qL)), ((1 : Nat), qe r ((0, [(0, 1)]) : qL)), ((0 : Nat), qe r ((0, [(1, 1)]) : qL))] s = some v := by
      unfold dm_Model_find at e ⊢
      rw [zRun_cn (map_cn _)] at e
      exact e
    have e2 := ag_Model_find (s := s) (s' := dSto [] [(269, dZ (([(0, [(0, 1)]), (0, [(1, 1)]), (0, [(9, 1)]), (0, [(4, 1)]), (0, [(7, 1)]), (0, [(5, 1)]), (0, [(6, 1)]), (0, [(2, 1)]), (0, [(3, 1)]), (0, [(8, 1)])] : List qL).map (qe r)) 2), (390, dZ (([(0, [(0, 1)]), (0, [(1, 1)]), (0, [(9, 1)]), (0, [(4, 1)]), (0, [(7, 1)]), (0, [(5, 1)]), (0, [(6, 1)]), (0, [(2, 1)]), (0, [(3, 1)]), (0, [(8, 1)])] : List qL).map (qe r)) 3), (391, dZ (([(0, [(0, 1)]), (0, [(1, 1)]), (0, [(9, 1)]), (0, [(4, 1)]), (0, [(7, 1)]), (0, [(5, 1)]), (0, [(6, 1)]), (0, [(2, 1)]), (0, [(3, 1)]), (0, [(8, 1)])] : List qL).map (qe r)) 4), (392, dZ (([(0, [(0, 1)]), (0, [(1, 1)]), (0, [(9, 1)]), (0, [(4, 1)]), (0, [(7, 1)]), (0, [(5, 1)]), (0, [(6, 1)]), (0, [(2, 1)]), (0, [(3, 1)]), (0, [(8, 1)])] : List qL).map (qe r)) 5), (393, dZ (([(0, [(0, 1)]), (0, [(1, 1)]), (0, [(9, 1)]), (0, [(4, 1)]), (0, [(7, 1)]), (0, [(5, 1)]), (0, [(6, 1)]), (0, [(2, 1)]), (0, [(3, 1)]), (0, [(8, 1)])] : List qL).map (qe r)) 6), (394, dZ (([(0, [(0, 1)]), (0, [(1, 1)]), (0, [(9, 1)]), (0, [(4, 1)]), (0, [(7, 1)]), (0, [(5, 1)]), (0, [(6, 1)]), (0, [(2, 1)]), (0, [(3, 1)]), (0, [(8, 1)])] : List qL).map (qe r)) 7), (395, dZ (([(0, [(0, 1)]), (0, [(1, 1)]), (0, [(9, 1)]), (0, [(4, 1)]), (0, [(7, 1)]), (0, [(5, 1)]), (0, [(6, 1)]), (0, [(2, 1)]), (0, [(3, 1)]), (0, [(8, 1)])] : List qL).map (qe r)) 8), (270, dZ (([(0, [(0, 1)]), (0, [(1, 1)]), (0, [(9, 1)]), (0, [(4, 1)]), (0, [(7, 1)]), (0, [(5, 1)]), (0, [(6, 1)]), (0, [(2, 1)]), (0, [(3, 1)]), (0, [(8, 1)])] : List qL).map (qe r)) 9)]) (fun b hb => by
      rcases List.mem_cons.mp hb with rfl | hb
      · exact yFld (by decide +kernel) rfl rfl (hsc (269, (0, [(9, 1)])) (List.mem_cons_of_mem _ (List.mem_cons_of_mem _ (List.mem_cons_of_mem _ (List.mem_cons_of_mem _ (List.mem_cons_of_mem _ (List.mem_cons_of_mem _ (List.mem_cons_of_mem _ (List.mem_cons_self)))))))))
      rcases List.mem_cons.mp hb with rfl | hb
      · exact yFld (by decide +kernel) rfl rfl (hsc (270, (0, [(8, 1)])) (List.mem_cons_of_mem _ (List.mem_cons_of_mem _ (List.mem_cons_of_mem _ (List.mem_cons_of_mem _ (List.mem_cons_of_mem _ (List.mem_cons_of_mem _ (List.mem_cons_self))))))))
      rcases List.mem_cons.mp hb with rfl | hb
      · exact yFld (by decide +kernel) rfl rfl (hsc (390, (0, [(4, 1)])) (List.mem_cons_of_mem _ (List.mem_cons_of_mem _ (List.mem_cons_self))))
      rcases List.mem_cons.mp hb with rfl | hb
      · exact yFld (by decide +kernel) rfl rfl (hsc (391, (0, [(7, 1)])) (List.mem_cons_of_mem _ (List.mem_cons_of_mem _ (List.mem_cons_of_mem _ (List.mem_cons_of_mem _ (List.mem_cons_of_mem _ (List.mem_cons_self)))))))
      rcases List.mem_cons.mp hb with rfl | hb
      · exact yFld (by decide +kernel) rfl rfl (hsc (392, (0, [(5, 1)])) (List.mem_cons_of_mem _ (List.mem_cons_of_mem _ (List.mem_cons_of_mem _ (List.mem_cons_self)))))
      rcases List.mem_cons.mp hb with rfl | hb
      · exact yFld (by decide +kernel) rfl rfl (hsc (393, (0, [(6, 1)])) (List.mem_cons_of_mem _ (List.mem_cons_of_mem _ (List.mem_cons_of_mem _ (List.mem_cons_of_mem _ (List.mem_cons_self))))))
      rcases List.mem_cons.mp hb with rfl | hb
      · exact yFld (by decide +kernel) rfl rfl (hsc (394, (0, [(2, 1)])) (List.mem_cons_self))
      rcases List.mem_cons.mp hb with rfl | hb
      · exact yFld (by decide +kernel) rfl rfl (hsc (395, (0, [(3, 1)])) (List.mem_cons_of_mem _ (List.mem_cons_self)))
      cases hb) [((2 : Nat), qe r ((26909, []) : qL)), ((1 : Nat), qe r ((0, [(0, 1)]) : qL)), ((0 : Nat), qe r ((0, [(1, 1)]) : qL))]
    rw [e2] at e1
    exact congrArg (fun o => o.map (fun v => v.2)) e1
theorem hd_Model_find : ∀ s, Typed gAll s → HC gAll t365 (dk_Model_find s) s := by
  intro s hT j C hC
  match j, hC with
  | 0, hC =>
    cases (show some cq364 = some C from hC)
    exact ⟨_, rfl, rfl, dC_Model_heapBegin s hT⟩
  | j + 1, hC => cases (show none = some C from hC)
set_option maxHeartbeats 4000000 in
theorem dC_Model_find (s : qSg) (hT : Typed gAll s) : DetC gAll cq365 s (fun as => dm_Model_find as s) := detC_of (p := 1030) (t := 0) (vs := []) (zi := [(0, [(0, 1)]), (0, [(1, 1)]), (0, [(9, 1)]), (0, [(4, 1)]), (0, [(7, 1)]), (0, [(5, 1)]), (0, [(6, 1)]), (0, [(2, 1)]), (0, [(3, 1)]), (0, [(8, 1)])]) (Cd := d365) rfl rfl rfl (⟨⟨_, rfl, ⟨_, rfl, (fun z hz => by
    rcases List.mem_cons.mp hz with rfl | hz
    · exact Or.inr rfl
    rcases List.mem_cons.mp hz with rfl | hz
    · exact Or.inl (List.mem_cons_self)
    cases hz), List.mem_cons_self⟩, Nat.le_of_ble_eq_true rfl, Nat.le_of_ble_eq_true rfl⟩, ⟨⟨_, rfl, ⟨_, rfl, (fun z hz => by
    rcases List.mem_cons.mp hz with rfl | hz
    · exact Or.inr rfl
    rcases List.mem_cons.mp hz with rfl | hz
    · exact Or.inl (List.mem_cons_self)
    cases hz), List.mem_cons_self⟩, Nat.le_of_ble_eq_true rfl, Nat.le_of_ble_eq_true rfl⟩, trivial⟩⟩) (by decide) (by decide +kernel) (by decide +kernel)
  (fun fs zs z h1 h2 => by
    rw [PQ_c (show fTab[1030]? = none by decide +kernel)]
    match fs, zs, h1, h2 with
    | [], [z0, z1, z2, z3, z4, z5, z6, z7, z8, z9], _, _ => exact Iff.rfl) (yDet_b gAll_tag z365 gd_ok (by decide +kernel) (eqCd_ok (by decide +kernel)) hd_Model_find s) (he_Model_find s)
theorem yr365 : yRun gAll t365 b365 cq365 := yRun_d (dc := dc_Model_find) (cl := dk_Model_find) gAll_tag z365 gd_ok (by decide +kernel) (eqCd_ok (by decide +kernel)) hd_Model_find rfl rfl (fun s hT => dC_Model_find s hT)
theorem zw365 : zwid cq365.2.1.1 cq365.1 0 10 = true := by decide +kernel
set_option maxRecDepth 100000 in
theorem yw365 : yRows gAll LAll yt12 mt365 gHo 10 1 (zby cX13_find) p365 b365 p365 = true := by decide +kernel
set_option maxRecDepth 100000 in
theorem m365 (l : Launch) : kMet gAll LAll vwCl rFo rZs rRs rNs rTs l yX13_find cX13_find 10 (some .int) 1 20 cq365 := kmet_y2 (rt := 1) (by decide +kernel) yr365 zw365 rfl yw365 LAll_ok LAll_la yt12_ok gHo_ok rfl (fun G n Qf => List.forall_mem_cons.mpr ⟨⟨cq364, rfl, st356 l (by decide) (by decide)⟩, yA_n⟩) rfl (fun G n Rr => yA_n) rfl
/-! 366 Model.setPlace (II)V -/
def mt366 : yMt := ([], ([], ([], [])))
theorem rc366 : yRc cq366 13454 2 = true := by decide +kernel
theorem yr366 : yRun gAll t366 b366 cq366 := yRun_z gAll_tag ruI2_RtI ruJ2_RtJ rqL_ok z366
theorem zw366 : zwid cq366.2.1.1 cq366.1 0 3 = true := by decide +kernel
set_option maxRecDepth 100000 in
theorem yw366 : yRows gAll LAll yt12 mt366 gHo 3 0 (zby cX13_setPlace) p366 b366 p366 = true := by decide +kernel
set_option maxRecDepth 100000 in
theorem m366 (l : Launch) : kMet gAll LAll vwCl rFo rZs rRs rNs rTs l yX13_setPlace cX13_setPlace 3 none 0 0 cq366 := kmet_y2 (rt := 0) (by decide +kernel) yr366 zw366 rfl yw366 LAll_ok LAll_la yt12_ok gHo_ok rfl (fun G n Qf => yA_n) rfl (fun G n Rr => yA_n) rfl
/-! 367 Model.stopWith (IJ)V -/
def mt367 : yMt := ([], ([], ([], [])))
theorem rc367 : yRc cq367 13454 2 = true := by decide +kernel
theorem yr367 : yRun gAll t367 b367 cq367 := yRun_z gAll_tag ruI2_RtI ruJ2_RtJ rqL_ok z367
theorem zw367 : zwid cq367.2.1.1 cq367.1 0 4 = true := by decide +kernel
set_option maxRecDepth 100000 in
theorem yw367 : yRows gAll LAll yt12 mt367 gHo 4 0 (zby cX13_stopWith) p367 b367 p367 = true := by decide +kernel
set_option maxRecDepth 100000 in
theorem m367 (l : Launch) : kMet gAll LAll vwCl rFo rZs rRs rNs rTs l yX13_stopWith cX13_stopWith 4 none 0 0 cq367 := kmet_y2 (rt := 0) (by decide +kernel) yr367 zw367 rfl yw367 LAll_ok LAll_la yt12_ok gHo_ok rfl (fun G n Qf => yA_n) rfl (fun G n Rr => yA_n) rfl
