/-! METHODS, CALLEES FIRST (written by wip/p2/genmeth.py) -/
/-! 368 Model.store (JIJ)V -/
theorem hdV_X13_find : yX13_find.cls = RX13 ∧ yX13_find.cls ≠ "java/lang/invoke/MethodHandle" ∧ yX13_find.cls ≠ "java/lang/invoke/VarHandle" ∧ (parseMethodDescriptor yX13_find.desc).map (fun d => d.parameters.length) = some 2 := by decide +kernel
theorem st357 (l : Launch) {G : rGm} {cc : ByteArray} {nL n fr lo : Nat} {ret : Option FieldType} {Qf : kQf} (hf : 2 ≤ fr) (hlo : 49 ≤ lo) : ySite gAll LAll vwCl rFo rZs rRs rNs rTs G l cc nL RX13 ret fr lo n Qf 182 1321 cq365 := ys_V 2 13454 15 rc365 lo_13454 kc15 (m365 l) kGood kw885 kw886 kw887 kw315 kw884 hdV_X13_find hf hlo
theorem hdV_X13_stopWith : yX13_stopWith.cls = RX13 ∧ yX13_stopWith.cls ≠ "java/lang/invoke/MethodHandle" ∧ yX13_stopWith.cls ≠ "java/lang/invoke/VarHandle" ∧ (parseMethodDescriptor yX13_stopWith.desc).map (fun d => d.parameters.length) = some 2 := by decide +kernel
theorem st358 (l : Launch) {G : rGm} {cc : ByteArray} {nL n fr lo : Nat} {ret : Option FieldType} {Qf : kQf} (hf : 1 ≤ fr) (hlo : 23 ≤ lo) : ySite gAll LAll vwCl rFo rZs rRs rNs rTs G l cc nL RX13 ret fr lo n Qf 182 1325 cq367 := ys_V 2 13454 15 rc367 lo_13454 kc15 (m367 l) kGood kw2395 kw2396 kw2397 kw315 kw2827 hdV_X13_stopWith hf hlo
theorem hdV_X13_setPlace : yX13_setPlace.cls = RX13 ∧ yX13_setPlace.cls ≠ "java/lang/invoke/MethodHandle" ∧ yX13_setPlace.cls ≠ "java/lang/invoke/VarHandle" ∧ (parseMethodDescriptor yX13_setPlace.desc).map (fun d => d.parameters.length) = some 2 := by decide +kernel
theorem st359 (l : Launch) {G : rGm} {cc : ByteArray} {nL n fr lo : Nat} {ret : Option FieldType} {Qf : kQf} (hf : 1 ≤ fr) (hlo : 22 ≤ lo) : ySite gAll LAll vwCl rFo rZs rRs rNs rTs G l cc nL RX13 ret fr lo n Qf 182 1332 cq366 := ys_V 2 13454 15 rc366 lo_13454 kc15 (m366 l) kGood kw2733 kw2734 kw2735 kw315 kw2803 hdV_X13_setPlace hf hlo
def mt368 : yMt := ([(182, (1321, 0)), (182, (1325, 1)), (182, (1332, 2))], ([], ([], [])))
theorem rc368 : yRc cq368 13454 3 = true := by decide +kernel
theorem yr368 : yRun gAll t368 b368 cq368 := yRun_p (cuts := u368) (fuel := 300) gAll_tag ruI2_RtI ruJ2_RtJ rqL_ok ⟨zsm_e _ z368_s, List.forall_mem_cons.mpr ⟨zsm_e _ z368_0, List.forall_mem_cons.mpr ⟨zsm_e _ z368_1, yA_n⟩⟩⟩
theorem zw368 : zwid cq368.2.1.1 cq368.1 0 7 = true := by decide +kernel
set_option maxRecDepth 100000 in
theorem yw368 : yRows gAll LAll yt12 mt368 gHo 7 0 (zby cX13_store) p368 b368 p368 = true := by decide +kernel
set_option maxRecDepth 100000 in
theorem m368 (l : Launch) : kMet gAll LAll vwCl rFo rZs rRs rNs rTs l yX13_store cX13_store 7 none 2 49 cq368 := kmet_y2 (rt := 0) (by decide +kernel) yr368 zw368 rfl yw368 LAll_ok LAll_la yt12_ok gHo_ok rfl (fun G n Qf => List.forall_mem_cons.mpr ⟨⟨cq365, rfl, st357 l (by decide) (by decide)⟩, List.forall_mem_cons.mpr ⟨⟨cq367, rfl, st358 l (by decide) (by decide)⟩, List.forall_mem_cons.mpr ⟨⟨cq366, rfl, st359 l (by decide) (by decide)⟩, yA_n⟩⟩⟩) rfl (fun G n Rr => yA_n) rfl
/-! 369 Model.put (IIJ)V -/
theorem hdV_X13_kindAt : yX13_kindAt.cls = RX13 ∧ yX13_kindAt.cls ≠ "java/lang/invoke/MethodHandle" ∧ yX13_kindAt.cls ≠ "java/lang/invoke/VarHandle" ∧ (parseMethodDescriptor yX13_kindAt.desc).map (fun d => d.parameters.length) = some 1 := by decide +kernel
theorem st360 (l : Launch) {G : rGm} {cc : ByteArray} {nL n fr lo : Nat} {ret : Option FieldType} {Qf : kQf} (hf : 1 ≤ fr) (hlo : 21 ≤ lo) : ySite gAll LAll vwCl rFo rZs rRs rNs rTs G l cc nL RX13 ret fr lo n Qf 182 1340 cq361 := ys_V 1 13454 15 rc361 lo_13454 kc15 (m361 l) kGood kw2507 kw2508 kw2509 kw315 kw2593 hdV_X13_kindAt hf hlo
theorem hdV_X13_registerAt : yX13_registerAt.cls = RX13 ∧ yX13_registerAt.cls ≠ "java/lang/invoke/MethodHandle" ∧ yX13_registerAt.cls ≠ "java/lang/invoke/VarHandle" ∧ (parseMethodDescriptor yX13_registerAt.desc).map (fun d => d.parameters.length) = some 1 := by decide +kernel
theorem st361 (l : Launch) {G : rGm} {cc : ByteArray} {nL n fr lo : Nat} {ret : Option FieldType} {Qf : kQf} (hf : 1 ≤ fr) (hlo : 21 ≤ lo) : ySite gAll LAll vwCl rFo rZs rRs rNs rTs G l cc nL RX13 ret fr lo n Qf 182 1343 cq362 := ys_V 1 13454 15 rc362 lo_13454 kc15 (m362 l) kGood kw2751 kw2752 kw2753 kw315 kw2786 hdV_X13_registerAt hf hlo
theorem hdV_X13_setRegister : yX13_setRegister.cls = RX13 ∧ yX13_setRegister.cls ≠ "java/lang/invoke/MethodHandle" ∧ yX13_setRegister.cls ≠ "java/lang/invoke/VarHandle" ∧ (parseMethodDescriptor yX13_setRegister.desc).map (fun d => d.parameters.length) = some 3 := by decide +kernel
theorem st362 (l : Launch) {G : rGm} {cc : ByteArray} {nL n fr lo : Nat} {ret : Option FieldType} {Qf : kQf} (hf : 1 ≤ fr) (hlo : 24 ≤ lo) : ySite gAll LAll vwCl rFo rZs rRs rNs rTs G l cc nL RX13 ret fr lo n Qf 182 1358 cq363 := ys_V 3 13454 15 rc363 lo_13454 kc15 (m363 l) kGood kw2399 kw2400 kw2401 kw315 kw2804 hdV_X13_setRegister hf hlo
theorem hdV_X13_store : yX13_store.cls = RX13 ∧ yX13_store.cls ≠ "java/lang/invoke/MethodHandle" ∧ yX13_store.cls ≠ "java/lang/invoke/VarHandle" ∧ (parseMethodDescriptor yX13_store.desc).map (fun d => d.parameters.length) = some 3 := by decide +kernel
theorem st363 (l : Launch) {G : rGm} {cc : ByteArray} {nL n fr lo : Nat} {ret : Option FieldType} {Qf : kQf} (hf : 3 ≤ fr) (hlo : 75 ≤ lo) : ySite gAll LAll vwCl rFo rZs rRs rNs rTs G l cc nL RX13 ret fr lo n Qf 182 1362 cq368 := ys_V 3 13454 15 rc368 lo_13454 kc15 (m368 l) kGood kw2742 kw2743 kw2744 kw315 kw2828 hdV_X13_store hf hlo
def mt369 : yMt := ([(182, (1340, 0)), (182, (1343, 1)), (182, (1358, 2)), (182, (1362, 3))], ([], ([], [])))
theorem rc369 : yRc cq369 13454 3 = true := by decide +kernel
theorem yr369 : yRun gAll t369 b369 cq369 := yRun_z gAll_tag ruI2_RtI ruJ2_RtJ rqL_ok z369
theorem zw369 : zwid cq369.2.1.1 cq369.1 0 5 = true := by decide +kernel
set_option maxRecDepth 100000 in
theorem yw369 : yRows gAll LAll yt12 mt369 gHo 5 0 (zby cX13_put_) p369 b369 p369 = true := by decide +kernel
set_option maxRecDepth 100000 in
theorem m369 (l : Launch) : kMet gAll LAll vwCl rFo rZs rRs rNs rTs l yX13_put_ cX13_put_ 5 none 3 75 cq369 := kmet_y2 (rt := 0) (by decide +kernel) yr369 zw369 rfl yw369 LAll_ok LAll_la yt12_ok gHo_ok rfl (fun G n Qf => List.forall_mem_cons.mpr ⟨⟨cq361, rfl, st360 l (by decide) (by decide)⟩, List.forall_mem_cons.mpr ⟨⟨cq362, rfl, st361 l (by decide) (by decide)⟩, List.forall_mem_cons.mpr ⟨⟨cq363, rfl, st362 l (by decide) (by decide)⟩, List.forall_mem_cons.mpr ⟨⟨cq368, rfl, st363 l (by decide) (by decide)⟩, yA_n⟩⟩⟩⟩) rfl (fun G n Rr => yA_n) rfl
/-! 370 Model.subtract (JJZI)J -/
def mt370 : yMt := ([(184, (1346, 0)), (184, (711, 1)), (184, (1369, 2)), (182, (1387, 3))], ([], ([], [])))
theorem rc370 : yRc cq370 13454 4 = true := by decide +kernel
theorem yr370 : yRun gAll t370 b370 cq370 := yRun_z gAll_tag ruI2_RtI ruJ2_RtJ rqL_ok z370
theorem zw370 : zwid cq370.2.1.1 cq370.1 0 9 = true := by decide +kernel
set_option maxRecDepth 100000 in
theorem yw370 : yRows gAll LAll yt12 mt370 gHo 9 2 (zby cX13_subtract) p370 b370 p370 = true := by decide +kernel
set_option maxRecDepth 100000 in
theorem m370 (l : Launch) : kMet gAll LAll vwCl rFo rZs rRs rNs rTs l yX13_subtract cX13_subtract 9 (some .long) 2 46 cq370 := kmet_y2 (rt := 2) (by decide +kernel) yr370 zw370 rfl yw370 LAll_ok LAll_la yt12_ok gHo_ok rfl (fun G n Qf => List.forall_mem_cons.mpr ⟨⟨cq352, rfl, st349 l (by decide) (by decide)⟩, List.forall_mem_cons.mpr ⟨⟨cq356, rfl, st353 l (by decide) (by decide)⟩, List.forall_mem_cons.mpr ⟨⟨cq353, rfl, st350 l (by decide) (by decide)⟩, List.forall_mem_cons.mpr ⟨⟨cq354, rfl, st354 l (by decide) (by decide)⟩, yA_n⟩⟩⟩⟩) rfl (fun G n Rr => yA_n) rfl
/-! 371 Model.byteAtPlace (I)I -/
def mt371 : yMt := ([], ([], ([], [])))
theorem rc371 : yRc cq371 13454 1 = true := by decide +kernel
theorem yr371 : yRun gAll t371 b371 cq371 := yRun_z gAll_tag ruI2_RtI ruJ2_RtJ rqL_ok z371
theorem zw371 : zwid cq371.2.1.1 cq371.1 0 2 = true := by decide +kernel
set_option maxRecDepth 100000 in
theorem yw371 : yRows gAll LAll yt12 mt371 gHo 2 1 (zby cX13_byteAtPlace) p371 b371 p371 = true := by decide +kernel
set_option maxRecDepth 100000 in
theorem m371 (l : Launch) : kMet gAll LAll vwCl rFo rZs rRs rNs rTs l yX13_byteAtPlace cX13_byteAtPlace 2 (some .int) 0 0 cq371 := kmet_y2 (rt := 1) (by decide +kernel) yr371 zw371 rfl yw371 LAll_ok LAll_la yt12_ok gHo_ok rfl (fun G n Qf => yA_n) rfl (fun G n Rr => yA_n) rfl
/-! 372 Model.wordAt (JI)J -/
theorem hdV_X13_byteAtPlace : yX13_byteAtPlace.cls = RX13 ∧ yX13_byteAtPlace.cls ≠ "java/lang/invoke/MethodHandle" ∧ yX13_byteAtPlace.cls ≠ "java/lang/invoke/VarHandle" ∧ (parseMethodDescriptor yX13_byteAtPlace.desc).map (fun d => d.parameters.length) = some 1 := by decide +kernel
theorem st364 (l : Launch) {G : rGm} {cc : ByteArray} {nL n fr lo : Nat} {ret : Option FieldType} {Qf : kQf} (hf : 1 ≤ fr) (hlo : 21 ≤ lo) : ySite gAll LAll vwCl rFo rZs rRs rNs rTs G l cc nL RX13 ret fr lo n Qf 182 1329 cq371 := ys_V 1 13454 15 rc371 lo_13454 kc15 (m371 l) kGood kw2683 kw2684 kw2685 kw315 kw2306 hdV_X13_byteAtPlace hf hlo
def mt372 : yMt := ([(182, (1321, 0)), (182, (1325, 1)), (182, (1329, 2))], ([], ([], [])))
theorem rc372 : yRc cq372 13454 2 = true := by decide +kernel
theorem yr372 : yRun gAll t372 b372 cq372 := yRun_p (cuts := u372) (fuel := 300) gAll_tag ruI2_RtI ruJ2_RtJ rqL_ok ⟨zsm_e _ z372_s, List.forall_mem_cons.mpr ⟨zsm_e _ z372_0, yA_n⟩⟩
theorem zw372 : zwid cq372.2.1.1 cq372.1 0 8 = true := by decide +kernel
set_option maxRecDepth 100000 in
theorem yw372 : yRows gAll LAll yt12 mt372 gHo 8 2 (zby cX13_wordAt) p372 b372 p372 = true := by decide +kernel
set_option maxRecDepth 100000 in
theorem m372 (l : Launch) : kMet gAll LAll vwCl rFo rZs rRs rNs rTs l yX13_wordAt cX13_wordAt 8 (some .long) 2 49 cq372 := kmet_y2 (rt := 2) (by decide +kernel) yr372 zw372 rfl yw372 LAll_ok LAll_la yt12_ok gHo_ok rfl (fun G n Qf => List.forall_mem_cons.mpr ⟨⟨cq365, rfl, st357 l (by decide) (by decide)⟩, List.forall_mem_cons.mpr ⟨⟨cq367, rfl, st358 l (by decide) (by decide)⟩, List.forall_mem_cons.mpr ⟨⟨cq371, rfl, st364 l (by decide) (by decide)⟩, yA_n⟩⟩⟩) rfl (fun G n Rr => yA_n) rfl
/-! 373 Model.take (II)J -/
theorem hdV_X13_wordAt : yX13_wordAt.cls = RX13 ∧ yX13_wordAt.cls ≠ "java/lang/invoke/MethodHandle" ∧ yX13_wordAt.cls ≠ "java/lang/invoke/VarHandle" ∧ (parseMethodDescriptor yX13_wordAt.desc).map (fun d => d.parameters.length) = some 2 := by decide +kernel
theorem st365 (l : Launch) {G : rGm} {cc : ByteArray} {nL n fr lo : Nat} {ret : Option FieldType} {Qf : kQf} (hf : 3 ≤ fr) (hlo : 76 ≤ lo) : ySite gAll LAll vwCl rFo rZs rRs rNs rTs G l cc nL RX13 ret fr lo n Qf 182 1353 cq372 := ys_V 2 13454 15 rc372 lo_13454 kc15 (m372 l) kGood kw2737 kw2738 kw2739 kw315 kw2870 hdV_X13_wordAt hf hlo
def mt373 : yMt := ([(182, (1340, 0)), (182, (1343, 1)), (184, (1346, 2)), (182, (1353, 3))], ([], ([], [])))
theorem rc373 : yRc cq373 13454 2 = true := by decide +kernel
theorem yr373 : yRun gAll t373 b373 cq373 := yRun_z gAll_tag ruI2_RtI ruJ2_RtJ rqL_ok z373
theorem zw373 : zwid cq373.2.1.1 cq373.1 0 4 = true := by decide +kernel
set_option maxRecDepth 100000 in
theorem yw373 : yRows gAll LAll yt12 mt373 gHo 4 2 (zby cX13_take) p373 b373 p373 = true := by decide +kernel
set_option maxRecDepth 100000 in
theorem m373 (l : Launch) : kMet gAll LAll vwCl rFo rZs rRs rNs rTs l yX13_take cX13_take 4 (some .long) 3 76 cq373 := kmet_y2 (rt := 2) (by decide +kernel) yr373 zw373 rfl yw373 LAll_ok LAll_la yt12_ok gHo_ok rfl (fun G n Qf => List.forall_mem_cons.mpr ⟨⟨cq361, rfl, st360 l (by decide) (by decide)⟩, List.forall_mem_cons.mpr ⟨⟨cq362, rfl, st361 l (by decide) (by decide)⟩, List.forall_mem_cons.mpr ⟨⟨cq352, rfl, st349 l (by decide) (by decide)⟩, List.forall_mem_cons.mpr ⟨⟨cq372, rfl, st365 l (by decide) (by decide)⟩, yA_n⟩⟩⟩⟩) rfl (fun G n Rr => yA_n) rfl
/-! 374 Model.arithmetic (II)V -/
theorem hdV_X13_take : yX13_take.cls = RX13 ∧ yX13_take.cls ≠ "java/lang/invoke/MethodHandle" ∧ yX13_take.cls ≠ "java/lang/invoke/VarHandle" ∧ (parseMethodDescriptor yX13_take.desc).map (fun d => d.parameters.length) = some 2 := by decide +kernel
theorem st366 (l : Launch) {G : rGm} {cc : ByteArray} {nL n fr lo : Nat} {ret : Option FieldType} {Qf : kQf} (hf : 4 ≤ fr) (hlo : 99 ≤ lo) : ySite gAll LAll vwCl rFo rZs rRs rNs rTs G l cc nL RX13 ret fr lo n Qf 182 1394 cq373 := ys_V 2 13454 15 rc373 lo_13454 kc15 (m373 l) kGood kw2205 kw2206 kw2207 kw315 kw2849 hdV_X13_take hf hlo
theorem hdV_X13_add : yX13_add.cls = RX13 ∧ yX13_add.cls ≠ "java/lang/invoke/MethodHandle" ∧ yX13_add.cls ≠ "java/lang/invoke/VarHandle" ∧ (parseMethodDescriptor yX13_add.desc).map (fun d => d.parameters.length) = some 4 := by decide +kernel
theorem st367 (l : Launch) {G : rGm} {cc : ByteArray} {nL n fr lo : Nat} {ret : Option FieldType} {Qf : kQf} (hf : 3 ≤ fr) (hlo : 74 ≤ lo) : ySite gAll LAll vwCl rFo rZs rRs rNs rTs G l cc nL RX13 ret fr lo n Qf 182 1397 cq357 := ys_V 4 13454 15 rc357 lo_13454 kc15 (m357 l) kGood kw2208 kw2209 kw2210 kw315 kw2184 hdV_X13_add hf hlo
theorem hdV_X13_subtract : yX13_subtract.cls = RX13 ∧ yX13_subtract.cls ≠ "java/lang/invoke/MethodHandle" ∧ yX13_subtract.cls ≠ "java/lang/invoke/VarHandle" ∧ (parseMethodDescriptor yX13_subtract.desc).map (fun d => d.parameters.length) = some 4 := by decide +kernel
theorem st368 (l : Launch) {G : rGm} {cc : ByteArray} {nL n fr lo : Nat} {ret : Option FieldType} {Qf : kQf} (hf : 3 ≤ fr) (hlo : 74 ≤ lo) : ySite gAll LAll vwCl rFo rZs rRs rNs rTs G l cc nL RX13 ret fr lo n Qf 182 1401 cq370 := ys_V 4 13454 15 rc370 lo_13454 kc15 (m370 l) kGood kw2211 kw2212 kw2213 kw315 kw2834 hdV_X13_subtract hf hlo
theorem hdV_X13_put_ : yX13_put_.cls = RX13 ∧ yX13_put_.cls ≠ "java/lang/invoke/MethodHandle" ∧ yX13_put_.cls ≠ "java/lang/invoke/VarHandle" ∧ (parseMethodDescriptor yX13_put_.desc).map (fun d => d.parameters.length) = some 3 := by decide +kernel
theorem st369 (l : Launch) {G : rGm} {cc : ByteArray} {nL n fr lo : Nat} {ret : Option FieldType} {Qf : kQf} (hf : 4 ≤ fr) (hlo : 99 ≤ lo) : ySite gAll LAll vwCl rFo rZs rRs rNs rTs G l cc nL RX13 ret fr lo n Qf 182 1404 cq369 := ys_V 3 13454 15 rc369 lo_13454 kc15 (m369 l) kGood kw2214 kw2215 kw2216 kw315 kw2750 hdV_X13_put_ hf hlo
def mt374 : yMt := ([(182, (1394, 0)), (182, (1397, 1)), (182, (1401, 2)), (182, (1387, 3)), (182, (1404, 4))], ([], ([], [])))
theorem rc374 : yRc cq374 13454 2 = true := by decide +kernel
theorem yr374 : yRun gAll t374 b374 cq374 := yRun_p (cuts := u374) (fuel := 300) gAll_tag ruI2_RtI ruJ2_RtJ rqL_ok ⟨zsm_e _ z374_s, List.forall_mem_cons.mpr ⟨zsm_e _ z374_0, yA_n⟩⟩
theorem zw374 : zwid cq374.2.1.1 cq374.1 0 9 = true := by decide +kernel
set_option maxRecDepth 100000 in
theorem yw374 : yRows gAll LAll yt12 mt374 gHo 9 0 (zby cX13_arithmetic) p374 b374 p374 = true := by decide +kernel
set_option maxRecDepth 100000 in
theorem m374 (l : Launch) : kMet gAll LAll vwCl rFo rZs rRs rNs rTs l yX13_arithmetic cX13_arithmetic 9 none 4 99 cq374 := kmet_y2 (rt := 0) (by decide +kernel) yr374 zw374 rfl yw374 LAll_ok LAll_la yt12_ok gHo_ok rfl (fun G n Qf => List.forall_mem_cons.mpr ⟨⟨cq373, rfl, st366 l (by decide) (by decide)⟩, List.forall_mem_cons.mpr ⟨⟨cq357, rfl, st367 l (by decide) (by decide)⟩, List.forall_mem_cons.mpr ⟨⟨cq370, rfl, st368 l (by decide) (by decide)⟩, List.forall_mem_cons.mpr ⟨⟨cq354, rfl, st354 l (by decide) (by decide)⟩, List.forall_mem_cons.mpr ⟨⟨cq369, rfl, st369 l (by decide) (by decide)⟩, yA_n⟩⟩⟩⟩⟩) rfl (fun G n Rr => yA_n) rfl
/-! 375 java/lang/Integer.reverseBytes (I)I -/
def mt375 : yMt := ([], ([], ([], [])))
theorem yr375 : yRun gAll t375 b375 cq375 := yRun_z gAll_tag ruI2_RtI ruJ2_RtJ rqL_ok z375
theorem zw375 : zwid cq375.2.1.1 cq375.1 0 1 = true := by decide +kernel
set_option maxRecDepth 100000 in
theorem yw375 : yRows gAll LAll yt14 mt375 gHo 1 1 (zby cJ6_reverseBytes_0f7a4) p375 b375 p375 = true := by decide +kernel
set_option maxRecDepth 100000 in
theorem m375 (l : Launch) : kMet gAll LAll vwCl rFo rZs rRs rNs rTs l yJ6_reverseBytes_0f7a4 cJ6_reverseBytes_0f7a4 1 (some .int) 0 0 cq375 := kmet_y2 (rt := 1) (by decide +kernel) yr375 zw375 rfl yw375 LAll_ok LAll_la yt14_ok gHo_ok rfl (fun G n Qf => yA_n) rfl (fun G n Rr => yA_n) rfl
/-! 376 java/lang/Integer.numberOfLeadingZeros (I)I -/
def mt376 : yMt := ([], ([], ([], [])))
theorem yr376 : yRun gAll t376 b376 cq376 := yRun_z gAll_tag ruI2_RtI ruJ2_RtJ rqL_ok z376
theorem zw376 : zwid cq376.2.1.1 cq376.1 0 2 = true := by decide +kernel
set_option maxRecDepth 100000 in
theorem yw376 : yRows gAll LAll yt14 mt376 gHo 2 1 (zby cJ6_numberOfLeadingZeros_0f7a4) p376 b376 p376 = true := by decide +kernel
set_option maxRecDepth 100000 in
theorem m376 (l : Launch) : kMet gAll LAll vwCl rFo rZs rRs rNs rTs l yJ6_numberOfLeadingZeros_0f7a4 cJ6_numberOfLeadingZeros_0f7a4 2 (some .int) 0 0 cq376 := kmet_y2 (rt := 1) (by decide +kernel) yr376 zw376 rfl yw376 LAll_ok LAll_la yt14_ok gHo_ok rfl (fun G n Qf => yA_n) rfl (fun G n Rr => yA_n) rfl
/-! 377 java/lang/Long.numberOfLeadingZeros (J)I -/
theorem hdS_J6_numberOfLeadingZeros_0f7a4 : yJ6_numberOfLeadingZeros_0f7a4.cls ≠ "java/lang/invoke/MethodHandle" ∧ yJ6_numberOfLeadingZeros_0f7a4.cls ≠ "java/lang/invoke/VarHandle" ∧ (parseMethodDescriptor yJ6_numberOfLeadingZeros_0f7a4.desc).map (fun d => d.parameters.length) = some 1 := by decide +kernel
theorem st370 (l : Launch) {G : rGm} {cc : ByteArray} {nL n fr lo : Nat} {ret : Option FieldType} {Qf : kQf} (hf : 1 ≤ fr) (hlo : 21 ≤ lo) : ySite gAll LAll vwCl rFo rZs rRs rNs rTs G l cc nL RJ13 ret fr lo n Qf 184 308 cq376 := ys_S 1 rfl (m376 l) kGood kw2901 kw2902 kw413 kw2889 hdS_J6_numberOfLeadingZeros_0f7a4 hf hlo
def mt377 : yMt := ([(184, (308, 0))], ([], ([], [])))
theorem yr377 : yRun gAll t377 b377 cq377 := yRun_z gAll_tag ruI2_RtI ruJ2_RtJ rqL_ok z377
theorem zw377 : zwid cq377.2.1.1 cq377.1 0 3 = true := by decide +kernel
set_option maxRecDepth 100000 in
theorem yw377 : yRows gAll LAll yt15 mt377 gHo 3 1 (zby cJ13_numberOfLeadingZeros_95d88) p377 b377 p377 = true := by decide +kernel
set_option maxRecDepth 100000 in
theorem m377 (l : Launch) : kMet gAll LAll vwCl rFo rZs rRs rNs rTs l yJ13_numberOfLeadingZeros_95d88 cJ13_numberOfLeadingZeros_95d88 3 (some .int) 1 21 cq377 := kmet_y2 (rt := 1) (by decide +kernel) yr377 zw377 rfl yw377 LAll_ok LAll_la yt15_ok gHo_ok rfl (fun G n Qf => List.forall_mem_cons.mpr ⟨⟨cq376, rfl, st370 l (by decide) (by decide)⟩, yA_n⟩) rfl (fun G n Rr => yA_n) rfl
/-! 378 java/lang/Integer.numberOfTrailingZeros (I)I -/
def mt378 : yMt := ([], ([], ([], [])))
theorem yr378 : yRun gAll t378 b378 cq378 := yRun_z gAll_tag ruI2_RtI ruJ2_RtJ rqL_ok z378
theorem zw378 : zwid cq378.2.1.1 cq378.1 0 2 = true := by decide +kernel
set_option maxRecDepth 100000 in
theorem yw378 : yRows gAll LAll yt14 mt378 gHo 2 1 (zby cJ6_numberOfTrailingZeros_0f7a4) p378 b378 p378 = true := by decide +kernel
set_option maxRecDepth 100000 in
theorem m378 (l : Launch) : kMet gAll LAll vwCl rFo rZs rRs rNs rTs l yJ6_numberOfTrailingZeros_0f7a4 cJ6_numberOfTrailingZeros_0f7a4 2 (some .int) 0 0 cq378 := kmet_y2 (rt := 1) (by decide +kernel) yr378 zw378 rfl yw378 LAll_ok LAll_la yt14_ok gHo_ok rfl (fun G n Qf => yA_n) rfl (fun G n Rr => yA_n) rfl
/-! 379 java/lang/Long.numberOfTrailingZeros (J)I -/
theorem hdS_J6_numberOfTrailingZeros_0f7a4 : yJ6_numberOfTrailingZeros_0f7a4.cls ≠ "java/lang/invoke/MethodHandle" ∧ yJ6_numberOfTrailingZeros_0f7a4.cls ≠ "java/lang/invoke/VarHandle" ∧ (parseMethodDescriptor yJ6_numberOfTrailingZeros_0f7a4.desc).map (fun d => d.parameters.length) = some 1 := by decide +kernel
theorem st371 (l : Launch) {G : rGm} {cc : ByteArray} {nL n fr lo : Nat} {ret : Option FieldType} {Qf : kQf} (hf : 1 ≤ fr) (hlo : 21 ≤ lo) : ySite gAll LAll vwCl rFo rZs rRs rNs rTs G l cc nL RJ13 ret fr lo n Qf 184 311 cq378 := ys_S 1 rfl (m378 l) kGood kw2903 kw2904 kw413 kw2891 hdS_J6_numberOfTrailingZeros_0f7a4 hf hlo
def mt379 : yMt := ([(184, (311, 0))], ([], ([], [])))
theorem yr379 : yRun gAll t379 b379 cq379 := yRun_z gAll_tag ruI2_RtI ruJ2_RtJ rqL_ok z379
theorem zw379 : zwid cq379.2.1.1 cq379.1 0 3 = true := by decide +kernel
set_option maxRecDepth 100000 in
theorem yw379 : yRows gAll LAll yt15 mt379 gHo 3 1 (zby cJ13_numberOfTrailingZeros_95d88) p379 b379 p379 = true := by decide +kernel
set_option maxRecDepth 100000 in
theorem m379 (l : Launch) : kMet gAll LAll vwCl rFo rZs rRs rNs rTs l yJ13_numberOfTrailingZeros_95d88 cJ13_numberOfTrailingZeros_95d88 3 (some .int) 1 21 cq379 := kmet_y2 (rt := 1) (by decide +kernel) yr379 zw379 rfl yw379 LAll_ok LAll_la yt15_ok gHo_ok rfl (fun G n Qf => List.forall_mem_cons.mpr ⟨⟨cq378, rfl, st371 l (by decide) (by decide)⟩, yA_n⟩) rfl (fun G n Rr => yA_n) rfl
/-! 380 java/lang/Long.reverseBytes (J)J -/
def mt380 : yMt := ([], ([], ([], [])))
theorem yr380 : yRun gAll t380 b380 cq380 := yRun_z gAll_tag ruI2_RtI ruJ2_RtJ rqL_ok z380
theorem zw380 : zwid cq380.2.1.1 cq380.1 0 2 = true := by decide +kernel
set_option maxRecDepth 100000 in
theorem yw380 : yRows gAll LAll yt15 mt380 gHo 2 2 (zby cJ13_reverseBytes_067f4) p380 b380 p380 = true := by decide +kernel
set_option maxRecDepth 100000 in
theorem m380 (l : Launch) : kMet gAll LAll vwCl rFo rZs rRs rNs rTs l yJ13_reverseBytes_067f4 cJ13_reverseBytes_067f4 2 (some .long) 0 0 cq380 := kmet_y2 (rt := 2) (by decide +kernel) yr380 zw380 rfl yw380 LAll_ok LAll_la yt15_ok gHo_ok rfl (fun G n Qf => yA_n) rfl (fun G n Rr => yA_n) rfl
/-! 381 Model.bits (II)V -/
theorem hdS_J13_reverseBytes_067f4 : yJ13_reverseBytes_067f4.cls ≠ "java/lang/invoke/MethodHandle" ∧ yJ13_reverseBytes_067f4.cls ≠ "java/lang/invoke/VarHandle" ∧ (parseMethodDescriptor yJ13_reverseBytes_067f4.desc).map (fun d => d.parameters.length) = some 1 := by decide +kernel
theorem st372 (l : Launch) {G : rGm} {cc : ByteArray} {nL n fr lo : Nat} {ret : Option FieldType} {Qf : kQf} (hf : 1 ≤ fr) (hlo : 21 ≤ lo) : ySite gAll LAll vwCl rFo rZs rRs rNs rTs G l cc nL RX13 ret fr lo n Qf 184 1450 cq380 := ys_S 1 rfl (m380 l) kGood kw2267 kw2268 kw1949 kw2269 hdS_J13_reverseBytes_067f4 hf hlo
theorem hdS_J6_reverseBytes_0f7a4 : yJ6_reverseBytes_0f7a4.cls ≠ "java/lang/invoke/MethodHandle" ∧ yJ6_reverseBytes_0f7a4.cls ≠ "java/lang/invoke/VarHandle" ∧ (parseMethodDescriptor yJ6_reverseBytes_0f7a4.desc).map (fun d => d.parameters.length) = some 1 := by decide +kernel
theorem st373 (l : Launch) {G : rGm} {cc : ByteArray} {nL n fr lo : Nat} {ret : Option FieldType} {Qf : kQf} (hf : 1 ≤ fr) (hlo : 20 ≤ lo) : ySite gAll LAll vwCl rFo rZs rRs rNs rTs G l cc nL RX13 ret fr lo n Qf 184 1454 cq375 := ys_S 1 rfl (m375 l) kGood kw2270 kw2271 kw413 kw2272 hdS_J6_reverseBytes_0f7a4 hf hlo
theorem hdS_J13_numberOfTrailingZeros_95d88 : yJ13_numberOfTrailingZeros_95d88.cls ≠ "java/lang/invoke/MethodHandle" ∧ yJ13_numberOfTrailingZeros_95d88.cls ≠ "java/lang/invoke/VarHandle" ∧ (parseMethodDescriptor yJ13_numberOfTrailingZeros_95d88.desc).map (fun d => d.parameters.length) = some 1 := by decide +kernel
theorem st374 (l : Launch) {G : rGm} {cc : ByteArray} {nL n fr lo : Nat} {ret : Option FieldType} {Qf : kQf} (hf : 2 ≤ fr) (hlo : 43 ≤ lo) : ySite gAll LAll vwCl rFo rZs rRs rNs rTs G l cc nL RX13 ret fr lo n Qf 184 1458 cq379 := ys_S 1 rfl (m379 l) kGood kw2273 kw2274 kw1949 kw2275 hdS_J13_numberOfTrailingZeros_95d88 hf hlo
theorem hdS_J13_numberOfLeadingZeros_95d88 : yJ13_numberOfLeadingZeros_95d88.cls ≠ "java/lang/invoke/MethodHandle" ∧ yJ13_numberOfLeadingZeros_95d88.cls ≠ "java/lang/invoke/VarHandle" ∧ (parseMethodDescriptor yJ13_numberOfLeadingZeros_95d88.desc).map (fun d => d.parameters.length) = some 1 := by decide +kernel
theorem st375 (l : Launch) {G : rGm} {cc : ByteArray} {nL n fr lo : Nat} {ret : Option FieldType} {Qf : kQf} (hf : 2 ≤ fr) (hlo : 43 ≤ lo) : ySite gAll LAll vwCl rFo rZs rRs rNs rTs G l cc nL RX13 ret fr lo n Qf 184 1461 cq377 := ys_S 1 rfl (m377 l) kGood kw2276 kw2277 kw1949 kw2278 hdS_J13_numberOfLeadingZeros_95d88 hf hlo
def mt381 : yMt := ([(182, (1394, 0)), (184, (1450, 1)), (184, (1454, 2)), (182, (1404, 3)), (184, (1458, 4)), (184, (1461, 5))], ([], ([], [])))
theorem rc381 : yRc cq381 13454 2 = true := by decide +kernel
theorem yr381 : yRun gAll t381 b381 cq381 := yRun_z gAll_tag ruI2_RtI ruJ2_RtJ rqL_ok z381
theorem zw381 : zwid cq381.2.1.1 cq381.1 0 7 = true := by decide +kernel
set_option maxRecDepth 100000 in
theorem yw381 : yRows gAll LAll yt12 mt381 gHo 7 0 (zby cX13_bits) p381 b381 p381 = true := by decide +kernel
set_option maxRecDepth 100000 in
theorem m381 (l : Launch) : kMet gAll LAll vwCl rFo rZs rRs rNs rTs l yX13_bits cX13_bits 7 none 4 99 cq381 := kmet_y2 (rt := 0) (by decide +kernel) yr381 zw381 rfl yw381 LAll_ok LAll_la yt12_ok gHo_ok rfl (fun G n Qf => List.forall_mem_cons.mpr ⟨⟨cq373, rfl, st366 l (by decide) (by decide)⟩, List.forall_mem_cons.mpr ⟨⟨cq380, rfl, st372 l (by decide) (by decide)⟩, List.forall_mem_cons.mpr ⟨⟨cq375, rfl, st373 l (by decide) (by decide)⟩, List.forall_mem_cons.mpr ⟨⟨cq369, rfl, st369 l (by decide) (by decide)⟩, List.forall_mem_cons.mpr ⟨⟨cq379, rfl, st374 l (by decide) (by decide)⟩, List.forall_mem_cons.mpr ⟨⟨cq377, rfl, st375 l (by decide) (by decide)⟩, yA_n⟩⟩⟩⟩⟩⟩) rfl (fun G n Rr => yA_n) rfl
/-! 382 Model.conditionOf (J)I -/
def mt382 : yMt := ([], ([], ([], [])))
theorem yr382 : yRun gAll t382 b382 cq382 := yRun_z gAll_tag ruI2_RtI ruJ2_RtJ rqL_ok z382
theorem zw382 : zwid cq382.2.1.1 cq382.1 0 2 = true := by decide +kernel
set_option maxRecDepth 100000 in
theorem yw382 : yRows gAll LAll yt12 mt382 gHo 2 1 (zby cX13_conditionOf) p382 b382 p382 = true := by decide +kernel
set_option maxRecDepth 100000 in
theorem m382 (l : Launch) : kMet gAll LAll vwCl rFo rZs rRs rNs rTs l yX13_conditionOf cX13_conditionOf 2 (some .int) 0 0 cq382 := kmet_y2 (rt := 1) (by decide +kernel) yr382 zw382 rfl yw382 LAll_ok LAll_la yt12_ok gHo_ok rfl (fun G n Qf => yA_n) rfl (fun G n Rr => yA_n) rfl
/-! 383 Model.itemOf (I)I -/
def mt383 : yMt := ([], ([], ([], [])))
theorem rc383 : yRc cq383 13454 1 = true := by decide +kernel
theorem yr383 : yRun gAll t383 b383 cq383 := yRun_z gAll_tag ruI2_RtI ruJ2_RtJ rqL_ok z383
theorem zw383 : zwid cq383.2.1.1 cq383.1 0 2 = true := by decide +kernel
set_option maxRecDepth 100000 in
theorem yw383 : yRows gAll LAll yt12 mt383 gHo 2 1 (zby cX13_itemOf) p383 b383 p383 = true := by decide +kernel
set_option maxRecDepth 100000 in
theorem m383 (l : Launch) : kMet gAll LAll vwCl rFo rZs rRs rNs rTs l yX13_itemOf cX13_itemOf 2 (some .int) 0 0 cq383 := kmet_y2 (rt := 1) (by decide +kernel) yr383 zw383 rfl yw383 LAll_ok LAll_la yt12_ok gHo_ok rfl (fun G n Qf => yA_n) rfl (fun G n Rr => yA_n) rfl
/-! 384 Model.opOf (J)I -/
def mt384 : yMt := ([], ([], ([], [])))
theorem yr384 : yRun gAll t384 b384 cq384 := yRun_z gAll_tag ruI2_RtI ruJ2_RtJ rqL_ok z384
theorem zw384 : zwid cq384.2.1.1 cq384.1 0 2 = true := by decide +kernel
set_option maxRecDepth 100000 in
theorem yw384 : yRows gAll LAll yt12 mt384 gHo 2 1 (zby cX13_opOf) p384 b384 p384 = true := by decide +kernel
set_option maxRecDepth 100000 in
theorem m384 (l : Launch) : kMet gAll LAll vwCl rFo rZs rRs rNs rTs l yX13_opOf cX13_opOf 2 (some .int) 0 0 cq384 := kmet_y2 (rt := 1) (by decide +kernel) yr384 zw384 rfl yw384 LAll_ok LAll_la yt12_ok gHo_ok rfl (fun G n Qf => yA_n) rfl (fun G n Rr => yA_n) rfl
/-! 385 Model.byteAt (II)I -/
theorem hdS_X13_opOf : yX13_opOf.cls ≠ "java/lang/invoke/MethodHandle" ∧ yX13_opOf.cls ≠ "java/lang/invoke/VarHandle" ∧ (parseMethodDescriptor yX13_opOf.desc).map (fun d => d.parameters.length) = some 1 := by decide +kernel
theorem st376 (l : Launch) {G : rGm} {cc : ByteArray} {nL n fr lo : Nat} {ret : Option FieldType} {Qf : kQf} (hf : 1 ≤ fr) (hlo : 21 ≤ lo) : ySite gAll LAll vwCl rFo rZs rRs rNs rTs G l cc nL RX13 ret fr lo n Qf 184 1150 cq384 := ys_S 1 rfl (m384 l) kGood kw2311 kw2312 kw315 kw2313 hdS_X13_opOf hf hlo
theorem hdS_X13_conditionOf : yX13_conditionOf.cls ≠ "java/lang/invoke/MethodHandle" ∧ yX13_conditionOf.cls ≠ "java/lang/invoke/VarHandle" ∧ (parseMethodDescriptor yX13_conditionOf.desc).map (fun d => d.parameters.length) = some 1 := by decide +kernel
theorem st377 (l : Launch) {G : rGm} {cc : ByteArray} {nL n fr lo : Nat} {ret : Option FieldType} {Qf : kQf} (hf : 1 ≤ fr) (hlo : 21 ≤ lo) : ySite gAll LAll vwCl rFo rZs rRs rNs rTs G l cc nL RX13 ret fr lo n Qf 184 1183 cq382 := ys_S 1 rfl (m382 l) kGood kw2314 kw2315 kw315 kw2316 hdS_X13_conditionOf hf hlo
theorem hdV_X13_itemOf : yX13_itemOf.cls = RX13 ∧ yX13_itemOf.cls ≠ "java/lang/invoke/MethodHandle" ∧ yX13_itemOf.cls ≠ "java/lang/invoke/VarHandle" ∧ (parseMethodDescriptor yX13_itemOf.desc).map (fun d => d.parameters.length) = some 1 := by decide +kernel
theorem st378 (l : Launch) {G : rGm} {cc : ByteArray} {nL n fr lo : Nat} {ret : Option FieldType} {Qf : kQf} (hf : 1 ≤ fr) (hlo : 21 ≤ lo) : ySite gAll LAll vwCl rFo rZs rRs rNs rTs G l cc nL RX13 ret fr lo n Qf 182 1137 cq383 := ys_V 1 13454 15 rc383 lo_13454 kc15 (m383 l) kGood kw2317 kw2318 kw2319 kw315 kw2589 hdV_X13_itemOf hf hlo
def mt385 : yMt := ([(184, (1150, 0)), (184, (1183, 1)), (182, (1137, 2))], ([], ([], [])))
theorem rc385 : yRc cq385 13454 2 = true := by decide +kernel
theorem yr385 : yRun gAll t385 b385 cq385 := yRun_z gAll_tag ruI2_RtI ruJ2_RtJ rqL_ok z385
theorem zw385 : zwid cq385.2.1.1 cq385.1 0 5 = true := by decide +kernel
set_option maxRecDepth 100000 in
theorem yw385 : yRows gAll LAll yt12 mt385 gHo 5 1 (zby cX13_byteAt) p385 b385 p385 = true := by decide +kernel
set_option maxRecDepth 100000 in
theorem m385 (l : Launch) : kMet gAll LAll vwCl rFo rZs rRs rNs rTs l yX13_byteAt cX13_byteAt 5 (some .int) 1 21 cq385 := kmet_y2 (rt := 1) (by decide +kernel) yr385 zw385 rfl yw385 LAll_ok LAll_la yt12_ok gHo_ok rfl (fun G n Qf => List.forall_mem_cons.mpr ⟨⟨cq384, rfl, st376 l (by decide) (by decide)⟩, List.forall_mem_cons.mpr ⟨⟨cq382, rfl, st377 l (by decide) (by decide)⟩, List.forall_mem_cons.mpr ⟨⟨cq383, rfl, st378 l (by decide) (by decide)⟩, yA_n⟩⟩⟩) rfl (fun G n Rr => yA_n) rfl
/-! 386 Model.itemAddress (II)J -/
def mt386 : yMt := ([], ([], ([], [])))
theorem rc386 : yRc cq386 13454 2 = true := by decide +kernel
theorem yr386 : yRun gAll t386 b386 cq386 := yRun_z gAll_tag ruI2_RtI ruJ2_RtJ rqL_ok z386
theorem zw386 : zwid cq386.2.1.1 cq386.1 0 3 = true := by decide +kernel
set_option maxRecDepth 100000 in
theorem yw386 : yRows gAll LAll yt12 mt386 gHo 3 2 (zby cX13_itemAddress) p386 b386 p386 = true := by decide +kernel
set_option maxRecDepth 100000 in
theorem m386 (l : Launch) : kMet gAll LAll vwCl rFo rZs rRs rNs rTs l yX13_itemAddress cX13_itemAddress 3 (some .long) 0 0 cq386 := kmet_y2 (rt := 2) (by decide +kernel) yr386 zw386 rfl yw386 LAll_ok LAll_la yt12_ok gHo_ok rfl (fun G n Qf => yA_n) rfl (fun G n Rr => yA_n) rfl
/-! 387 Model.copyUnit (I)V -/
theorem hdV_X13_itemAddress : yX13_itemAddress.cls = RX13 ∧ yX13_itemAddress.cls ≠ "java/lang/invoke/MethodHandle" ∧ yX13_itemAddress.cls ≠ "java/lang/invoke/VarHandle" ∧ (parseMethodDescriptor yX13_itemAddress.desc).map (fun d => d.parameters.length) = some 2 := by decide +kernel
theorem st379 (l : Launch) {G : rGm} {cc : ByteArray} {nL n fr lo : Nat} {ret : Option FieldType} {Qf : kQf} (hf : 1 ≤ fr) (hlo : 22 ≤ lo) : ySite gAll LAll vwCl rFo rZs rRs rNs rTs G l cc nL RX13 ret fr lo n Qf 182 1215 cq386 := ys_V 2 13454 15 rc386 lo_13454 kc15 (m386 l) kGood kw2282 kw2283 kw2284 kw315 kw2588 hdV_X13_itemAddress hf hlo
theorem hdV_X13_byteAt : yX13_byteAt.cls = RX13 ∧ yX13_byteAt.cls ≠ "java/lang/invoke/MethodHandle" ∧ yX13_byteAt.cls ≠ "java/lang/invoke/VarHandle" ∧ (parseMethodDescriptor yX13_byteAt.desc).map (fun d => d.parameters.length) = some 2 := by decide +kernel
theorem st380 (l : Launch) {G : rGm} {cc : ByteArray} {nL n fr lo : Nat} {ret : Option FieldType} {Qf : kQf} (hf : 2 ≤ fr) (hlo : 45 ≤ lo) : ySite gAll LAll vwCl rFo rZs rRs rNs rTs G l cc nL RX13 ret fr lo n Qf 182 1186 cq385 := ys_V 2 13454 15 rc385 lo_13454 kc15 (m385 l) kGood kw2344 kw2345 kw2346 kw315 kw2310 hdV_X13_byteAt hf hlo
def mt387 : yMt := ([(182, (1215, 0)), (182, (1186, 1)), (182, (1137, 2))], ([], ([], [])))
theorem rc387 : yRc cq387 13454 1 = true := by decide +kernel
theorem yr387 : yRun gAll t387 b387 cq387 := yRun_p (cuts := u387) (fuel := 300) gAll_tag ruI2_RtI ruJ2_RtJ rqL_ok ⟨zsm_e _ z387_s, List.forall_mem_cons.mpr ⟨zsm_e _ z387_0, List.forall_mem_cons.mpr ⟨zsm_e _ z387_1, List.forall_mem_cons.mpr ⟨zsm_e _ z387_2, yA_n⟩⟩⟩⟩
theorem zw387 : zwid cq387.2.1.1 cq387.1 0 5 = true := by decide +kernel
set_option maxRecDepth 100000 in
theorem yw387 : yRows gAll LAll yt12 mt387 gHo 5 0 (zby cX13_copyUnit) p387 b387 p387 = true := by decide +kernel
set_option maxRecDepth 100000 in
theorem m387 (l : Launch) : kMet gAll LAll vwCl rFo rZs rRs rNs rTs l yX13_copyUnit cX13_copyUnit 5 none 2 45 cq387 := kmet_y2 (rt := 0) (by decide +kernel) yr387 zw387 rfl yw387 LAll_ok LAll_la yt12_ok gHo_ok rfl (fun G n Qf => List.forall_mem_cons.mpr ⟨⟨cq386, rfl, st379 l (by decide) (by decide)⟩, List.forall_mem_cons.mpr ⟨⟨cq385, rfl, st380 l (by decide) (by decide)⟩, List.forall_mem_cons.mpr ⟨⟨cq383, rfl, st378 l (by decide) (by decide)⟩, yA_n⟩⟩⟩) rfl (fun G n Rr => yA_n) rfl
/-! 388 Model.isSameName (II)Z -/
def mt388 : yMt := ([], ([], ([], [])))
theorem rc388 : yRc cq388 13454 2 = true := by decide +kernel
theorem yr388 : yRun gAll t388 b388 cq388 := yRun_p (cuts := u388) (fuel := 300) gAll_tag ruI2_RtI ruJ2_RtJ rqL_ok ⟨zsm_e _ z388_s, List.forall_mem_cons.mpr ⟨zsm_e _ z388_0, yA_n⟩⟩
theorem zw388 : zwid cq388.2.1.1 cq388.1 0 5 = true := by decide +kernel
set_option maxRecDepth 100000 in
theorem yw388 : yRows gAll LAll yt12 mt388 gHo 5 3 (zby cX13_isSameName) p388 b388 p388 = true := by decide +kernel
set_option maxRecDepth 100000 in
theorem m388 (l : Launch) : kMet gAll LAll vwCl rFo rZs rRs rNs rTs l yX13_isSameName cX13_isSameName 5 (some .boolean) 0 0 cq388 := kmet_y2 (rt := 3) (by decide +kernel) yr388 zw388 rfl yw388 LAll_ok LAll_la yt12_ok gHo_ok rfl (fun G n Qf => yA_n) rfl (fun G n Rr => yA_n) rfl
/-! 389 Model.isStrong (I)Z -/
def mt389 : yMt := ([], ([], ([], [])))
theorem rc389 : yRc cq389 13454 1 = true := by decide +kernel
theorem yr389 : yRun gAll t389 b389 cq389 := yRun_z gAll_tag ruI2_RtI ruJ2_RtJ rqL_ok z389
theorem zw389 : zwid cq389.2.1.1 cq389.1 0 2 = true := by decide +kernel
set_option maxRecDepth 100000 in
theorem yw389 : yRows gAll LAll yt12 mt389 gHo 2 3 (zby cX13_isStrong) p389 b389 p389 = true := by decide +kernel
set_option maxRecDepth 100000 in
theorem m389 (l : Launch) : kMet gAll LAll vwCl rFo rZs rRs rNs rTs l yX13_isStrong cX13_isStrong 2 (some .boolean) 0 0 cq389 := kmet_y2 (rt := 3) (by decide +kernel) yr389 zw389 rfl yw389 LAll_ok LAll_la yt12_ok gHo_ok rfl (fun G n Qf => yA_n) rfl (fun G n Rr => yA_n) rfl
/-! 390 Model.knownAs (I)I -/
theorem hdV_X13_isStrong : yX13_isStrong.cls = RX13 ∧ yX13_isStrong.cls ≠ "java/lang/invoke/MethodHandle" ∧ yX13_isStrong.cls ≠ "java/lang/invoke/VarHandle" ∧ (parseMethodDescriptor yX13_isStrong.desc).map (fun d => d.parameters.length) = some 1 := by decide +kernel
theorem st381 (l : Launch) {G : rGm} {cc : ByteArray} {nL n fr lo : Nat} {ret : Option FieldType} {Qf : kQf} (hf : 1 ≤ fr) (hlo : 21 ≤ lo) : ySite gAll LAll vwCl rFo rZs rRs rNs rTs G l cc nL RX13 ret fr lo n Qf 182 1189 cq389 := ys_V 1 13454 15 rc389 lo_13454 kc15 (m389 l) kGood kw2472 kw2473 kw2474 kw315 kw2577 hdV_X13_isStrong hf hlo
theorem hdV_X13_isSameName : yX13_isSameName.cls = RX13 ∧ yX13_isSameName.cls ≠ "java/lang/invoke/MethodHandle" ∧ yX13_isSameName.cls ≠ "java/lang/invoke/VarHandle" ∧ (parseMethodDescriptor yX13_isSameName.desc).map (fun d => d.parameters.length) = some 2 := by decide +kernel
theorem st382 (l : Launch) {G : rGm} {cc : ByteArray} {nL n fr lo : Nat} {ret : Option FieldType} {Qf : kQf} (hf : 1 ≤ fr) (hlo : 24 ≤ lo) : ySite gAll LAll vwCl rFo rZs rRs rNs rTs G l cc nL RX13 ret fr lo n Qf 182 1192 cq388 := ys_V 2 13454 15 rc388 lo_13454 kc15 (m388 l) kGood kw2475 kw2476 kw2477 kw315 kw2574 hdV_X13_isSameName hf hlo
def mt390 : yMt := ([(182, (1189, 0)), (182, (1192, 1))], ([], ([], [])))
theorem rc390 : yRc cq390 13454 1 = true := by decide +kernel
theorem yr390 : yRun gAll t390 b390 cq390 := yRun_p (cuts := u390) (fuel := 300) gAll_tag ruI2_RtI ruJ2_RtJ rqL_ok ⟨zsm_e _ z390_s, List.forall_mem_cons.mpr ⟨zsm_e _ z390_0, List.forall_mem_cons.mpr ⟨zsm_e _ z390_1, yA_n⟩⟩⟩
theorem zw390 : zwid cq390.2.1.1 cq390.1 0 3 = true := by decide +kernel
set_option maxRecDepth 100000 in
theorem yw390 : yRows gAll LAll yt12 mt390 gHo 3 1 (zby cX13_knownAs) p390 b390 p390 = true := by decide +kernel
set_option maxRecDepth 100000 in
theorem m390 (l : Launch) : kMet gAll LAll vwCl rFo rZs rRs rNs rTs l yX13_knownAs cX13_knownAs 3 (some .int) 1 24 cq390 := kmet_y2 (rt := 1) (by decide +kernel) yr390 zw390 rfl yw390 LAll_ok LAll_la yt12_ok gHo_ok rfl (fun G n Qf => List.forall_mem_cons.mpr ⟨⟨cq389, rfl, st381 l (by decide) (by decide)⟩, List.forall_mem_cons.mpr ⟨⟨cq388, rfl, st382 l (by decide) (by decide)⟩, yA_n⟩⟩) rfl (fun G n Rr => yA_n) rfl
/-! 391 Model.standsFor (I)I -/
theorem hdV_X13_knownAs : yX13_knownAs.cls = RX13 ∧ yX13_knownAs.cls ≠ "java/lang/invoke/MethodHandle" ∧ yX13_knownAs.cls ≠ "java/lang/invoke/VarHandle" ∧ (parseMethodDescriptor yX13_knownAs.desc).map (fun d => d.parameters.length) = some 1 := by decide +kernel
theorem st383 (l : Launch) {G : rGm} {cc : ByteArray} {nL n fr lo : Nat} {ret : Option FieldType} {Qf : kQf} (hf : 2 ≤ fr) (hlo : 46 ≤ lo) : ySite gAll LAll vwCl rFo rZs rRs rNs rTs G l cc nL RX13 ret fr lo n Qf 182 1195 cq390 := ys_V 1 13454 15 rc390 lo_13454 kc15 (m390 l) kGood kw2585 kw2586 kw2587 kw315 kw2595 hdV_X13_knownAs hf hlo
def mt391 : yMt := ([(182, (1195, 0))], ([], ([], [])))
theorem rc391 : yRc cq391 13454 1 = true := by decide +kernel
theorem yr391 : yRun gAll t391 b391 cq391 := yRun_z gAll_tag ruI2_RtI ruJ2_RtJ rqL_ok z391
theorem zw391 : zwid cq391.2.1.1 cq391.1 0 3 = true := by decide +kernel
set_option maxRecDepth 100000 in
theorem yw391 : yRows gAll LAll yt12 mt391 gHo 3 1 (zby cX13_standsFor) p391 b391 p391 = true := by decide +kernel
set_option maxRecDepth 100000 in
theorem m391 (l : Launch) : kMet gAll LAll vwCl rFo rZs rRs rNs rTs l yX13_standsFor cX13_standsFor 3 (some .int) 2 46 cq391 := kmet_y2 (rt := 1) (by decide +kernel) yr391 zw391 rfl yw391 LAll_ok LAll_la yt12_ok gHo_ok rfl (fun G n Qf => List.forall_mem_cons.mpr ⟨⟨cq390, rfl, st383 l (by decide) (by decide)⟩, yA_n⟩) rfl (fun G n Rr => yA_n) rfl
/-! 392 Model.resolved (II)J -/
theorem hdV_X13_standsFor : yX13_standsFor.cls = RX13 ∧ yX13_standsFor.cls ≠ "java/lang/invoke/MethodHandle" ∧ yX13_standsFor.cls ≠ "java/lang/invoke/VarHandle" ∧ (parseMethodDescriptor yX13_standsFor.desc).map (fun d => d.parameters.length) = some 1 := by decide +kernel
theorem st384 (l : Launch) {G : rGm} {cc : ByteArray} {nL n fr lo : Nat} {ret : Option FieldType} {Qf : kQf} (hf : 3 ≤ fr) (hlo : 68 ≤ lo) : ySite gAll LAll vwCl rFo rZs rRs rNs rTs G l cc nL RX13 ret fr lo n Qf 182 1210 cq391 := ys_V 1 13454 15 rc391 lo_13454 kc15 (m391 l) kGood kw2467 kw2468 kw2469 kw315 kw2815 hdV_X13_standsFor hf hlo
def mt392 : yMt := ([(182, (1137, 0)), (182, (1215, 1)), (182, (1210, 2))], ([], ([], [])))
theorem rc392 : yRc cq392 13454 2 = true := by decide +kernel
theorem yr392 : yRun gAll t392 b392 cq392 := yRun_z gAll_tag ruI2_RtI ruJ2_RtJ rqL_ok z392
theorem zw392 : zwid cq392.2.1.1 cq392.1 0 6 = true := by decide +kernel
set_option maxRecDepth 100000 in
theorem yw392 : yRows gAll LAll yt12 mt392 gHo 6 2 (zby cX13_resolved) p392 b392 p392 = true := by decide +kernel
set_option maxRecDepth 100000 in
theorem m392 (l : Launch) : kMet gAll LAll vwCl rFo rZs rRs rNs rTs l yX13_resolved cX13_resolved 6 (some .long) 3 68 cq392 := kmet_y2 (rt := 2) (by decide +kernel) yr392 zw392 rfl yw392 LAll_ok LAll_la yt12_ok gHo_ok rfl (fun G n Qf => List.forall_mem_cons.mpr ⟨⟨cq383, rfl, st378 l (by decide) (by decide)⟩, List.forall_mem_cons.mpr ⟨⟨cq386, rfl, st379 l (by decide) (by decide)⟩, List.forall_mem_cons.mpr ⟨⟨cq391, rfl, st384 l (by decide) (by decide)⟩, yA_n⟩⟩⟩) rfl (fun G n Rr => yA_n) rfl
