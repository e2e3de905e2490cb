/-! METHODS, CALLEES FIRST (written by wip/p2/genmeth.py) -/
/-! 444 Model.link ()I -/
theorem hdV_X13_takeUnits : yX13_takeUnits.cls = RX13 ∧ yX13_takeUnits.cls ≠ "java/lang/invoke/MethodHandle" ∧ yX13_takeUnits.cls ≠ "java/lang/invoke/VarHandle" ∧ (parseMethodDescriptor yX13_takeUnits.desc).map (fun d => d.parameters.length) = some 0 := by decide +kernel
theorem st420 (l : Launch) {G : rGm} {cc : ByteArray} {nL n fr lo : Nat} {ret : Option FieldType} {Qf : kQf} (hf : 4 ≤ fr) (hlo : 91 ≤ lo) : ySite gAll LAll vwCl rFo rZs rRs rNs rTs G l cc nL RX13 ret fr lo n Qf 182 1225 cq443 := ys_V 0 13454 15 rc443 lo_13454 kc15 (m443 l) kGood kw849 kw850 kw851 kw315 kw848 hdV_X13_takeUnits hf hlo
theorem hdV_X13_startSymbol : yX13_startSymbol.cls = RX13 ∧ yX13_startSymbol.cls ≠ "java/lang/invoke/MethodHandle" ∧ yX13_startSymbol.cls ≠ "java/lang/invoke/VarHandle" ∧ (parseMethodDescriptor yX13_startSymbol.desc).map (fun d => d.parameters.length) = some 0 := by decide +kernel
theorem st421 (l : Launch) {G : rGm} {cc : ByteArray} {nL n fr lo : Nat} {ret : Option FieldType} {Qf : kQf} (hf : 2 ≤ fr) (hlo : 44 ≤ lo) : ySite gAll LAll vwCl rFo rZs rRs rNs rTs G l cc nL RX13 ret fr lo n Qf 182 1228 cq442 := ys_V 0 13454 15 rc442 lo_13454 kc15 (m442 l) kGood kw853 kw854 kw855 kw315 kw852 hdV_X13_startSymbol hf hlo
theorem hdV_X13_findTwice : yX13_findTwice.cls = RX13 ∧ yX13_findTwice.cls ≠ "java/lang/invoke/MethodHandle" ∧ yX13_findTwice.cls ≠ "java/lang/invoke/VarHandle" ∧ (parseMethodDescriptor yX13_findTwice.desc).map (fun d => d.parameters.length) = some 0 := by decide +kernel
theorem st422 (l : Launch) {G : rGm} {cc : ByteArray} {nL n fr lo : Nat} {ret : Option FieldType} {Qf : kQf} (hf : 2 ≤ fr) (hlo : 49 ≤ lo) : ySite gAll LAll vwCl rFo rZs rRs rNs rTs G l cc nL RX13 ret fr lo n Qf 182 1231 cq419 := ys_V 0 13454 15 rc419 lo_13454 kc15 (m419 l) kGood kw2609 kw2610 kw2611 kw315 kw2471 hdV_X13_findTwice hf hlo
theorem hdV_X13_findNeeded : yX13_findNeeded.cls = RX13 ∧ yX13_findNeeded.cls ≠ "java/lang/invoke/MethodHandle" ∧ yX13_findNeeded.cls ≠ "java/lang/invoke/VarHandle" ∧ (parseMethodDescriptor yX13_findNeeded.desc).map (fun d => d.parameters.length) = some 1 := by decide +kernel
theorem st423 (l : Launch) {G : rGm} {cc : ByteArray} {nL n fr lo : Nat} {ret : Option FieldType} {Qf : kQf} (hf : 4 ≤ fr) (hlo : 94 ≤ lo) : ySite gAll LAll vwCl rFo rZs rRs rNs rTs G l cc nL RX13 ret fr lo n Qf 182 1234 cq417 := ys_V 1 13454 15 rc417 lo_13454 kc15 (m417 l) kGood kw2612 kw2613 kw2614 kw315 kw2463 hdV_X13_findNeeded hf hlo
theorem hdV_X13_place_ : yX13_place_.cls = RX13 ∧ yX13_place_.cls ≠ "java/lang/invoke/MethodHandle" ∧ yX13_place_.cls ≠ "java/lang/invoke/VarHandle" ∧ (parseMethodDescriptor yX13_place_.desc).map (fun d => d.parameters.length) = some 0 := by decide +kernel
theorem st424 (l : Launch) {G : rGm} {cc : ByteArray} {nL n fr lo : Nat} {ret : Option FieldType} {Qf : kQf} (hf : 1 ≤ fr) (hlo : 24 ≤ lo) : ySite gAll LAll vwCl rFo rZs rRs rNs rTs G l cc nL RX13 ret fr lo n Qf 182 1237 cq441 := ys_V 0 13454 15 rc441 lo_13454 kc15 (m441 l) kGood kw2615 kw2616 kw2617 kw315 kw2731 hdV_X13_place_ hf hlo
theorem hdV_X13_build : yX13_build.cls = RX13 ∧ yX13_build.cls ≠ "java/lang/invoke/MethodHandle" ∧ yX13_build.cls ≠ "java/lang/invoke/VarHandle" ∧ (parseMethodDescriptor yX13_build.desc).map (fun d => d.parameters.length) = some 2 := by decide +kernel
theorem st425 (l : Launch) {G : rGm} {cc : ByteArray} {nL n fr lo : Nat} {ret : Option FieldType} {Qf : kQf} (hf : 6 ≤ fr) (hlo : 149 ≤ lo) : ySite gAll LAll vwCl rFo rZs rRs rNs rTs G l cc nL RX13 ret fr lo n Qf 182 1245 cq399 := ys_V 2 13454 15 rc399 lo_13454 kc15 (m399 l) kGood kw2618 kw2619 kw2620 kw315 kw2281 hdV_X13_build hf hlo
def mt444 : yMt := ([(182, (1225, 0)), (182, (1228, 1)), (182, (1222, 2)), (182, (1231, 3)), (182, (1180, 4)), (182, (1234, 5)), (182, (1237, 6)), (182, (1207, 7)), (182, (1239, 8)), (182, (1210, 9)), (182, (1242, 10)), (182, (1245, 11))], ([], ([], [])))
theorem rc444 : yRc cq444 13454 0 = true := by decide +kernel
theorem yr444 : yRun gAll t444 b444 cq444 := yRun_p (cuts := u444) (fuel := 300) gAll_tag ruI2_RtI ruJ2_RtJ rqL_ok ⟨zsm_e _ z444_s, List.forall_mem_cons.mpr ⟨zsm_e _ z444_0, List.forall_mem_cons.mpr ⟨zsm_e _ z444_1, yA_n⟩⟩⟩
theorem zw444 : zwid cq444.2.1.1 cq444.1 0 9 = true := by decide +kernel
set_option maxRecDepth 100000 in
theorem yw444 : yRows gAll LAll yt12 mt444 gHo 9 1 (zby cX13_link) p444 b444 p444 = true := by decide +kernel
set_option maxRecDepth 100000 in
theorem m444 (l : Launch) : kMet gAll LAll vwCl rFo rZs rRs rNs rTs l yX13_link cX13_link 9 (some .int) 6 149 cq444 := kmet_y2 (rt := 1) (by decide +kernel) yr444 zw444 rfl yw444 LAll_ok LAll_la yt12_ok gHo_ok rfl (fun G n Qf => List.forall_mem_cons.mpr ⟨⟨cq443, rfl, st420 l (by decide) (by decide)⟩, List.forall_mem_cons.mpr ⟨⟨cq442, rfl, st421 l (by decide) (by decide)⟩, List.forall_mem_cons.mpr ⟨⟨cq418, rfl, st403 l (by decide) (by decide)⟩, List.forall_mem_cons.mpr ⟨⟨cq419, rfl, st422 l (by decide) (by decide)⟩, List.forall_mem_cons.mpr ⟨⟨cq414, rfl, st402 l (by decide) (by decide)⟩, List.forall_mem_cons.mpr ⟨⟨cq417, rfl, st423 l (by decide) (by decide)⟩, List.forall_mem_cons.mpr ⟨⟨cq441, rfl, st424 l (by decide) (by decide)⟩, List.forall_mem_cons.mpr ⟨⟨cq398, rfl, st389 l (by decide) (by decide)⟩, List.forall_mem_cons.mpr ⟨⟨cq394, rfl, st390 l (by decide) (by decide)⟩, List.forall_mem_cons.mpr ⟨⟨cq391, rfl, st384 l (by decide) (by decide)⟩, List.forall_mem_cons.mpr ⟨⟨cq393, rfl, st391 l (by decide) (by decide)⟩, List.forall_mem_cons.mpr ⟨⟨cq399, rfl, st425 l (by decide) (by decide)⟩, yA_n⟩⟩⟩⟩⟩⟩⟩⟩⟩⟩⟩⟩) rfl (fun G n Rr => yA_n) rfl
/-! 445 Model.setFlags (J)V -/
def mt445 : yMt := ([], ([], ([], [])))
theorem rc445 : yRc cq445 13454 1 = true := by decide +kernel
theorem yr445 : yRun gAll t445 b445 cq445 := yRun_z gAll_tag ruI2_RtI ruJ2_RtJ rqL_ok z445
theorem zw445 : zwid cq445.2.1.1 cq445.1 0 3 = true := by decide +kernel
set_option maxRecDepth 100000 in
theorem yw445 : yRows gAll LAll yt12 mt445 gHo 3 0 (zby cX13_setFlags) p445 b445 p445 = true := by decide +kernel
set_option maxRecDepth 100000 in
theorem m445 (l : Launch) : kMet gAll LAll vwCl rFo rZs rRs rNs rTs l yX13_setFlags cX13_setFlags 3 none 0 0 cq445 := kmet_y2 (rt := 0) (by decide +kernel) yr445 zw445 rfl yw445 LAll_ok LAll_la yt12_ok gHo_ok rfl (fun G n Qf => yA_n) rfl (fun G n Rr => yA_n) rfl
/-! 446 Model.load ()J -/
theorem hdV_X12_copy : yX12_copy.cls = RX12 ∧ yX12_copy.cls ≠ "java/lang/invoke/MethodHandle" ∧ yX12_copy.cls ≠ "java/lang/invoke/VarHandle" ∧ (parseMethodDescriptor yX12_copy.desc).map (fun d => d.parameters.length) = some 1 := by decide +kernel
theorem st426 (l : Launch) {G : rGm} {cc : ByteArray} {nL n fr lo : Nat} {ret : Option FieldType} {Qf : kQf} (hf : 1 ≤ fr) (hlo : 22 ≤ lo) : ySite gAll LAll vwCl rFo rZs rRs rNs rTs G l cc nL RX13 ret fr lo n Qf 182 1550 cq279 := ys_V 1 13592 14 rc279 lo_13592 kc14 (m279 l) kGood kw2621 kw2622 kw2623 kw536 kw2143 hdV_X12_copy hf hlo
theorem hdV_X13_setFlags : yX13_setFlags.cls = RX13 ∧ yX13_setFlags.cls ≠ "java/lang/invoke/MethodHandle" ∧ yX13_setFlags.cls ≠ "java/lang/invoke/VarHandle" ∧ (parseMethodDescriptor yX13_setFlags.desc).map (fun d => d.parameters.length) = some 1 := by decide +kernel
theorem st427 (l : Launch) {G : rGm} {cc : ByteArray} {nL n fr lo : Nat} {ret : Option FieldType} {Qf : kQf} (hf : 1 ≤ fr) (hlo : 22 ≤ lo) : ySite gAll LAll vwCl rFo rZs rRs rNs rTs G l cc nL RX13 ret fr lo n Qf 182 1547 cq445 := ys_V 1 13454 15 rc445 lo_13454 kc15 (m445 l) kGood kw2625 kw2626 kw2627 kw315 kw2802 hdV_X13_setFlags hf hlo
def mt446 : yMt := ([(182, (1550, 0)), (182, (1547, 1))], ([], ([], [])))
theorem rc446 : yRc cq446 13454 0 = true := by decide +kernel
theorem yr446 : yRun gAll t446 b446 cq446 := yRun_p (cuts := u446) (fuel := 300) gAll_tag ruI2_RtI ruJ2_RtJ rqL_ok ⟨zsm_e _ z446_s, List.forall_mem_cons.mpr ⟨zsm_e _ z446_0, List.forall_mem_cons.mpr ⟨zsm_e _ z446_1, List.forall_mem_cons.mpr ⟨zsm_e _ z446_2, yA_n⟩⟩⟩⟩
theorem zw446 : zwid cq446.2.1.1 cq446.1 0 2 = true := by decide +kernel
set_option maxRecDepth 100000 in
theorem yw446 : yRows gAll LAll yt12 mt446 gHo 2 2 (zby cX13_load) p446 b446 p446 = true := by decide +kernel
set_option maxRecDepth 100000 in
theorem m446 (l : Launch) : kMet gAll LAll vwCl rFo rZs rRs rNs rTs l yX13_load cX13_load 2 (some .long) 1 22 cq446 := kmet_y2 (rt := 2) (by decide +kernel) yr446 zw446 rfl yw446 LAll_ok LAll_la yt12_ok gHo_ok rfl (fun G n Qf => List.forall_mem_cons.mpr ⟨⟨cq279, rfl, st426 l (by decide) (by decide)⟩, List.forall_mem_cons.mpr ⟨⟨cq445, rfl, st427 l (by decide) (by decide)⟩, yA_n⟩⟩) rfl (fun G n Rr => yA_n) rfl
/-! 447 Model.may (JJZ)Z -/
def mt447 : yMt := ([(182, (1321, 0))], ([], ([], [])))
theorem rc447 : yRc cq447 13454 3 = true := by decide +kernel
theorem yr447 : yRun gAll t447 b447 cq447 := yRun_p (cuts := u447) (fuel := 300) gAll_tag ruI2_RtI ruJ2_RtJ rqL_ok ⟨zsm_e _ z447_s, List.forall_mem_cons.mpr ⟨zsm_e _ z447_0, yA_n⟩⟩
theorem zw447 : zwid cq447.2.1.1 cq447.1 0 8 = true := by decide +kernel
set_option maxRecDepth 100000 in
theorem yw447 : yRows gAll LAll yt12 mt447 gHo 8 3 (zby cX13_may) p447 b447 p447 = true := by decide +kernel
set_option maxRecDepth 100000 in
theorem m447 (l : Launch) : kMet gAll LAll vwCl rFo rZs rRs rNs rTs l yX13_may cX13_may 8 (some .boolean) 2 49 cq447 := kmet_y2 (rt := 3) (by decide +kernel) yr447 zw447 rfl yw447 LAll_ok LAll_la yt12_ok gHo_ok rfl (fun G n Qf => List.forall_mem_cons.mpr ⟨⟨cq365, rfl, st357 l (by decide) (by decide)⟩, yA_n⟩) rfl (fun G n Rr => yA_n) rfl
/-! 448 Model.moves (II)V -/
def mt448 : yMt := ([(182, (1394, 0)), (182, (1404, 1)), (182, (1406, 2)), (184, (1346, 3)), (184, (1409, 4))], ([], ([], [])))
theorem rc448 : yRc cq448 13454 2 = true := by decide +kernel
theorem yr448 : yRun gAll t448 b448 cq448 := yRun_z gAll_tag ruI2_RtI ruJ2_RtJ rqL_ok z448
theorem zw448 : zwid cq448.2.1.1 cq448.1 0 7 = true := by decide +kernel
set_option maxRecDepth 100000 in
theorem yw448 : yRows gAll LAll yt12 mt448 gHo 7 0 (zby cX13_moves) p448 b448 p448 = true := by decide +kernel
set_option maxRecDepth 100000 in
theorem m448 (l : Launch) : kMet gAll LAll vwCl rFo rZs rRs rNs rTs l yX13_moves cX13_moves 7 none 4 99 cq448 := kmet_y2 (rt := 0) (by decide +kernel) yr448 zw448 rfl yw448 LAll_ok LAll_la yt12_ok gHo_ok rfl (fun G n Qf => List.forall_mem_cons.mpr ⟨⟨cq373, rfl, st366 l (by decide) (by decide)⟩, List.forall_mem_cons.mpr ⟨⟨cq369, rfl, st369 l (by decide) (by decide)⟩, List.forall_mem_cons.mpr ⟨⟨cq358, rfl, st410 l (by decide) (by decide)⟩, List.forall_mem_cons.mpr ⟨⟨cq352, rfl, st349 l (by decide) (by decide)⟩, List.forall_mem_cons.mpr ⟨⟨cq406, rfl, st395 l (by decide) (by decide)⟩, yA_n⟩⟩⟩⟩⟩) rfl (fun G n Rr => yA_n) rfl
/-! 449 Model.multiply (ZI)V -/
theorem hdS_X13_highUnsigned : yX13_highUnsigned.cls ≠ "java/lang/invoke/MethodHandle" ∧ yX13_highUnsigned.cls ≠ "java/lang/invoke/VarHandle" ∧ (parseMethodDescriptor yX13_highUnsigned.desc).map (fun d => d.parameters.length) = some 2 := by decide +kernel
theorem st428 (l : Launch) {G : rGm} {cc : ByteArray} {nL n fr lo : Nat} {ret : Option FieldType} {Qf : kQf} (hf : 2 ≤ fr) (hlo : 62 ≤ lo) : ySite gAll LAll vwCl rFo rZs rRs rNs rTs G l cc nL RX13 ret fr lo n Qf 184 1422 cq430 := ys_S 2 rfl (m430 l) kGood kw2648 kw2649 kw315 kw2521 hdS_X13_highUnsigned hf hlo
def mt449 : yMt := ([(182, (1394, 0)), (184, (1346, 1)), (184, (1409, 2)), (182, (1358, 3)), (184, (1412, 4)), (184, (1422, 5))], ([], ([], [])))
theorem rc449 : yRc cq449 13454 2 = true := by decide +kernel
theorem yr449 : yRun gAll t449 b449 cq449 := yRun_p (cuts := u449) (fuel := 300) gAll_tag ruI2_RtI ruJ2_RtJ rqL_ok ⟨zsm_e _ z449_s, List.forall_mem_cons.mpr ⟨zsm_e _ z449_0, yA_n⟩⟩
theorem zw449 : zwid cq449.2.1.1 cq449.1 0 11 = true := by decide +kernel
set_option maxRecDepth 100000 in
theorem yw449 : yRows gAll LAll yt12 mt449 gHo 11 0 (zby cX13_multiply) p449 b449 p449 = true := by decide +kernel
set_option maxRecDepth 100000 in
theorem m449 (l : Launch) : kMet gAll LAll vwCl rFo rZs rRs rNs rTs l yX13_multiply cX13_multiply 11 none 4 99 cq449 := kmet_y2 (rt := 0) (by decide +kernel) yr449 zw449 rfl yw449 LAll_ok LAll_la yt12_ok gHo_ok rfl (fun G n Qf => List.forall_mem_cons.mpr ⟨⟨cq373, rfl, st366 l (by decide) (by decide)⟩, List.forall_mem_cons.mpr ⟨⟨cq352, rfl, st349 l (by decide) (by decide)⟩, List.forall_mem_cons.mpr ⟨⟨cq406, rfl, st395 l (by decide) (by decide)⟩, List.forall_mem_cons.mpr ⟨⟨cq363, rfl, st362 l (by decide) (by decide)⟩, List.forall_mem_cons.mpr ⟨⟨cq429, rfl, st411 l (by decide) (by decide)⟩, List.forall_mem_cons.mpr ⟨⟨cq430, rfl, st428 l (by decide) (by decide)⟩, yA_n⟩⟩⟩⟩⟩⟩) rfl (fun G n Rr => yA_n) rfl
/-! 450 Model.parametersOf (I)I -/
def mt450 : yMt := ([(182, (652, 0)), (184, (621, 1))], ([], ([], [])))
theorem rc450 : yRc cq450 13454 1 = true := by decide +kernel
theorem yr450 : yRun gAll t450 b450 cq450 := yRun_p (cuts := u450) (fuel := 300) gAll_tag ruI2_RtI ruJ2_RtJ rqL_ok ⟨zsm_e _ z450_s, List.forall_mem_cons.mpr ⟨zsm_e _ z450_0, yA_n⟩⟩
theorem zw450 : zwid cq450.2.1.1 cq450.1 0 5 = true := by decide +kernel
set_option maxRecDepth 100000 in
theorem yw450 : yRows gAll LAll yt12 mt450 gHo 5 1 (zby cX13_parametersOf) p450 b450 p450 = true := by decide +kernel
set_option maxRecDepth 100000 in
theorem m450 (l : Launch) : kMet gAll LAll vwCl rFo rZs rRs rNs rTs l yX13_parametersOf cX13_parametersOf 5 (some .int) 2 40 cq450 := kmet_y2 (rt := 1) (by decide +kernel) yr450 zw450 rfl yw450 LAll_ok LAll_la yt12_ok gHo_ok rfl (fun G n Qf => List.forall_mem_cons.mpr ⟨⟨cq340, rfl, st336 l (by decide) (by decide)⟩, List.forall_mem_cons.mpr ⟨⟨cq343, rfl, st334 l (by decide) (by decide)⟩, yA_n⟩⟩) rfl (fun G n Rr => yA_n) rfl
/-! 451 Model.split (I)V -/
def mt451 : yMt := ([(182, (797, 0))], ([], ([], [])))
theorem rc451 : yRc cq451 13454 1 = true := by decide +kernel
theorem yr451 : yRun gAll t451 b451 cq451 := yRun_p (cuts := u451) (fuel := 300) gAll_tag ruI2_RtI ruJ2_RtJ rqL_ok ⟨zsm_e _ z451_s, List.forall_mem_cons.mpr ⟨zsm_e _ z451_0, List.forall_mem_cons.mpr ⟨zsm_e _ z451_1, List.forall_mem_cons.mpr ⟨zsm_e _ z451_2, List.forall_mem_cons.mpr ⟨zsm_e _ z451_3, List.forall_mem_cons.mpr ⟨zsm_e _ z451_4, yA_n⟩⟩⟩⟩⟩⟩
theorem zw451 : zwid cq451.2.1.1 cq451.1 0 11 = true := by decide +kernel
set_option maxRecDepth 100000 in
theorem yw451 : yRows gAll LAll yt12 mt451 gHo 11 0 (zby cX13_split) p451 b451 p451 = true := by decide +kernel
set_option maxRecDepth 100000 in
theorem m451 (l : Launch) : kMet gAll LAll vwCl rFo rZs rRs rNs rTs l yX13_split cX13_split 11 none 1 22 cq451 := kmet_y2 (rt := 0) (by decide +kernel) yr451 zw451 rfl yw451 LAll_ok LAll_la yt12_ok gHo_ok rfl (fun G n Qf => List.forall_mem_cons.mpr ⟨⟨cq296, rfl, st289 l (by decide) (by decide)⟩, yA_n⟩) rfl (fun G n Rr => yA_n) rfl
/-! 452 Model.nesting (III)V -/
theorem hdV_X13_split : yX13_split.cls = RX13 ∧ yX13_split.cls ≠ "java/lang/invoke/MethodHandle" ∧ yX13_split.cls ≠ "java/lang/invoke/VarHandle" ∧ (parseMethodDescriptor yX13_split.desc).map (fun d => d.parameters.length) = some 1 := by decide +kernel
theorem st429 (l : Launch) {G : rGm} {cc : ByteArray} {nL n fr lo : Nat} {ret : Option FieldType} {Qf : kQf} (hf : 2 ≤ fr) (hlo : 52 ≤ lo) : ySite gAll LAll vwCl rFo rZs rRs rNs rTs G l cc nL RX13 ret fr lo n Qf 182 884 cq451 := ys_V 1 13454 15 rc451 lo_13454 kc15 (m451 l) kGood kw2652 kw2653 kw2654 kw315 kw2813 hdV_X13_split hf hlo
theorem hdV_X13_parametersOf : yX13_parametersOf.cls = RX13 ∧ yX13_parametersOf.cls ≠ "java/lang/invoke/MethodHandle" ∧ yX13_parametersOf.cls ≠ "java/lang/invoke/VarHandle" ∧ (parseMethodDescriptor yX13_parametersOf.desc).map (fun d => d.parameters.length) = some 1 := by decide +kernel
theorem st430 (l : Launch) {G : rGm} {cc : ByteArray} {nL n fr lo : Nat} {ret : Option FieldType} {Qf : kQf} (hf : 3 ≤ fr) (hlo : 64 ≤ lo) : ySite gAll LAll vwCl rFo rZs rRs rNs rTs G l cc nL RX13 ret fr lo n Qf 182 887 cq450 := ys_V 1 13454 15 rc450 lo_13454 kc15 (m450 l) kGood kw2655 kw2656 kw2657 kw315 kw2669 hdV_X13_parametersOf hf hlo
def mt452 : yMt := ([(182, (678, 0)), (182, (672, 1)), (182, (880, 2)), (182, (884, 3)), (182, (887, 4))], ([], ([], [])))
theorem rc452 : yRc cq452 13454 3 = true := by decide +kernel
theorem yr452 : yRun gAll t452 b452 cq452 := yRun_p (cuts := u452) (fuel := 300) gAll_tag ruI2_RtI ruJ2_RtJ rqL_ok ⟨zsm_e _ z452_s, List.forall_mem_cons.mpr ⟨zsm_e _ z452_0, List.forall_mem_cons.mpr ⟨zsm_e _ z452_1, List.forall_mem_cons.mpr ⟨zsm_e _ z452_2, List.forall_mem_cons.mpr ⟨zsm_e _ z452_3, List.forall_mem_cons.mpr ⟨zsm_e _ z452_4, List.forall_mem_cons.mpr ⟨zsm_e _ z452_5, List.forall_mem_cons.mpr ⟨zsm_e _ z452_6, yA_n⟩⟩⟩⟩⟩⟩⟩⟩
theorem zw452 : zwid cq452.2.1.1 cq452.1 0 7 = true := by decide +kernel
set_option maxRecDepth 100000 in
theorem yw452 : yRows gAll LAll yt12 mt452 gHo 7 0 (zby cX13_nesting) p452 b452 p452 = true := by decide +kernel
set_option maxRecDepth 100000 in
theorem m452 (l : Launch) : kMet gAll LAll vwCl rFo rZs rRs rNs rTs l yX13_nesting cX13_nesting 7 none 5 120 cq452 := kmet_y2 (rt := 0) (by decide +kernel) yr452 zw452 rfl yw452 LAll_ok LAll_la yt12_ok gHo_ok rfl (fun G n Qf => List.forall_mem_cons.mpr ⟨⟨cq294, rfl, st299 l (by decide) (by decide)⟩, List.forall_mem_cons.mpr ⟨⟨cq349, rfl, st340 l (by decide) (by decide)⟩, List.forall_mem_cons.mpr ⟨⟨cq346, rfl, st338 l (by decide) (by decide)⟩, List.forall_mem_cons.mpr ⟨⟨cq451, rfl, st429 l (by decide) (by decide)⟩, List.forall_mem_cons.mpr ⟨⟨cq450, rfl, st430 l (by decide) (by decide)⟩, yA_n⟩⟩⟩⟩⟩) rfl (fun G n Rr => yA_n) rfl
/-! 453 Model.nextLine ()Z -/
def mt453 : yMt := ([(182, (672, 0)), (182, (678, 1)), (182, (652, 2))], ([], ([], [])))
theorem rc453 : yRc cq453 13454 0 = true := by decide +kernel
theorem yr453 : yRun gAll t453 b453 cq453 := yRun_p (cuts := u453) (fuel := 300) gAll_tag ruI2_RtI ruJ2_RtJ rqL_ok ⟨zsm_e _ z453_s, List.forall_mem_cons.mpr ⟨zsm_e _ z453_0, List.forall_mem_cons.mpr ⟨zsm_e _ z453_1, yA_n⟩⟩⟩
theorem zw453 : zwid cq453.2.1.1 cq453.1 0 2 = true := by decide +kernel
set_option maxRecDepth 100000 in
theorem yw453 : yRows gAll LAll yt12 mt453 gHo 2 3 (zby cX13_nextLine) p453 b453 p453 = true := by decide +kernel
set_option maxRecDepth 100000 in
theorem m453 (l : Launch) : kMet gAll LAll vwCl rFo rZs rRs rNs rTs l yX13_nextLine cX13_nextLine 2 (some .boolean) 2 43 cq453 := kmet_y2 (rt := 3) (by decide +kernel) yr453 zw453 rfl yw453 LAll_ok LAll_la yt12_ok gHo_ok rfl (fun G n Qf => List.forall_mem_cons.mpr ⟨⟨cq349, rfl, st340 l (by decide) (by decide)⟩, List.forall_mem_cons.mpr ⟨⟨cq294, rfl, st299 l (by decide) (by decide)⟩, List.forall_mem_cons.mpr ⟨⟨cq340, rfl, st336 l (by decide) (by decide)⟩, yA_n⟩⟩⟩) rfl (fun G n Rr => yA_n) rfl
/-! 454 Model.token (IIIJ)V -/
def mt454 : yMt := ([], ([], ([], [])))
theorem rc454 : yRc cq454 13454 4 = true := by decide +kernel
theorem yr454 : yRun gAll t454 b454 cq454 := yRun_z gAll_tag ruI2_RtI ruJ2_RtJ rqL_ok z454
theorem zw454 : zwid cq454.2.1.1 cq454.1 0 6 = true := by decide +kernel
set_option maxRecDepth 100000 in
theorem yw454 : yRows gAll LAll yt12 mt454 gHo 6 0 (zby cX13_token) p454 b454 p454 = true := by decide +kernel
set_option maxRecDepth 100000 in
theorem m454 (l : Launch) : kMet gAll LAll vwCl rFo rZs rRs rNs rTs l yX13_token cX13_token 6 none 0 0 cq454 := kmet_y2 (rt := 0) (by decide +kernel) yr454 zw454 rfl yw454 LAll_ok LAll_la yt12_ok gHo_ok rfl (fun G n Qf => yA_n) rfl (fun G n Rr => yA_n) rfl
/-! 455 Model.numberToken (I)I -/
theorem hdS_X13_digitOf : yX13_digitOf.cls ≠ "java/lang/invoke/MethodHandle" ∧ yX13_digitOf.cls ≠ "java/lang/invoke/VarHandle" ∧ (parseMethodDescriptor yX13_digitOf.desc).map (fun d => d.parameters.length) = some 1 := by decide +kernel
theorem st431 (l : Launch) {G : rGm} {cc : ByteArray} {nL n fr lo : Nat} {ret : Option FieldType} {Qf : kQf} (hf : 2 ≤ fr) (hlo : 40 ≤ lo) : ySite gAll LAll vwCl rFo rZs rRs rNs rTs G l cc nL RX13 ret fr lo n Qf 184 706 cq405 := ys_S 1 rfl (m405 l) kGood kw2659 kw2660 kw315 kw2379 hdS_X13_digitOf hf hlo
theorem hdV_X13_token : yX13_token.cls = RX13 ∧ yX13_token.cls ≠ "java/lang/invoke/MethodHandle" ∧ yX13_token.cls ≠ "java/lang/invoke/VarHandle" ∧ (parseMethodDescriptor yX13_token.desc).map (fun d => d.parameters.length) = some 4 := by decide +kernel
theorem st432 (l : Launch) {G : rGm} {cc : ByteArray} {nL n fr lo : Nat} {ret : Option FieldType} {Qf : kQf} (hf : 1 ≤ fr) (hlo : 25 ≤ lo) : ySite gAll LAll vwCl rFo rZs rRs rNs rTs G l cc nL RX13 ret fr lo n Qf 182 717 cq454 := ys_V 4 13454 15 rc454 lo_13454 kc15 (m454 l) kGood kw2664 kw2665 kw2666 kw315 kw2852 hdV_X13_token hf hlo
def mt455 : yMt := ([(184, (706, 0)), (184, (711, 1)), (184, (621, 2)), (182, (717, 3))], ([], ([], [])))
theorem rc455 : yRc cq455 13454 1 = true := by decide +kernel
theorem yr455 : yRun gAll t455 b455 cq455 := yRun_p (cuts := u455) (fuel := 300) gAll_tag ruI2_RtI ruJ2_RtJ rqL_ok ⟨zsm_e _ z455_s, List.forall_mem_cons.mpr ⟨zsm_e _ z455_0, yA_n⟩⟩
theorem zw455 : zwid cq455.2.1.1 cq455.1 0 9 = true := by decide +kernel
set_option maxRecDepth 100000 in
theorem yw455 : yRows gAll LAll yt12 mt455 gHo 9 1 (zby cX13_numberToken) p455 b455 p455 = true := by decide +kernel
set_option maxRecDepth 100000 in
theorem m455 (l : Launch) : kMet gAll LAll vwCl rFo rZs rRs rNs rTs l yX13_numberToken cX13_numberToken 9 (some .int) 2 46 cq455 := kmet_y2 (rt := 1) (by decide +kernel) yr455 zw455 rfl yw455 LAll_ok LAll_la yt12_ok gHo_ok rfl (fun G n Qf => List.forall_mem_cons.mpr ⟨⟨cq405, rfl, st431 l (by decide) (by decide)⟩, List.forall_mem_cons.mpr ⟨⟨cq356, rfl, st353 l (by decide) (by decide)⟩, List.forall_mem_cons.mpr ⟨⟨cq343, rfl, st334 l (by decide) (by decide)⟩, List.forall_mem_cons.mpr ⟨⟨cq454, rfl, st432 l (by decide) (by decide)⟩, yA_n⟩⟩⟩⟩) rfl (fun G n Rr => yA_n) rfl
/-! 456 Model.octet (III)I -/
def mt456 : yMt := ([(182, (1186, 0))], ([], ([], [])))
theorem rc456 : yRc cq456 13454 3 = true := by decide +kernel
theorem yr456 : yRun gAll t456 b456 cq456 := yRun_p (cuts := u456) (fuel := 300) gAll_tag ruI2_RtI ruJ2_RtJ rqL_ok ⟨zsm_e _ z456_s, List.forall_mem_cons.mpr ⟨zsm_e _ z456_0, yA_n⟩⟩
theorem zw456 : zwid cq456.2.1.1 cq456.1 0 5 = true := by decide +kernel
set_option maxRecDepth 100000 in
theorem yw456 : yRows gAll LAll yt12 mt456 gHo 5 1 (zby cX13_octet) p456 b456 p456 = true := by decide +kernel
set_option maxRecDepth 100000 in
theorem m456 (l : Launch) : kMet gAll LAll vwCl rFo rZs rRs rNs rTs l yX13_octet cX13_octet 5 (some .int) 2 45 cq456 := kmet_y2 (rt := 1) (by decide +kernel) yr456 zw456 rfl yw456 LAll_ok LAll_la yt12_ok gHo_ok rfl (fun G n Qf => List.forall_mem_cons.mpr ⟨⟨cq385, rfl, st380 l (by decide) (by decide)⟩, yA_n⟩) rfl (fun G n Rr => yA_n) rfl
/-! 457 Model.output (I)I -/
def mt457 : yMt := ([], ([], ([], [])))
theorem rc457 : yRc cq457 13454 1 = true := by decide +kernel
theorem yr457 : yRun gAll t457 b457 cq457 := yRun_z gAll_tag ruI2_RtI ruJ2_RtJ rqL_ok z457
theorem zw457 : zwid cq457.2.1.1 cq457.1 0 2 = true := by decide +kernel
set_option maxRecDepth 100000 in
theorem yw457 : yRows gAll LAll yt12 mt457 gHo 2 1 (zby cX13_output) p457 b457 p457 = true := by decide +kernel
set_option maxRecDepth 100000 in
theorem m457 (l : Launch) : kMet gAll LAll vwCl rFo rZs rRs rNs rTs l yX13_output cX13_output 2 (some .int) 0 0 cq457 := kmet_y2 (rt := 1) (by decide +kernel) yr457 zw457 rfl yw457 LAll_ok LAll_la yt12_ok gHo_ok rfl (fun G n Qf => yA_n) rfl (fun G n Rr => yA_n) rfl
/-! 458 Model.packed/line ([BII)J -/
def mt458 : yMt := ([(184, (621, 0)), (184, (618, 1))], ([], ([], [])))
theorem yr458 : yRun gAll t458 b458 cq458 := yRun_p (cuts := u458) (fuel := 300) gAll_tag ruI2_RtI ruJ2_RtJ rqL_ok ⟨zsm_e _ z458_s, List.forall_mem_cons.mpr ⟨zsm_e _ z458_0, yA_n⟩⟩
theorem zw458 : zwid cq458.2.1.1 cq458.1 0 7 = true := by decide +kernel
set_option maxRecDepth 100000 in
theorem yw458 : yRows gAll LAll yt12 mt458 gHo 7 2 (zby cX13_packed) p458 b458 p458 = true := by decide +kernel
set_option maxRecDepth 100000 in
theorem m458 (l : Launch) : kMet gAll LAll vwCl rFo rZs rRs rNs rTs l yX13_packed cX13_packed 7 (some .long) 2 40 cq458 := kmet_y2 (rt := 2) (by decide +kernel) yr458 zw458 rfl yw458 LAll_ok LAll_la yt12_ok gHo_ok rfl (fun G n Qf => List.forall_mem_cons.mpr ⟨⟨cq343, rfl, st334 l (by decide) (by decide)⟩, List.forall_mem_cons.mpr ⟨⟨cq341, rfl, st333 l (by decide) (by decide)⟩, yA_n⟩⟩) rfl (fun G n Rr => yA_n) rfl
/-! 459 Model.peek (J)I -/
def mt459 : yMt := ([(182, (1321, 0)), (182, (1329, 1))], ([], ([], [])))
theorem rc459 : yRc cq459 13454 1 = true := by decide +kernel
theorem yr459 : yRun gAll t459 b459 cq459 := yRun_z gAll_tag ruI2_RtI ruJ2_RtJ rqL_ok z459
theorem zw459 : zwid cq459.2.1.1 cq459.1 0 4 = true := by decide +kernel
set_option maxRecDepth 100000 in
theorem yw459 : yRows gAll LAll yt12 mt459 gHo 4 1 (zby cX13_peek) p459 b459 p459 = true := by decide +kernel
set_option maxRecDepth 100000 in
theorem m459 (l : Launch) : kMet gAll LAll vwCl rFo rZs rRs rNs rTs l yX13_peek cX13_peek 4 (some .int) 2 49 cq459 := kmet_y2 (rt := 1) (by decide +kernel) yr459 zw459 rfl yw459 LAll_ok LAll_la yt12_ok gHo_ok rfl (fun G n Qf => List.forall_mem_cons.mpr ⟨⟨cq365, rfl, st357 l (by decide) (by decide)⟩, List.forall_mem_cons.mpr ⟨⟨cq371, rfl, st364 l (by decide) (by decide)⟩, yA_n⟩⟩) rfl (fun G n Rr => yA_n) rfl
/-! 460 Model.product (I)V -/
def mt460 : yMt := ([(182, (1340, 0)), (182, (1394, 1)), (184, (1409, 2)), (184, (1412, 3)), (184, (1346, 4)), (182, (1404, 5))], ([], ([], [])))
theorem rc460 : yRc cq460 13454 1 = true := by decide +kernel
theorem yr460 : yRun gAll t460 b460 cq460 := yRun_z gAll_tag ruI2_RtI ruJ2_RtJ rqL_ok z460
theorem zw460 : zwid cq460.2.1.1 cq460.1 0 9 = true := by decide +kernel
set_option maxRecDepth 100000 in
theorem yw460 : yRows gAll LAll yt12 mt460 gHo 9 0 (zby cX13_product) p460 b460 p460 = true := by decide +kernel
set_option maxRecDepth 100000 in
theorem m460 (l : Launch) : kMet gAll LAll vwCl rFo rZs rRs rNs rTs l yX13_product cX13_product 9 none 4 99 cq460 := kmet_y2 (rt := 0) (by decide +kernel) yr460 zw460 rfl yw460 LAll_ok LAll_la yt12_ok gHo_ok rfl (fun G n Qf => List.forall_mem_cons.mpr ⟨⟨cq361, rfl, st360 l (by decide) (by decide)⟩, List.forall_mem_cons.mpr ⟨⟨cq373, rfl, st366 l (by decide) (by decide)⟩, List.forall_mem_cons.mpr ⟨⟨cq406, rfl, st395 l (by decide) (by decide)⟩, List.forall_mem_cons.mpr ⟨⟨cq429, rfl, st411 l (by decide) (by decide)⟩, List.forall_mem_cons.mpr ⟨⟨cq352, rfl, st349 l (by decide) (by decide)⟩, List.forall_mem_cons.mpr ⟨⟨cq369, rfl, st369 l (by decide) (by decide)⟩, yA_n⟩⟩⟩⟩⟩⟩) rfl (fun G n Rr => yA_n) rfl
/-! 461 Model.service ()V -/
theorem hdV_X13_flags : yX13_flags.cls = RX13 ∧ yX13_flags.cls ≠ "java/lang/invoke/MethodHandle" ∧ yX13_flags.cls ≠ "java/lang/invoke/VarHandle" ∧ (parseMethodDescriptor yX13_flags.desc).map (fun d => d.parameters.length) = some 0 := by decide +kernel
theorem st433 (l : Launch) {G : rGm} {cc : ByteArray} {nL n fr lo : Nat} {ret : Option FieldType} {Qf : kQf} (hf : 1 ≤ fr) (hlo : 20 ≤ lo) : ySite gAll LAll vwCl rFo rZs rRs rNs rTs G l cc nL RX13 ret fr lo n Qf 182 1469 cq425 := ys_V 0 13454 15 rc425 lo_13454 kc15 (m425 l) kGood kw875 kw876 kw877 kw315 kw874 hdV_X13_flags hf hlo
theorem hdV_X13_may : yX13_may.cls = RX13 ∧ yX13_may.cls ≠ "java/lang/invoke/MethodHandle" ∧ yX13_may.cls ≠ "java/lang/invoke/VarHandle" ∧ (parseMethodDescriptor yX13_may.desc).map (fun d => d.parameters.length) = some 3 := by decide +kernel
theorem st434 (l : Launch) {G : rGm} {cc : ByteArray} {nL n fr lo : Nat} {ret : Option FieldType} {Qf : kQf} (hf : 3 ≤ fr) (hlo : 76 ≤ lo) : ySite gAll LAll vwCl rFo rZs rRs rNs rTs G l cc nL RX13 ret fr lo n Qf 182 1475 cq447 := ys_V 3 13454 15 rc447 lo_13454 kc15 (m447 l) kGood kw2794 kw2795 kw2796 kw315 kw2637 hdV_X13_may hf hlo
def mt461 : yMt := ([(182, (1469, 0)), (182, (1475, 1)), (182, (1321, 2)), (182, (1332, 3)), (182, (1329, 4)), (182, (1305, 5)), (182, (1325, 6))], ([], ([], [])))
theorem rc461 : yRc cq461 13454 0 = true := by decide +kernel
theorem yr461 : yRun gAll t461 b461 cq461 := yRun_p (cuts := u461) (fuel := 300) gAll_tag ruI2_RtI ruJ2_RtJ rqL_ok ⟨zsm_e _ z461_s, List.forall_mem_cons.mpr ⟨zsm_e _ z461_0, List.forall_mem_cons.mpr ⟨zsm_e _ z461_1, List.forall_mem_cons.mpr ⟨zsm_e _ z461_2, List.forall_mem_cons.mpr ⟨zsm_e _ z461_3, List.forall_mem_cons.mpr ⟨zsm_e _ z461_4, yA_n⟩⟩⟩⟩⟩⟩
theorem zw461 : zwid cq461.2.1.1 cq461.1 0 12 = true := by decide +kernel
set_option maxRecDepth 100000 in
theorem yw461 : yRows gAll LAll yt12 mt461 gHo 12 0 (zby cX13_service) p461 b461 p461 = true := by decide +kernel
set_option maxRecDepth 100000 in
theorem m461 (l : Launch) : kMet gAll LAll vwCl rFo rZs rRs rNs rTs l yX13_service cX13_service 12 none 3 76 cq461 := kmet_y2 (rt := 0) (by decide +kernel) yr461 zw461 rfl yw461 LAll_ok LAll_la yt12_ok gHo_ok rfl (fun G n Qf => List.forall_mem_cons.mpr ⟨⟨cq425, rfl, st433 l (by decide) (by decide)⟩, List.forall_mem_cons.mpr ⟨⟨cq447, rfl, st434 l (by decide) (by decide)⟩, List.forall_mem_cons.mpr ⟨⟨cq365, rfl, st357 l (by decide) (by decide)⟩, List.forall_mem_cons.mpr ⟨⟨cq366, rfl, st359 l (by decide) (by decide)⟩, List.forall_mem_cons.mpr ⟨⟨cq371, rfl, st364 l (by decide) (by decide)⟩, List.forall_mem_cons.mpr ⟨⟨cq364, rfl, st356 l (by decide) (by decide)⟩, List.forall_mem_cons.mpr ⟨⟨cq367, rfl, st358 l (by decide) (by decide)⟩, yA_n⟩⟩⟩⟩⟩⟩⟩) rfl (fun G n Rr => yA_n) rfl
/-! 462 Model.shift (II)V -/
def mt462 : yMt := ([(182, (1394, 0)), (184, (1369, 1)), (184, (1346, 2)), (182, (1387, 3)), (182, (1404, 4))], ([], ([], [])))
theorem rc462 : yRc cq462 13454 2 = true := by decide +kernel
theorem yr462 : yRun gAll t462 b462 cq462 := yRun_p (cuts := u462) (fuel := 300) gAll_tag ruI2_RtI ruJ2_RtJ rqL_ok ⟨zsm_e _ z462_s, List.forall_mem_cons.mpr ⟨zsm_e _ z462_0, List.forall_mem_cons.mpr ⟨zsm_e _ z462_1, List.forall_mem_cons.mpr ⟨zsm_e _ z462_2, yA_n⟩⟩⟩⟩
theorem zw462 : zwid cq462.2.1.1 cq462.1 0 15 = true := by decide +kernel
set_option maxRecDepth 100000 in
theorem yw462 : yRows gAll LAll yt12 mt462 gHo 15 0 (zby cX13_shift) p462 b462 p462 = true := by decide +kernel
set_option maxRecDepth 100000 in
theorem m462 (l : Launch) : kMet gAll LAll vwCl rFo rZs rRs rNs rTs l yX13_shift cX13_shift 15 none 4 99 cq462 := kmet_y2 (rt := 0) (by decide +kernel) yr462 zw462 rfl yw462 LAll_ok LAll_la yt12_ok gHo_ok rfl (fun G n Qf => List.forall_mem_cons.mpr ⟨⟨cq373, rfl, st366 l (by decide) (by decide)⟩, List.forall_mem_cons.mpr ⟨⟨cq353, rfl, st350 l (by decide) (by decide)⟩, List.forall_mem_cons.mpr ⟨⟨cq352, rfl, st349 l (by decide) (by decide)⟩, List.forall_mem_cons.mpr ⟨⟨cq354, rfl, st354 l (by decide) (by decide)⟩, List.forall_mem_cons.mpr ⟨⟨cq369, rfl, st369 l (by decide) (by decide)⟩, yA_n⟩⟩⟩⟩⟩) rfl (fun G n Rr => yA_n) rfl
/-! 463 Model.single (II)V -/
def mt463 : yMt := ([(182, (1394, 0)), (184, (1346, 1)), (182, (1401, 2)), (182, (1397, 3)), (182, (1404, 4))], ([], ([], [])))
theorem rc463 : yRc cq463 13454 2 = true := by decide +kernel
theorem yr463 : yRun gAll t463 b463 cq463 := yRun_p (cuts := u463) (fuel := 300) gAll_tag ruI2_RtI ruJ2_RtJ rqL_ok ⟨zsm_e _ z463_s, List.forall_mem_cons.mpr ⟨zsm_e _ z463_0, yA_n⟩⟩
theorem zw463 : zwid cq463.2.1.1 cq463.1 0 8 = true := by decide +kernel
set_option maxRecDepth 100000 in
theorem yw463 : yRows gAll LAll yt12 mt463 gHo 8 0 (zby cX13_single) p463 b463 p463 = true := by decide +kernel
set_option maxRecDepth 100000 in
theorem m463 (l : Launch) : kMet gAll LAll vwCl rFo rZs rRs rNs rTs l yX13_single cX13_single 8 none 4 99 cq463 := kmet_y2 (rt := 0) (by decide +kernel) yr463 zw463 rfl yw463 LAll_ok LAll_la yt12_ok gHo_ok rfl (fun G n Qf => List.forall_mem_cons.mpr ⟨⟨cq373, rfl, st366 l (by decide) (by decide)⟩, List.forall_mem_cons.mpr ⟨⟨cq352, rfl, st349 l (by decide) (by decide)⟩, List.forall_mem_cons.mpr ⟨⟨cq370, rfl, st368 l (by decide) (by decide)⟩, List.forall_mem_cons.mpr ⟨⟨cq357, rfl, st367 l (by decide) (by decide)⟩, List.forall_mem_cons.mpr ⟨⟨cq369, rfl, st369 l (by decide) (by decide)⟩, yA_n⟩⟩⟩⟩⟩) rfl (fun G n Rr => yA_n) rfl
/-! 464 Model.spread (II)V -/
def mt464 : yMt := ([(184, (1369, 0)), (182, (1358, 1))], ([], ([], [])))
theorem rc464 : yRc cq464 13454 2 = true := by decide +kernel
theorem yr464 : yRun gAll t464 b464 cq464 := yRun_z gAll_tag ruI2_RtI ruJ2_RtJ rqL_ok z464
theorem zw464 : zwid cq464.2.1.1 cq464.1 0 5 = true := by decide +kernel
set_option maxRecDepth 100000 in
theorem yw464 : yRows gAll LAll yt12 mt464 gHo 5 0 (zby cX13_spread) p464 b464 p464 = true := by decide +kernel
set_option maxRecDepth 100000 in
theorem m464 (l : Launch) : kMet gAll LAll vwCl rFo rZs rRs rNs rTs l yX13_spread cX13_spread 5 none 1 24 cq464 := kmet_y2 (rt := 0) (by decide +kernel) yr464 zw464 rfl yw464 LAll_ok LAll_la yt12_ok gHo_ok rfl (fun G n Qf => List.forall_mem_cons.mpr ⟨⟨cq353, rfl, st350 l (by decide) (by decide)⟩, List.forall_mem_cons.mpr ⟨⟨cq363, rfl, st362 l (by decide) (by decide)⟩, yA_n⟩⟩) rfl (fun G n Rr => yA_n) rfl
/-! 465 Model.strings (II)V -/
theorem hdS_X13_bytesOf : yX13_bytesOf.cls ≠ "java/lang/invoke/MethodHandle" ∧ yX13_bytesOf.cls ≠ "java/lang/invoke/VarHandle" ∧ (parseMethodDescriptor yX13_bytesOf.desc).map (fun d => d.parameters.length) = some 1 := by decide +kernel
theorem st435 (l : Launch) {G : rGm} {cc : ByteArray} {nL n fr lo : Nat} {ret : Option FieldType} {Qf : kQf} (hf : 1 ≤ fr) (hlo : 21 ≤ lo) : ySite gAll LAll vwCl rFo rZs rRs rNs rTs G l cc nL RX13 ret fr lo n Qf 184 1464 cq400 := ys_S 1 rfl (m400 l) kGood kw2822 kw2823 kw315 kw2322 hdS_X13_bytesOf hf hlo
def mt465 : yMt := ([(182, (1353, 0)), (184, (1346, 1)), (182, (1362, 2)), (184, (1464, 3))], ([], ([], [])))
theorem rc465 : yRc cq465 13454 2 = true := by decide +kernel
theorem yr465 : yRun gAll t465 b465 cq465 := yRun_p (cuts := u465) (fuel := 300) gAll_tag ruI2_RtI ruJ2_RtJ rqL_ok ⟨zsm_e _ z465_s, List.forall_mem_cons.mpr ⟨zsm_e _ z465_0, yA_n⟩⟩
theorem zw465 : zwid cq465.2.1.1 cq465.1 0 7 = true := by decide +kernel
set_option maxRecDepth 100000 in
theorem yw465 : yRows gAll LAll yt12 mt465 gHo 7 0 (zby cX13_strings) p465 b465 p465 = true := by decide +kernel
set_option maxRecDepth 100000 in
theorem m465 (l : Launch) : kMet gAll LAll vwCl rFo rZs rRs rNs rTs l yX13_strings cX13_strings 7 none 3 76 cq465 := kmet_y2 (rt := 0) (by decide +kernel) yr465 zw465 rfl yw465 LAll_ok LAll_la yt12_ok gHo_ok rfl (fun G n Qf => List.forall_mem_cons.mpr ⟨⟨cq372, rfl, st365 l (by decide) (by decide)⟩, List.forall_mem_cons.mpr ⟨⟨cq352, rfl, st349 l (by decide) (by decide)⟩, List.forall_mem_cons.mpr ⟨⟨cq368, rfl, st363 l (by decide) (by decide)⟩, List.forall_mem_cons.mpr ⟨⟨cq400, rfl, st435 l (by decide) (by decide)⟩, yA_n⟩⟩⟩⟩) rfl (fun G n Rr => yA_n) rfl
/-! 466 Model.together (II)V -/
def mt466 : yMt := ([(182, (1394, 0)), (182, (1397, 1)), (182, (1404, 2)), (184, (1346, 3)), (182, (1401, 4)), (182, (1358, 5))], ([], ([], [])))
theorem rc466 : yRc cq466 13454 2 = true := by decide +kernel
theorem yr466 : yRun gAll t466 b466 cq466 := yRun_z gAll_tag ruI2_RtI ruJ2_RtJ rqL_ok z466
theorem zw466 : zwid cq466.2.1.1 cq466.1 0 9 = true := by decide +kernel
set_option maxRecDepth 100000 in
theorem yw466 : yRows gAll LAll yt12 mt466 gHo 9 0 (zby cX13_together) p466 b466 p466 = true := by decide +kernel
set_option maxRecDepth 100000 in
theorem m466 (l : Launch) : kMet gAll LAll vwCl rFo rZs rRs rNs rTs l yX13_together cX13_together 9 none 4 99 cq466 := kmet_y2 (rt := 0) (by decide +kernel) yr466 zw466 rfl yw466 LAll_ok LAll_la yt12_ok gHo_ok rfl (fun G n Qf => List.forall_mem_cons.mpr ⟨⟨cq373, rfl, st366 l (by decide) (by decide)⟩, List.forall_mem_cons.mpr ⟨⟨cq357, rfl, st367 l (by decide) (by decide)⟩, List.forall_mem_cons.mpr ⟨⟨cq369, rfl, st369 l (by decide) (by decide)⟩, List.forall_mem_cons.mpr ⟨⟨cq352, rfl, st349 l (by decide) (by decide)⟩, List.forall_mem_cons.mpr ⟨⟨cq370, rfl, st368 l (by decide) (by decide)⟩, List.forall_mem_cons.mpr ⟨⟨cq363, rfl, st362 l (by decide) (by decide)⟩, yA_n⟩⟩⟩⟩⟩⟩) rfl (fun G n Rr => yA_n) rfl
