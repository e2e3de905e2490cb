/-! METHODS, CALLEES FIRST (written by wip/p2/genmeth.py) -/
/-! 106 Instruction.emit@x.assembler.instruction (I)V -/
theorem hdV_X2_emitPrefix : yX2_emitPrefix.cls = RX2 ∧ yX2_emitPrefix.cls ≠ "java/lang/invoke/MethodHandle" ∧ yX2_emitPrefix.cls ≠ "java/lang/invoke/VarHandle" ∧ (parseMethodDescriptor yX2_emitPrefix.desc).map (fun d => d.parameters.length) = some 1 := by decide +kernel
theorem st96 (l : Launch) {G : rGm} {cc : ByteArray} {nL n fr lo : Nat} {ret : Option FieldType} {Qf : kQf} (hf : 2 ≤ fr) (hlo : 49 ≤ lo) : ySite gAll LAll vwCl rFo rZs rRs rNs rTs G l cc nL RX2 ret fr lo n Qf 182 134 cq103 := ys_V 1 13414 4 rc103 lo_13414 kc4 (m103 l) kGood kw1557 kw1558 kw1559 kw142 kw1551 hdV_X2_emitPrefix hf hlo
theorem hdS_X2_isConditional : yX2_isConditional.cls ≠ "java/lang/invoke/MethodHandle" ∧ yX2_isConditional.cls ≠ "java/lang/invoke/VarHandle" ∧ (parseMethodDescriptor yX2_isConditional.desc).map (fun d => d.parameters.length) = some 1 := by decide +kernel
theorem st97 (l : Launch) {G : rGm} {cc : ByteArray} {nL n fr lo : Nat} {ret : Option FieldType} {Qf : kQf} (hf : 1 ≤ fr) (hlo : 20 ≤ lo) : ySite gAll LAll vwCl rFo rZs rRs rNs rTs G l cc nL RX2 ret fr lo n Qf 184 56 cq104 := ys_S 1 rfl (m104 l) kGood kw140 kw141 kw142 kw139 hdS_X2_isConditional hf hlo
theorem hdS_J9_max_7cf53 : yJ9_max_7cf53.cls ≠ "java/lang/invoke/MethodHandle" ∧ yJ9_max_7cf53.cls ≠ "java/lang/invoke/VarHandle" ∧ (parseMethodDescriptor yJ9_max_7cf53.desc).map (fun d => d.parameters.length) = some 2 := by decide +kernel
theorem st98 (l : Launch) {G : rGm} {cc : ByteArray} {nL n fr lo : Nat} {ret : Option FieldType} {Qf : kQf} (hf : 1 ≤ fr) (hlo : 21 ≤ lo) : ySite gAll LAll vwCl rFo rZs rRs rNs rTs G l cc nL RX2 ret fr lo n Qf 184 140 cq105 := ys_S 2 rfl (m105 l) kGood kw1560 kw602 kw286 kw603 hdS_J9_max_7cf53 hf hlo
theorem hdV_X2_emitForm : yX2_emitForm.cls = RX2 ∧ yX2_emitForm.cls ≠ "java/lang/invoke/MethodHandle" ∧ yX2_emitForm.cls ≠ "java/lang/invoke/VarHandle" ∧ (parseMethodDescriptor yX2_emitForm.desc).map (fun d => d.parameters.length) = some 2 := by decide +kernel
theorem st99 (l : Launch) {G : rGm} {cc : ByteArray} {nL n fr lo : Nat} {ret : Option FieldType} {Qf : kQf} (hf : 2 ≤ fr) (hlo : 50 ≤ lo) : ySite gAll LAll vwCl rFo rZs rRs rNs rTs G l cc nL RX2 ret fr lo n Qf 182 146 cq101 := ys_V 2 13414 4 rc101 lo_13414 kc4 (m101 l) kGood kw1561 kw1562 kw1563 kw142 kw1542 hdV_X2_emitForm hf hlo
def mt106 : yMt := ([(182, (131, 0)), (182, (134, 1)), (184, (56, 2)), (184, (140, 3)), (182, (146, 4)), (182, (152, 5))], ([], ([], [])))
theorem rc106 : yRc cq106 13414 1 = true := by decide +kernel
theorem yr106 : yRun gAll t106 b106 cq106 := yRun_p (cuts := u106) (fuel := 300) gAll_tag ruI2_RtI ruJ2_RtJ rqL_ok ⟨zsm_e _ z106_s, List.forall_mem_cons.mpr ⟨zsm_e _ z106_0, yA_n⟩⟩
theorem zw106 : zwid cq106.2.1.1 cq106.1 0 7 = true := by decide +kernel
set_option maxRecDepth 100000 in
theorem yw106 : yRows gAll LAll yt3 mt106 gHo 7 0 (zby cX2_emit) p106 b106 p106 = true := by decide +kernel
set_option maxRecDepth 100000 in
theorem m106 (l : Launch) : kMet gAll LAll vwCl rFo rZs rRs rNs rTs l yX2_emit cX2_emit 7 none 2 50 cq106 := kmet_y2 (rt := 0) (by decide +kernel) yr106 zw106 rfl yw106 LAll_ok LAll_la yt3_ok gHo_ok rfl (fun G n Qf => List.forall_mem_cons.mpr ⟨⟨cq99, rfl, st93 l (by decide) (by decide)⟩, List.forall_mem_cons.mpr ⟨⟨cq103, rfl, st96 l (by decide) (by decide)⟩, List.forall_mem_cons.mpr ⟨⟨cq104, rfl, st97 l (by decide) (by decide)⟩, List.forall_mem_cons.mpr ⟨⟨cq105, rfl, st98 l (by decide) (by decide)⟩, List.forall_mem_cons.mpr ⟨⟨cq101, rfl, st99 l (by decide) (by decide)⟩, List.forall_mem_cons.mpr ⟨⟨cq100, rfl, st94 l (by decide) (by decide)⟩, yA_n⟩⟩⟩⟩⟩⟩) rfl (fun G n Rr => yA_n) rfl
/-! 107 Instruction.numberFits@x.assembler.instruction (I)Z -/
set_option maxRecDepth 100000 in
theorem w107_0 : decode cX2_numberFits 40 = .ok (.tableswitch 125 1 4 #[32, 53, 79, 105], 32) := by decide +kernel
def mt107 : yMt := ([], ([], ([(40, (3, (0, (28, (0, [(1, 10), (2, 14), (3, 19), (4, 24)])))))], [])))
theorem rc107 : yRc cq107 13414 1 = true := by decide +kernel
theorem yr107 : yRun gAll t107 b107 cq107 := yRun_z gAll_tag ruI2_RtI ruJ2_RtJ rqL_ok z107
theorem zw107 : zwid cq107.2.1.1 cq107.1 0 2 = true := by decide +kernel
set_option maxRecDepth 100000 in
theorem yw107 : yRows gAll LAll yt3 mt107 gHo 2 3 (zby cX2_numberFits) p107 b107 p107 = true := by decide +kernel
set_option maxRecDepth 100000 in
theorem m107 (l : Launch) : kMet gAll LAll vwCl rFo rZs rRs rNs rTs l yX2_numberFits cX2_numberFits 2 (some .boolean) 0 0 cq107 := kmet_y2 (rt := 3) (by decide +kernel) yr107 zw107 rfl yw107 LAll_ok LAll_la yt3_ok gHo_ok rfl (fun G n Qf => yA_n) rfl (fun G n Rr => List.forall_mem_cons.mpr ⟨k_table _ p107 (fun b t hb ls st s h => kV_at hb h) w107_0 (by decide +kernel) (by decide +kernel) rfl rfl, yA_n⟩) rfl
/-! 108 Instruction.sizeFits@x.assembler.instruction (I)Z -/
def mt108 : yMt := ([], ([], ([], [])))
theorem rc108 : yRc cq108 13414 1 = true := by decide +kernel
theorem yr108 : yRun gAll t108 b108 cq108 := yRun_z gAll_tag ruI2_RtI ruJ2_RtJ rqL_ok z108
theorem zw108 : zwid cq108.2.1.1 cq108.1 0 2 = true := by decide +kernel
set_option maxRecDepth 100000 in
theorem yw108 : yRows gAll LAll yt3 mt108 gHo 2 3 (zby cX2_sizeFits) p108 b108 p108 = true := by decide +kernel
set_option maxRecDepth 100000 in
theorem m108 (l : Launch) : kMet gAll LAll vwCl rFo rZs rRs rNs rTs l yX2_sizeFits cX2_sizeFits 2 (some .boolean) 0 0 cq108 := kmet_y2 (rt := 3) (by decide +kernel) yr108 zw108 rfl yw108 LAll_ok LAll_la yt3_ok gHo_ok rfl (fun G n Qf => yA_n) rfl (fun G n Rr => yA_n) rfl
/-! 109 Instruction.matches@x.assembler.instruction (I)Z -/
theorem hdV_X2_sizeFits : yX2_sizeFits.cls = RX2 ∧ yX2_sizeFits.cls ≠ "java/lang/invoke/MethodHandle" ∧ yX2_sizeFits.cls ≠ "java/lang/invoke/VarHandle" ∧ (parseMethodDescriptor yX2_sizeFits.desc).map (fun d => d.parameters.length) = some 1 := by decide +kernel
theorem st100 (l : Launch) {G : rGm} {cc : ByteArray} {nL n fr lo : Nat} {ret : Option FieldType} {Qf : kQf} (hf : 1 ≤ fr) (hlo : 21 ≤ lo) : ySite gAll LAll vwCl rFo rZs rRs rNs rTs G l cc nL RX2 ret fr lo n Qf 182 96 cq108 := ys_V 1 13414 4 rc108 lo_13414 kc4 (m108 l) kGood kw1574 kw1575 kw1576 kw142 kw1587 hdV_X2_sizeFits hf hlo
theorem hdV_X2_numberFits : yX2_numberFits.cls = RX2 ∧ yX2_numberFits.cls ≠ "java/lang/invoke/MethodHandle" ∧ yX2_numberFits.cls ≠ "java/lang/invoke/VarHandle" ∧ (parseMethodDescriptor yX2_numberFits.desc).map (fun d => d.parameters.length) = some 1 := by decide +kernel
theorem st101 (l : Launch) {G : rGm} {cc : ByteArray} {nL n fr lo : Nat} {ret : Option FieldType} {Qf : kQf} (hf : 1 ≤ fr) (hlo : 21 ≤ lo) : ySite gAll LAll vwCl rFo rZs rRs rNs rTs G l cc nL RX2 ret fr lo n Qf 182 108 cq107 := ys_V 1 13414 4 rc107 lo_13414 kc4 (m107 l) kGood kw1577 kw1578 kw1579 kw142 kw1582 hdV_X2_numberFits hf hlo
set_option maxRecDepth 100000 in
theorem w109_0 : decode cX2_matches 169 = .ok (.lookupswitch 108 #[(3, 35), (10, 60), (11, 92)], 35) := by decide +kernel
def mt109 : yMt := ([(182, (96, 0)), (182, (108, 1))], ([], ([(169, (3, (0, (33, (0, [(3, 18), (10, 23), (11, 29)])))))], [])))
theorem rc109 : yRc cq109 13414 1 = true := by decide +kernel
theorem yr109 : yRun gAll t109 b109 cq109 := yRun_p (cuts := u109) (fuel := 300) gAll_tag ruI2_RtI ruJ2_RtJ rqL_ok ⟨zsm_e _ z109_s, List.forall_mem_cons.mpr ⟨zsm_e _ z109_0, List.forall_mem_cons.mpr ⟨zsm_e _ z109_1, yA_n⟩⟩⟩
theorem zw109 : zwid cq109.2.1.1 cq109.1 0 7 = true := by decide +kernel
set_option maxRecDepth 100000 in
theorem yw109 : yRows gAll LAll yt3 mt109 gHo 7 3 (zby cX2_matches) p109 b109 p109 = true := by decide +kernel
set_option maxRecDepth 100000 in
theorem m109 (l : Launch) : kMet gAll LAll vwCl rFo rZs rRs rNs rTs l yX2_matches cX2_matches 7 (some .boolean) 1 21 cq109 := kmet_y2 (rt := 3) (by decide +kernel) yr109 zw109 rfl yw109 LAll_ok LAll_la yt3_ok gHo_ok rfl (fun G n Qf => List.forall_mem_cons.mpr ⟨⟨cq108, rfl, st100 l (by decide) (by decide)⟩, List.forall_mem_cons.mpr ⟨⟨cq107, rfl, st101 l (by decide) (by decide)⟩, yA_n⟩⟩) rfl (fun G n Rr => List.forall_mem_cons.mpr ⟨k_look _ p109 (fun b t hb ls st s h => kV_at hb h) w109_0 (by decide +kernel) (by decide +kernel) rfl rfl, yA_n⟩) rfl
/-! 110 Instruction.encode@x.assembler.instruction ()Z -/
theorem hdV_X2_matches : yX2_matches.cls = RX2 ∧ yX2_matches.cls ≠ "java/lang/invoke/MethodHandle" ∧ yX2_matches.cls ≠ "java/lang/invoke/VarHandle" ∧ (parseMethodDescriptor yX2_matches.desc).map (fun d => d.parameters.length) = some 1 := by decide +kernel
theorem st102 (l : Launch) {G : rGm} {cc : ByteArray} {nL n fr lo : Nat} {ret : Option FieldType} {Qf : kQf} (hf : 2 ≤ fr) (hlo : 47 ≤ lo) : ySite gAll LAll vwCl rFo rZs rRs rNs rTs G l cc nL RX2 ret fr lo n Qf 182 84 cq109 := ys_V 1 13414 4 rc109 lo_13414 kc4 (m109 l) kGood kw1566 kw1567 kw1568 kw142 kw1573 hdV_X2_matches hf hlo
theorem hdV_X2_emit : yX2_emit.cls = RX2 ∧ yX2_emit.cls ≠ "java/lang/invoke/MethodHandle" ∧ yX2_emit.cls ≠ "java/lang/invoke/VarHandle" ∧ (parseMethodDescriptor yX2_emit.desc).map (fun d => d.parameters.length) = some 1 := by decide +kernel
theorem st103 (l : Launch) {G : rGm} {cc : ByteArray} {nL n fr lo : Nat} {ret : Option FieldType} {Qf : kQf} (hf : 3 ≤ fr) (hlo : 76 ≤ lo) : ySite gAll LAll vwCl rFo rZs rRs rNs rTs G l cc nL RX2 ret fr lo n Qf 182 87 cq106 := ys_V 1 13414 4 rc106 lo_13414 kc4 (m106 l) kGood kw1569 kw1570 kw1571 kw142 kw1555 hdV_X2_emit hf hlo
def mt110 : yMt := ([(182, (84, 0)), (182, (87, 1))], ([], ([], [])))
theorem rc110 : yRc cq110 13414 0 = true := by decide +kernel
theorem yr110 : yRun gAll t110 b110 cq110 := yRun_p (cuts := u110) (fuel := 300) gAll_tag ruI2_RtI ruJ2_RtJ rqL_ok ⟨zsm_e _ z110_s, List.forall_mem_cons.mpr ⟨zsm_e _ z110_0, yA_n⟩⟩
theorem zw110 : zwid cq110.2.1.1 cq110.1 0 4 = true := by decide +kernel
set_option maxRecDepth 100000 in
theorem yw110 : yRows gAll LAll yt3 mt110 gHo 4 3 (zby cX2_encode) p110 b110 p110 = true := by decide +kernel
set_option maxRecDepth 100000 in
theorem m110 (l : Launch) : kMet gAll LAll vwCl rFo rZs rRs rNs rTs l yX2_encode cX2_encode 4 (some .boolean) 3 76 cq110 := kmet_y2 (rt := 3) (by decide +kernel) yr110 zw110 rfl yw110 LAll_ok LAll_la yt3_ok gHo_ok rfl (fun G n Qf => List.forall_mem_cons.mpr ⟨⟨cq109, rfl, st102 l (by decide) (by decide)⟩, List.forall_mem_cons.mpr ⟨⟨cq106, rfl, st103 l (by decide) (by decide)⟩, yA_n⟩⟩) rfl (fun G n Rr => yA_n) rfl
/-! 111 Assembler.instruction ()V -/
theorem hdV_X0_settleSize : yX0_settleSize.cls = RX0 ∧ yX0_settleSize.cls ≠ "java/lang/invoke/MethodHandle" ∧ yX0_settleSize.cls ≠ "java/lang/invoke/VarHandle" ∧ (parseMethodDescriptor yX0_settleSize.desc).map (fun d => d.parameters.length) = some 0 := by decide +kernel
theorem st104 (l : Launch) {G : rGm} {cc : ByteArray} {nL n fr lo : Nat} {ret : Option FieldType} {Qf : kQf} (hf : 1 ≤ fr) (hlo : 26 ≤ lo) : ySite gAll LAll vwCl rFo rZs rRs rNs rTs G l cc nL RX0 ret fr lo n Qf 182 455 cq97 := ys_V 0 13364 2 rc97 lo_13364 kc2 (m97 l) kGood kw1316 kw1317 kw1318 kw249 kw1401 hdV_X0_settleSize hf hlo
theorem hdV_X0_jump : yX0_jump.cls = RX0 ∧ yX0_jump.cls ≠ "java/lang/invoke/MethodHandle" ∧ yX0_jump.cls ≠ "java/lang/invoke/VarHandle" ∧ (parseMethodDescriptor yX0_jump.desc).map (fun d => d.parameters.length) = some 0 := by decide +kernel
theorem st105 (l : Launch) {G : rGm} {cc : ByteArray} {nL n fr lo : Nat} {ret : Option FieldType} {Qf : kQf} (hf : 4 ≤ fr) (hlo : 86 ≤ lo) : ySite gAll LAll vwCl rFo rZs rRs rNs rTs G l cc nL RX0 ret fr lo n Qf 182 458 cq95 := ys_V 0 13364 2 rc95 lo_13364 kc2 (m95 l) kGood kw1321 kw1322 kw1323 kw249 kw1346 hdV_X0_jump hf hlo
theorem hdV_X2_beProduct : yX2_beProduct.cls = RX2 ∧ yX2_beProduct.cls ≠ "java/lang/invoke/MethodHandle" ∧ yX2_beProduct.cls ≠ "java/lang/invoke/VarHandle" ∧ (parseMethodDescriptor yX2_beProduct.desc).map (fun d => d.parameters.length) = some 0 := by decide +kernel
theorem st106 (l : Launch) {G : rGm} {cc : ByteArray} {nL n fr lo : Nat} {ret : Option FieldType} {Qf : kQf} (hf : 1 ≤ fr) (hlo : 20 ≤ lo) : ySite gAll LAll vwCl rFo rZs rRs rNs rTs G l cc nL RX0 ret fr lo n Qf 182 461 cq98 := ys_V 0 13414 4 rc98 lo_13414 kc4 (m98 l) kGood kw1324 kw1325 kw1326 kw142 kw1512 hdV_X2_beProduct hf hlo
theorem hdV_X0_settleNumber : yX0_settleNumber.cls = RX0 ∧ yX0_settleNumber.cls ≠ "java/lang/invoke/MethodHandle" ∧ yX0_settleNumber.cls ≠ "java/lang/invoke/VarHandle" ∧ (parseMethodDescriptor yX0_settleNumber.desc).map (fun d => d.parameters.length) = some 1 := by decide +kernel
theorem st107 (l : Launch) {G : rGm} {cc : ByteArray} {nL n fr lo : Nat} {ret : Option FieldType} {Qf : kQf} (hf : 1 ≤ fr) (hlo : 23 ≤ lo) : ySite gAll LAll vwCl rFo rZs rRs rNs rTs G l cc nL RX0 ret fr lo n Qf 182 464 cq96 := ys_V 1 13364 2 rc96 lo_13364 kc2 (m96 l) kGood kw1327 kw1328 kw1329 kw249 kw1395 hdV_X0_settleNumber hf hlo
theorem hdV_X2_encode : yX2_encode.cls = RX2 ∧ yX2_encode.cls ≠ "java/lang/invoke/MethodHandle" ∧ yX2_encode.cls ≠ "java/lang/invoke/VarHandle" ∧ (parseMethodDescriptor yX2_encode.desc).map (fun d => d.parameters.length) = some 0 := by decide +kernel
theorem st108 (l : Launch) {G : rGm} {cc : ByteArray} {nL n fr lo : Nat} {ret : Option FieldType} {Qf : kQf} (hf : 4 ≤ fr) (hlo : 99 ≤ lo) : ySite gAll LAll vwCl rFo rZs rRs rNs rTs G l cc nL RX0 ret fr lo n Qf 182 467 cq110 := ys_V 0 13414 4 rc110 lo_13414 kc4 (m110 l) kGood kw1330 kw1331 kw1332 kw142 kw1565 hdV_X2_encode hf hlo
theorem hdV_X0_code : yX0_code.cls = RX0 ∧ yX0_code.cls ≠ "java/lang/invoke/MethodHandle" ∧ yX0_code.cls ≠ "java/lang/invoke/VarHandle" ∧ (parseMethodDescriptor yX0_code.desc).map (fun d => d.parameters.length) = some 0 := by decide +kernel
theorem st109 (l : Launch) {G : rGm} {cc : ByteArray} {nL n fr lo : Nat} {ret : Option FieldType} {Qf : kQf} (hf : 4 ≤ fr) (hlo : 88 ≤ lo) : ySite gAll LAll vwCl rFo rZs rRs rNs rTs G l cc nL RX0 ret fr lo n Qf 182 473 cq94 := ys_V 0 13364 2 rc94 lo_13364 kc2 (m94 l) kGood kw1333 kw1334 kw1335 kw249 kw1243 hdV_X0_code hf hlo
def mt111 : yMt := ([(182, (96, 0)), (182, (455, 1)), (182, (88, 2)), (182, (458, 3)), (182, (461, 4)), (182, (464, 5)), (182, (467, 6)), (182, (473, 7))], ([], ([], [])))
theorem rc111 : yRc cq111 13364 0 = true := by decide +kernel
theorem yr111 : yRun gAll t111 b111 cq111 := yRun_p (cuts := u111) (fuel := 300) gAll_tag ruI2_RtI ruJ2_RtJ rqL_ok ⟨zsm_e _ z111_s, List.forall_mem_cons.mpr ⟨zsm_e _ z111_0, yA_n⟩⟩
theorem zw111 : zwid cq111.2.1.1 cq111.1 0 3 = true := by decide +kernel
set_option maxRecDepth 100000 in
theorem yw111 : yRows gAll LAll yt1 mt111 gHo 3 0 (zby cX0_instruction) p111 b111 p111 = true := by decide +kernel
set_option maxRecDepth 100000 in
theorem m111 (l : Launch) : kMet gAll LAll vwCl rFo rZs rRs rNs rTs l yX0_instruction cX0_instruction 3 none 4 99 cq111 := kmet_y2 (rt := 0) (by decide +kernel) yr111 zw111 rfl yw111 LAll_ok LAll_la yt1_ok gHo_ok rfl (fun G n Qf => List.forall_mem_cons.mpr ⟨⟨cq68, rfl, st71 l (by decide) (by decide)⟩, List.forall_mem_cons.mpr ⟨⟨cq97, rfl, st104 l (by decide) (by decide)⟩, List.forall_mem_cons.mpr ⟨⟨cq9, rfl, st27 l (by decide) (by decide)⟩, List.forall_mem_cons.mpr ⟨⟨cq95, rfl, st105 l (by decide) (by decide)⟩, List.forall_mem_cons.mpr ⟨⟨cq98, rfl, st106 l (by decide) (by decide)⟩, List.forall_mem_cons.mpr ⟨⟨cq96, rfl, st107 l (by decide) (by decide)⟩, List.forall_mem_cons.mpr ⟨⟨cq110, rfl, st108 l (by decide) (by decide)⟩, List.forall_mem_cons.mpr ⟨⟨cq94, rfl, st109 l (by decide) (by decide)⟩, yA_n⟩⟩⟩⟩⟩⟩⟩⟩) rfl (fun G n Rr => yA_n) rfl
/-! 112 Instruction.endAddress@x.assembler.instruction ()Z -/
def mt112 : yMt := ([], ([], ([], [])))
theorem rc112 : yRc cq112 13414 0 = true := by decide +kernel
theorem yr112 : yRun gAll t112 b112 cq112 := yRun_z gAll_tag ruI2_RtI ruJ2_RtJ rqL_ok z112
theorem zw112 : zwid cq112.2.1.1 cq112.1 0 1 = true := by decide +kernel
set_option maxRecDepth 100000 in
theorem yw112 : yRows gAll LAll yt3 mt112 gHo 1 3 (zby cX2_endAddress) p112 b112 p112 = true := by decide +kernel
set_option maxRecDepth 100000 in
theorem m112 (l : Launch) : kMet gAll LAll vwCl rFo rZs rRs rNs rTs l yX2_endAddress cX2_endAddress 1 (some .boolean) 0 0 cq112 := kmet_y2 (rt := 3) (by decide +kernel) yr112 zw112 rfl yw112 LAll_ok LAll_la yt3_ok gHo_ok rfl (fun G n Qf => yA_n) rfl (fun G n Rr => yA_n) rfl
/-! 113 Assembler.memoryOperand (I)Z -/
theorem hdV_X2_endAddress : yX2_endAddress.cls = RX2 ∧ yX2_endAddress.cls ≠ "java/lang/invoke/MethodHandle" ∧ yX2_endAddress.cls ≠ "java/lang/invoke/VarHandle" ∧ (parseMethodDescriptor yX2_endAddress.desc).map (fun d => d.parameters.length) = some 0 := by decide +kernel
theorem st110 (l : Launch) {G : rGm} {cc : ByteArray} {nL n fr lo : Nat} {ret : Option FieldType} {Qf : kQf} (hf : 1 ≤ fr) (hlo : 20 ≤ lo) : ySite gAll LAll vwCl rFo rZs rRs rNs rTs G l cc nL RX0 ret fr lo n Qf 182 440 cq112 := ys_V 0 13414 4 rc112 lo_13414 kc4 (m112 l) kGood kw1356 kw1357 kw1358 kw142 kw1572 hdV_X2_endAddress hf hlo
def mt113 : yMt := ([(182, (440, 0)), (182, (290, 1))], ([], ([], [])))
theorem rc113 : yRc cq113 13364 1 = true := by decide +kernel
theorem yr113 : yRun gAll t113 b113 cq113 := yRun_z gAll_tag ruI2_RtI ruJ2_RtJ rqL_ok z113
theorem zw113 : zwid cq113.2.1.1 cq113.1 0 2 = true := by decide +kernel
set_option maxRecDepth 100000 in
theorem yw113 : yRows gAll LAll yt1 mt113 gHo 2 3 (zby cX0_memoryOperand) p113 b113 p113 = true := by decide +kernel
set_option maxRecDepth 100000 in
theorem m113 (l : Launch) : kMet gAll LAll vwCl rFo rZs rRs rNs rTs l yX0_memoryOperand cX0_memoryOperand 2 (some .boolean) 2 41 cq113 := kmet_y2 (rt := 3) (by decide +kernel) yr113 zw113 rfl yw113 LAll_ok LAll_la yt1_ok gHo_ok rfl (fun G n Qf => List.forall_mem_cons.mpr ⟨⟨cq112, rfl, st110 l (by decide) (by decide)⟩, List.forall_mem_cons.mpr ⟨⟨cq67, rfl, st70 l (by decide) (by decide)⟩, yA_n⟩⟩) rfl (fun G n Rr => yA_n) rfl
/-! 114 Assembler.numberOperand (I)Z -/
def mt114 : yMt := ([(182, (286, 0)), (182, (290, 1))], ([], ([], [])))
theorem rc114 : yRc cq114 13364 1 = true := by decide +kernel
theorem yr114 : yRun gAll t114 b114 cq114 := yRun_z gAll_tag ruI2_RtI ruJ2_RtJ rqL_ok z114
theorem zw114 : zwid cq114.2.1.1 cq114.1 0 2 = true := by decide +kernel
set_option maxRecDepth 100000 in
theorem yw114 : yRows gAll LAll yt1 mt114 gHo 2 3 (zby cX0_numberOperand) p114 b114 p114 = true := by decide +kernel
set_option maxRecDepth 100000 in
theorem m114 (l : Launch) : kMet gAll LAll vwCl rFo rZs rRs rNs rTs l yX0_numberOperand cX0_numberOperand 2 (some .boolean) 4 105 cq114 := kmet_y2 (rt := 3) (by decide +kernel) yr114 zw114 rfl yw114 LAll_ok LAll_la yt1_ok gHo_ok rfl (fun G n Qf => List.forall_mem_cons.mpr ⟨⟨cq20, rfl, st23 l (by decide) (by decide)⟩, List.forall_mem_cons.mpr ⟨⟨cq67, rfl, st70 l (by decide) (by decide)⟩, yA_n⟩⟩) rfl (fun G n Rr => yA_n) rfl
/-! 115 Assembler.registerOperand (I)Z -/
def mt115 : yMt := ([], ([], ([], [])))
theorem rc115 : yRc cq115 13364 1 = true := by decide +kernel
theorem yr115 : yRun gAll t115 b115 cq115 := yRun_z gAll_tag ruI2_RtI ruJ2_RtJ rqL_ok z115
theorem zw115 : zwid cq115.2.1.1 cq115.1 0 3 = true := by decide +kernel
set_option maxRecDepth 100000 in
theorem yw115 : yRows gAll LAll yt1 mt115 gHo 3 3 (zby cX0_registerOperand) p115 b115 p115 = true := by decide +kernel
set_option maxRecDepth 100000 in
theorem m115 (l : Launch) : kMet gAll LAll vwCl rFo rZs rRs rNs rTs l yX0_registerOperand cX0_registerOperand 3 (some .boolean) 0 0 cq115 := kmet_y2 (rt := 3) (by decide +kernel) yr115 zw115 rfl yw115 LAll_ok LAll_la yt1_ok gHo_ok rfl (fun G n Qf => yA_n) rfl (fun G n Rr => yA_n) rfl
/-! 116 Assembler.operands ()Z -/
theorem st111 (l : Launch) {G : rGm} {cc : ByteArray} {nL n fr lo : Nat} {ret : Option FieldType} {Qf : kQf} (hf : 1 ≤ fr) (hlo : 21 ≤ lo) : ySite gAll LAll vwCl rFo rZs rRs rNs rTs G l cc nL RX0 ret fr lo n Qf 184 377 cq8 := ys_S 2 rfl (m8 l) kGood kw1361 kw285 kw286 kw287 hdS_J9_min_7cf53 hf hlo
theorem hdV_X0_address : yX0_address.cls = RX0 ∧ yX0_address.cls ≠ "java/lang/invoke/MethodHandle" ∧ yX0_address.cls ≠ "java/lang/invoke/VarHandle" ∧ (parseMethodDescriptor yX0_address.desc).map (fun d => d.parameters.length) = some 0 := by decide +kernel
theorem st112 (l : Launch) {G : rGm} {cc : ByteArray} {nL n fr lo : Nat} {ret : Option FieldType} {Qf : kQf} (hf : 5 ≤ fr) (hlo : 128 ≤ lo) : ySite gAll LAll vwCl rFo rZs rRs rNs rTs G l cc nL RX0 ret fr lo n Qf 182 382 cq24 := ys_V 0 13364 2 rc24 lo_13364 kc2 (m24 l) kGood kw1362 kw1363 kw1364 kw249 kw1143 hdV_X0_address hf hlo
theorem hdV_X0_memoryOperand : yX0_memoryOperand.cls = RX0 ∧ yX0_memoryOperand.cls ≠ "java/lang/invoke/MethodHandle" ∧ yX0_memoryOperand.cls ≠ "java/lang/invoke/VarHandle" ∧ (parseMethodDescriptor yX0_memoryOperand.desc).map (fun d => d.parameters.length) = some 1 := by decide +kernel
theorem st113 (l : Launch) {G : rGm} {cc : ByteArray} {nL n fr lo : Nat} {ret : Option FieldType} {Qf : kQf} (hf : 3 ≤ fr) (hlo : 62 ≤ lo) : ySite gAll LAll vwCl rFo rZs rRs rNs rTs G l cc nL RX0 ret fr lo n Qf 182 385 cq113 := ys_V 1 13364 2 rc113 lo_13364 kc2 (m113 l) kGood kw1365 kw1366 kw1367 kw249 kw1355 hdV_X0_memoryOperand hf hlo
theorem hdV_X0_registerOperand : yX0_registerOperand.cls = RX0 ∧ yX0_registerOperand.cls ≠ "java/lang/invoke/MethodHandle" ∧ yX0_registerOperand.cls ≠ "java/lang/invoke/VarHandle" ∧ (parseMethodDescriptor yX0_registerOperand.desc).map (fun d => d.parameters.length) = some 1 := by decide +kernel
theorem st114 (l : Launch) {G : rGm} {cc : ByteArray} {nL n fr lo : Nat} {ret : Option FieldType} {Qf : kQf} (hf : 1 ≤ fr) (hlo : 22 ≤ lo) : ySite gAll LAll vwCl rFo rZs rRs rNs rTs G l cc nL RX0 ret fr lo n Qf 182 391 cq115 := ys_V 1 13364 2 rc115 lo_13364 kc2 (m115 l) kGood kw1368 kw1369 kw1370 kw249 kw1378 hdV_X0_registerOperand hf hlo
theorem hdV_X0_numberOperand : yX0_numberOperand.cls = RX0 ∧ yX0_numberOperand.cls ≠ "java/lang/invoke/MethodHandle" ∧ yX0_numberOperand.cls ≠ "java/lang/invoke/VarHandle" ∧ (parseMethodDescriptor yX0_numberOperand.desc).map (fun d => d.parameters.length) = some 1 := by decide +kernel
theorem st115 (l : Launch) {G : rGm} {cc : ByteArray} {nL n fr lo : Nat} {ret : Option FieldType} {Qf : kQf} (hf : 5 ≤ fr) (hlo : 126 ≤ lo) : ySite gAll LAll vwCl rFo rZs rRs rNs rTs G l cc nL RX0 ret fr lo n Qf 182 394 cq114 := ys_V 1 13364 2 rc114 lo_13364 kc2 (m114 l) kGood kw1371 kw1372 kw1373 kw249 kw1359 hdV_X0_numberOperand hf hlo
def mt116 : yMt := ([(182, (270, 0)), (184, (377, 1)), (182, (200, 2)), (182, (382, 3)), (182, (385, 4)), (182, (388, 5)), (182, (391, 6)), (182, (394, 7)), (182, (88, 8))], ([], ([], [])))
theorem rc116 : yRc cq116 13364 0 = true := by decide +kernel
theorem yr116 : yRun gAll t116 b116 cq116 := yRun_p (cuts := u116) (fuel := 300) gAll_tag ruI2_RtI ruJ2_RtJ rqL_ok ⟨zsm_e _ z116_s, List.forall_mem_cons.mpr ⟨zsm_e _ z116_0, List.forall_mem_cons.mpr ⟨zsm_e _ z116_1, List.forall_mem_cons.mpr ⟨zsm_e _ z116_2, List.forall_mem_cons.mpr ⟨zsm_e _ z116_3, yA_n⟩⟩⟩⟩⟩
theorem zw116 : zwid cq116.2.1.1 cq116.1 0 4 = true := by decide +kernel
set_option maxRecDepth 100000 in
theorem yw116 : yRows gAll LAll yt1 mt116 gHo 4 3 (zby cX0_operands) p116 b116 p116 = true := by decide +kernel
set_option maxRecDepth 100000 in
theorem m116 (l : Launch) : kMet gAll LAll vwCl rFo rZs rRs rNs rTs l yX0_operands cX0_operands 4 (some .boolean) 5 128 cq116 := kmet_y2 (rt := 3) (by decide +kernel) yr116 zw116 rfl yw116 LAll_ok LAll_la yt1_ok gHo_ok rfl (fun G n Qf => List.forall_mem_cons.mpr ⟨⟨cq66, rfl, st69 l (by decide) (by decide)⟩, List.forall_mem_cons.mpr ⟨⟨cq8, rfl, st111 l (by decide) (by decide)⟩, List.forall_mem_cons.mpr ⟨⟨cq22, rfl, st22 l (by decide) (by decide)⟩, List.forall_mem_cons.mpr ⟨⟨cq24, rfl, st112 l (by decide) (by decide)⟩, List.forall_mem_cons.mpr ⟨⟨cq113, rfl, st113 l (by decide) (by decide)⟩, List.forall_mem_cons.mpr ⟨⟨cq23, rfl, st24 l (by decide) (by decide)⟩, List.forall_mem_cons.mpr ⟨⟨cq115, rfl, st114 l (by decide) (by decide)⟩, List.forall_mem_cons.mpr ⟨⟨cq114, rfl, st115 l (by decide) (by decide)⟩, List.forall_mem_cons.mpr ⟨⟨cq9, rfl, st27 l (by decide) (by decide)⟩, yA_n⟩⟩⟩⟩⟩⟩⟩⟩⟩) rfl (fun G n Rr => yA_n) rfl
/-! 117 Assembler.operation ()Z -/
def mt117 : yMt := ([(182, (88, 0))], ([], ([], [])))
theorem rc117 : yRc cq117 13364 0 = true := by decide +kernel
theorem yr117 : yRun gAll t117 b117 cq117 := yRun_p (cuts := u117) (fuel := 300) gAll_tag ruI2_RtI ruJ2_RtJ rqL_ok ⟨zsm_e _ z117_s, List.forall_mem_cons.mpr ⟨zsm_e _ z117_0, yA_n⟩⟩
theorem zw117 : zwid cq117.2.1.1 cq117.1 0 3 = true := by decide +kernel
set_option maxRecDepth 100000 in
theorem yw117 : yRows gAll LAll yt1 mt117 gHo 3 3 (zby cX0_operation) p117 b117 p117 = true := by decide +kernel
set_option maxRecDepth 100000 in
theorem m117 (l : Launch) : kMet gAll LAll vwCl rFo rZs rRs rNs rTs l yX0_operation cX0_operation 3 (some .boolean) 2 42 cq117 := kmet_y2 (rt := 3) (by decide +kernel) yr117 zw117 rfl yw117 LAll_ok LAll_la yt1_ok gHo_ok rfl (fun G n Qf => List.forall_mem_cons.mpr ⟨⟨cq9, rfl, st27 l (by decide) (by decide)⟩, yA_n⟩) rfl (fun G n Rr => yA_n) rfl
/-! 118 Assembler.space ()V -/
def mt118 : yMt := ([(182, (293, 0)), (182, (88, 1)), (182, (314, 2)), (182, (193, 3))], ([], ([], [])))
theorem rc118 : yRc cq118 13364 0 = true := by decide +kernel
theorem yr118 : yRun gAll t118 b118 cq118 := yRun_z gAll_tag ruI2_RtI ruJ2_RtJ rqL_ok z118
theorem zw118 : zwid cq118.2.1.1 cq118.1 0 6 = true := by decide +kernel
set_option maxRecDepth 100000 in
theorem yw118 : yRows gAll LAll yt1 mt118 gHo 6 0 (zby cX0_space) p118 b118 p118 = true := by decide +kernel
set_option maxRecDepth 100000 in
theorem m118 (l : Launch) : kMet gAll LAll vwCl rFo rZs rRs rNs rTs l yX0_space cX0_space 6 none 5 125 cq118 := kmet_y2 (rt := 0) (by decide +kernel) yr118 zw118 rfl yw118 LAll_ok LAll_la yt1_ok gHo_ok rfl (fun G n Qf => List.forall_mem_cons.mpr ⟨⟨cq69, rfl, st80 l (by decide) (by decide)⟩, List.forall_mem_cons.mpr ⟨⟨cq9, rfl, st27 l (by decide) (by decide)⟩, List.forall_mem_cons.mpr ⟨⟨cq90, rfl, st92 l (by decide) (by decide)⟩, List.forall_mem_cons.mpr ⟨⟨cq25, rfl, st50 l (by decide) (by decide)⟩, yA_n⟩⟩⟩⟩) rfl (fun G n Rr => yA_n) rfl
/-! 119 Reader.use (I)V -/
def mt119 : yMt := ([(182, (168, 0))], ([], ([], [])))
theorem rc119 : yRc cq119 13377 1 = true := by decide +kernel
theorem yr119 : yRun gAll t119 b119 cq119 := yRun_z gAll_tag ruI2_RtI ruJ2_RtJ rqL_ok z119
theorem zw119 : zwid cq119.2.1.1 cq119.1 0 2 = true := by decide +kernel
set_option maxRecDepth 100000 in
theorem yw119 : yRows gAll LAll yt9 mt119 gHo 2 0 (zby cX8_use) p119 b119 p119 = true := by decide +kernel
set_option maxRecDepth 100000 in
theorem m119 (l : Launch) : kMet gAll LAll vwCl rFo rZs rRs rNs rTs l yX8_use cX8_use 2 none 1 24 cq119 := kmet_y2 (rt := 0) (by decide +kernel) yr119 zw119 rfl yw119 LAll_ok LAll_la yt9_ok gHo_ok rfl (fun G n Qf => List.forall_mem_cons.mpr ⟨⟨cq76, rfl, st77 l (by decide) (by decide)⟩, yA_n⟩) rfl (fun G n Rr => yA_n) rfl
/-! 120 Assembler.statement ()V -/
theorem hdV_X0_operation : yX0_operation.cls = RX0 ∧ yX0_operation.cls ≠ "java/lang/invoke/MethodHandle" ∧ yX0_operation.cls ≠ "java/lang/invoke/VarHandle" ∧ (parseMethodDescriptor yX0_operation.desc).map (fun d => d.parameters.length) = some 0 := by decide +kernel
theorem st116 (l : Launch) {G : rGm} {cc : ByteArray} {nL n fr lo : Nat} {ret : Option FieldType} {Qf : kQf} (hf : 3 ≤ fr) (hlo : 64 ≤ lo) : ySite gAll LAll vwCl rFo rZs rRs rNs rTs G l cc nL RX0 ret fr lo n Qf 182 250 cq117 := ys_V 0 13364 2 rc117 lo_13364 kc2 (m117 l) kGood kw1405 kw1406 kw1407 kw249 kw1374 hdV_X0_operation hf hlo
theorem hdV_X0_operands : yX0_operands.cls = RX0 ∧ yX0_operands.cls ≠ "java/lang/invoke/MethodHandle" ∧ yX0_operands.cls ≠ "java/lang/invoke/VarHandle" ∧ (parseMethodDescriptor yX0_operands.desc).map (fun d => d.parameters.length) = some 0 := by decide +kernel
theorem st117 (l : Launch) {G : rGm} {cc : ByteArray} {nL n fr lo : Nat} {ret : Option FieldType} {Qf : kQf} (hf : 6 ≤ fr) (hlo : 151 ≤ lo) : ySite gAll LAll vwCl rFo rZs rRs rNs rTs G l cc nL RX0 ret fr lo n Qf 182 253 cq116 := ys_V 0 13364 2 rc116 lo_13364 kc2 (m116 l) kGood kw1408 kw1409 kw1410 kw249 kw1360 hdV_X0_operands hf hlo
theorem hdV_X0_instruction : yX0_instruction.cls = RX0 ∧ yX0_instruction.cls ≠ "java/lang/invoke/MethodHandle" ∧ yX0_instruction.cls ≠ "java/lang/invoke/VarHandle" ∧ (parseMethodDescriptor yX0_instruction.desc).map (fun d => d.parameters.length) = some 0 := by decide +kernel
theorem st118 (l : Launch) {G : rGm} {cc : ByteArray} {nL n fr lo : Nat} {ret : Option FieldType} {Qf : kQf} (hf : 5 ≤ fr) (hlo : 121 ≤ lo) : ySite gAll LAll vwCl rFo rZs rRs rNs rTs G l cc nL RX0 ret fr lo n Qf 182 256 cq111 := ys_V 0 13364 2 rc111 lo_13364 kc2 (m111 l) kGood kw1411 kw1412 kw1413 kw249 kw1315 hdV_X0_instruction hf hlo
theorem hdV_X8_use : yX8_use.cls = RX8 ∧ yX8_use.cls ≠ "java/lang/invoke/MethodHandle" ∧ yX8_use.cls ≠ "java/lang/invoke/VarHandle" ∧ (parseMethodDescriptor yX8_use.desc).map (fun d => d.parameters.length) = some 1 := by decide +kernel
theorem st119 (l : Launch) {G : rGm} {cc : ByteArray} {nL n fr lo : Nat} {ret : Option FieldType} {Qf : kQf} (hf : 2 ≤ fr) (hlo : 45 ≤ lo) : ySite gAll LAll vwCl rFo rZs rRs rNs rTs G l cc nL RX0 ret fr lo n Qf 182 258 cq119 := ys_V 1 13377 10 rc119 lo_13377 kc10 (m119 l) kGood kw1414 kw1415 kw1416 kw167 kw2090 hdV_X8_use hf hlo
theorem hdV_X0_define : yX0_define.cls = RX0 ∧ yX0_define.cls ≠ "java/lang/invoke/MethodHandle" ∧ yX0_define.cls ≠ "java/lang/invoke/VarHandle" ∧ (parseMethodDescriptor yX0_define.desc).map (fun d => d.parameters.length) = some 0 := by decide +kernel
theorem st120 (l : Launch) {G : rGm} {cc : ByteArray} {nL n fr lo : Nat} {ret : Option FieldType} {Qf : kQf} (hf : 6 ≤ fr) (hlo : 146 ≤ lo) : ySite gAll LAll vwCl rFo rZs rRs rNs rTs G l cc nL RX0 ret fr lo n Qf 182 261 cq92 := ys_V 0 13364 2 rc92 lo_13364 kc2 (m92 l) kGood kw1417 kw1418 kw1419 kw249 kw1302 hdV_X0_define hf hlo
theorem hdV_X0_changeSection : yX0_changeSection.cls = RX0 ∧ yX0_changeSection.cls ≠ "java/lang/invoke/MethodHandle" ∧ yX0_changeSection.cls ≠ "java/lang/invoke/VarHandle" ∧ (parseMethodDescriptor yX0_changeSection.desc).map (fun d => d.parameters.length) = some 0 := by decide +kernel
theorem st121 (l : Launch) {G : rGm} {cc : ByteArray} {nL n fr lo : Nat} {ret : Option FieldType} {Qf : kQf} (hf : 3 ≤ fr) (hlo : 63 ≤ lo) : ySite gAll LAll vwCl rFo rZs rRs rNs rTs G l cc nL RX0 ret fr lo n Qf 182 264 cq65 := ys_V 0 13364 2 rc65 lo_13364 kc2 (m65 l) kGood kw1420 kw1421 kw1422 kw249 kw1230 hdV_X0_changeSection hf hlo
theorem hdV_X0_flag : yX0_flag.cls = RX0 ∧ yX0_flag.cls ≠ "java/lang/invoke/MethodHandle" ∧ yX0_flag.cls ≠ "java/lang/invoke/VarHandle" ∧ (parseMethodDescriptor yX0_flag.desc).map (fun d => d.parameters.length) = some 1 := by decide +kernel
theorem st122 (l : Launch) {G : rGm} {cc : ByteArray} {nL n fr lo : Nat} {ret : Option FieldType} {Qf : kQf} (hf : 4 ≤ fr) (hlo : 95 ≤ lo) : ySite gAll LAll vwCl rFo rZs rRs rNs rTs G l cc nL RX0 ret fr lo n Qf 182 267 cq93 := ys_V 1 13364 2 rc93 lo_13364 kc2 (m93 l) kGood kw1423 kw1424 kw1425 kw249 kw1314 hdV_X0_flag hf hlo
theorem hdV_X0_data : yX0_data.cls = RX0 ∧ yX0_data.cls ≠ "java/lang/invoke/MethodHandle" ∧ yX0_data.cls ≠ "java/lang/invoke/VarHandle" ∧ (parseMethodDescriptor yX0_data.desc).map (fun d => d.parameters.length) = some 1 := by decide +kernel
theorem st123 (l : Launch) {G : rGm} {cc : ByteArray} {nL n fr lo : Nat} {ret : Option FieldType} {Qf : kQf} (hf : 5 ≤ fr) (hlo : 130 ≤ lo) : ySite gAll LAll vwCl rFo rZs rRs rNs rTs G l cc nL RX0 ret fr lo n Qf 182 277 cq91 := ys_V 1 13364 2 rc91 lo_13364 kc2 (m91 l) kGood kw1428 kw1429 kw1430 kw249 kw1291 hdV_X0_data hf hlo
theorem hdV_X0_space : yX0_space.cls = RX0 ∧ yX0_space.cls ≠ "java/lang/invoke/MethodHandle" ∧ yX0_space.cls ≠ "java/lang/invoke/VarHandle" ∧ (parseMethodDescriptor yX0_space.desc).map (fun d => d.parameters.length) = some 0 := by decide +kernel
theorem st124 (l : Launch) {G : rGm} {cc : ByteArray} {nL n fr lo : Nat} {ret : Option FieldType} {Qf : kQf} (hf : 6 ≤ fr) (hlo : 150 ≤ lo) : ySite gAll LAll vwCl rFo rZs rRs rNs rTs G l cc nL RX0 ret fr lo n Qf 182 280 cq118 := ys_V 0 13364 2 rc118 lo_13364 kc2 (m118 l) kGood kw1431 kw1432 kw1433 kw249 kw1402 hdV_X0_space hf hlo
theorem hdV_X0_control : yX0_control.cls = RX0 ∧ yX0_control.cls ≠ "java/lang/invoke/MethodHandle" ∧ yX0_control.cls ≠ "java/lang/invoke/VarHandle" ∧ (parseMethodDescriptor yX0_control.desc).map (fun d => d.parameters.length) = some 0 := by decide +kernel
theorem st125 (l : Launch) {G : rGm} {cc : ByteArray} {nL n fr lo : Nat} {ret : Option FieldType} {Qf : kQf} (hf : 6 ≤ fr) (hlo : 145 ≤ lo) : ySite gAll LAll vwCl rFo rZs rRs rNs rTs G l cc nL RX0 ret fr lo n Qf 182 283 cq83 := ys_V 0 13364 2 rc83 lo_13364 kc2 (m83 l) kGood kw1434 kw1435 kw1436 kw249 kw1271 hdV_X0_control hf hlo
set_option maxRecDepth 100000 in
theorem w120_0 : decode cX0_statement 54 = .ok (.lookupswitch 230 #[(-6, 131), (-5, 117), (-2, 114), (61, 138), (62, 145), (63, 153), (64, 162), (65, 207), (66, 207), (67, 207), (68, 207), (69, 223), (70, 223)], 114) := by decide +kernel
def mt120 : yMt := ([(182, (250, 0)), (182, (253, 1)), (182, (256, 2)), (182, (258, 3)), (182, (261, 4)), (182, (264, 5)), (182, (267, 6)), (182, (270, 7)), (182, (193, 8)), (182, (277, 9)), (182, (280, 10)), (182, (283, 11))], ([], ([(54, (3, (0, (19, (0, [((-6), 9), ((-5), 8), ((-2), 7), (61, 10), (62, 11), (63, 12), (64, 13), (65, 17), (66, 17), (67, 17), (68, 17), (69, 18), (70, 18)])))))], [])))
theorem rc120 : yRc cq120 13364 0 = true := by decide +kernel
theorem yr120 : yRun gAll t120 b120 cq120 := yRun_z gAll_tag ruI2_RtI ruJ2_RtJ rqL_ok z120
theorem zw120 : zwid cq120.2.1.1 cq120.1 0 1 = true := by decide +kernel
set_option maxRecDepth 100000 in
theorem yw120 : yRows gAll LAll yt1 mt120 gHo 1 0 (zby cX0_statement) p120 b120 p120 = true := by decide +kernel
set_option maxRecDepth 100000 in
theorem m120 (l : Launch) : kMet gAll LAll vwCl rFo rZs rRs rNs rTs l yX0_statement cX0_statement 1 none 6 151 cq120 := kmet_y2 (rt := 0) (by decide +kernel) yr120 zw120 rfl yw120 LAll_ok LAll_la yt1_ok gHo_ok rfl (fun G n Qf => List.forall_mem_cons.mpr ⟨⟨cq117, rfl, st116 l (by decide) (by decide)⟩, List.forall_mem_cons.mpr ⟨⟨cq116, rfl, st117 l (by decide) (by decide)⟩, List.forall_mem_cons.mpr ⟨⟨cq111, rfl, st118 l (by decide) (by decide)⟩, List.forall_mem_cons.mpr ⟨⟨cq119, rfl, st119 l (by decide) (by decide)⟩, List.forall_mem_cons.mpr ⟨⟨cq92, rfl, st120 l (by decide) (by decide)⟩, List.forall_mem_cons.mpr ⟨⟨cq65, rfl, st121 l (by decide) (by decide)⟩, List.forall_mem_cons.mpr ⟨⟨cq93, rfl, st122 l (by decide) (by decide)⟩, List.forall_mem_cons.mpr ⟨⟨cq66, rfl, st69 l (by decide) (by decide)⟩, List.forall_mem_cons.mpr ⟨⟨cq25, rfl, st50 l (by decide) (by decide)⟩, List.forall_mem_cons.mpr ⟨⟨cq91, rfl, st123 l (by decide) (by decide)⟩, List.forall_mem_cons.mpr ⟨⟨cq118, rfl, st124 l (by decide) (by decide)⟩, List.forall_mem_cons.mpr ⟨⟨cq83, rfl, st125 l (by decide) (by decide)⟩, yA_n⟩⟩⟩⟩⟩⟩⟩⟩⟩⟩⟩⟩) rfl (fun G n Rr => List.forall_mem_cons.mpr ⟨k_look _ p120 (fun b t hb ls st s h => kV_at hb h) w120_0 (by decide +kernel) (by decide +kernel) rfl rfl, yA_n⟩) rfl
/-! 121 Line.isDigit (I)Z -/
def mt121 : yMt := ([], ([], ([], [])))
def fp_Line_isDigit : List Nat := []
theorem ag_Line_isDigit {s s' : qSg} (hB : ∀ b ∈ fp_Line_isDigit, AgB gDet s s' b) (as : List qV) : dm_Line_isDigit as s = dm_Line_isDigit as s' := by
  unfold dm_Line_isDigit
  show zRun gDet (dk_Line_isDigit s') s dc_Line_isDigit as = zRun gDet (dk_Line_isDigit s') s' dc_Line_isDigit as
  exact zRun_ag gd_ok.P hB (show dc_Line_isDigit.all (fun x => x.1.all (okF gDet fp_Line_isDigit)) = true by decide +kernel) as
set_option maxHeartbeats 4000000 in
theorem he_Line_isDigit (s : qSg) : ∀ as r a v, CtBeg gAll d121 as s r a → Typed gAll s → dm_Line_isDigit (as.map cnV) s = some v → dEv 1171 (([] : List Nat).map a) (([(0, [(0, 1)])] : List qL).map (qe r)) = some v.2 := by
  intro as r a v hB hT e
  obtain ⟨hlen, ls, hsub, hsat⟩ := hB
  obtain ⟨hls, -, hsc, hav, -⟩ := hsat.now
  have hlen : as.length = 1 := hlen
  match as, hlen with
  | [w0], _ =>
    have x0 := hsub (0, ((0 : Nat), qe r ((0, [(0, 1)]) : qL))) (by rw [hls]; exact List.mem_cons_self)
    cases lsArgs_hd (x0)
    have e1 : dm_Line_isDigit [((0 : Nat), qe r ((0, [(0, 1)]) : qL))] s = some v := by
      unfold dm_Line_isDigit at e ⊢
      rw [zRun_cn (map_cn _)] at e
      exact e
    have e2 := ag_Line_isDigit (s := s) (s' := dSto [] []) (fun b hb => by
      cases hb) [((0 : Nat), qe r ((0, [(0, 1)]) : qL))]
    rw [e2] at e1
    exact congrArg (fun o => o.map (fun v => v.2)) e1
theorem hd_Line_isDigit : ∀ s, Typed gAll s → HC gAll t121 (dk_Line_isDigit s) s := by
  intro s hT j C hC
  match j, hC with
  | j + 0, hC => cases (show none = some C from hC)
set_option maxHeartbeats 4000000 in
theorem dC_Line_isDigit (s : qSg) (hT : Typed gAll s) : DetC gAll cq121 s (fun as => dm_Line_isDigit as s) := detC_of (p := 1171) (t := 0) (vs := []) (zi := [(0, [(0, 1)])]) (Cd := d121) rfl rfl rfl (⟨⟨_, rfl, ⟨_, rfl, (fun z hz => by
    rcases List.mem_cons.mp hz with rfl | hz
    · exact Or.inr rfl
    cases hz), List.mem_cons_self⟩, Nat.le_of_ble_eq_true rfl, Nat.le_of_ble_eq_true rfl⟩, ⟨⟨_, rfl, ⟨_, rfl, (fun z hz => by
    rcases List.mem_cons.mp hz with rfl | hz
    · exact Or.inr rfl
    cases hz), List.mem_cons_self⟩, Nat.le_of_ble_eq_true rfl, Nat.le_of_ble_eq_true rfl⟩, trivial⟩⟩) (by decide) (by decide +kernel) (by decide +kernel)
  (fun fs zs z h1 h2 => by
    rw [PQ_c (show fTab[1171]? = none by decide +kernel)]
    match fs, zs, h1, h2 with
    | [], [z0], _, _ => exact Iff.rfl) (yDet_b gAll_tag z121 gd_ok (by decide +kernel) (eqCd_ok (by decide +kernel)) hd_Line_isDigit s) (he_Line_isDigit s)
theorem yr121 : yRun gAll t121 b121 cq121 := yRun_d (dc := dc_Line_isDigit) (cl := dk_Line_isDigit) gAll_tag z121 gd_ok (by decide +kernel) (eqCd_ok (by decide +kernel)) hd_Line_isDigit rfl rfl (fun s hT => dC_Line_isDigit s hT)
theorem zw121 : zwid cq121.2.1.1 cq121.1 0 1 = true := by decide +kernel
set_option maxRecDepth 100000 in
theorem yw121 : yRows gAll LAll yt4 mt121 gHo 1 3 (zby cX3_isDigit) p121 b121 p121 = true := by decide +kernel
set_option maxRecDepth 100000 in
theorem m121 (l : Launch) : kMet gAll LAll vwCl rFo rZs rRs rNs rTs l yX3_isDigit cX3_isDigit 1 (some .boolean) 0 0 cq121 := kmet_y2 (rt := 3) (by decide +kernel) yr121 zw121 rfl yw121 LAll_ok LAll_la yt4_ok gHo_ok rfl (fun G n Qf => yA_n) rfl (fun G n Rr => yA_n) rfl
