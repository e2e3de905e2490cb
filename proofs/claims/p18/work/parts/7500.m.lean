/-! METHODS, CALLEES FIRST (written by wip/p2/genmeth.py) -/
/-! 0 Instruction.addIndex@x.assembler.instruction (II)V -/
def mt0 : yMt := ([], ([], ([], [])))
theorem rc0 : yRc cq0 13414 2 = true := by decide +kernel
theorem yr0 : yRun gAll t0 b0 cq0 := yRun_z gAll_tag ruI2_RtI ruJ2_RtJ rqL_ok z0
theorem zw0 : zwid cq0.2.1.1 cq0.1 0 3 = true := by decide +kernel
set_option maxRecDepth 100000 in
theorem yw0 : yRows gAll LAll yt3 mt0 gHo 3 0 (zby cX2_addIndex) p0 b0 p0 = true := by decide +kernel
set_option maxRecDepth 100000 in
theorem m0 (l : Launch) : kMet gAll LAll vwCl rFo rZs rRs rNs rTs l yX2_addIndex cX2_addIndex 3 none 0 0 cq0 := kmet_y2 (rt := 0) (by decide +kernel) yr0 zw0 rfl yw0 LAll_ok LAll_la yt3_ok gHo_ok rfl (fun G n Qf => yA_n) rfl (fun G n Rr => yA_n) rfl
/-! 1 Instruction.addRegister@x.assembler.instruction (I)V -/
theorem hdV_X2_addIndex : yX2_addIndex.cls = RX2 ∧ yX2_addIndex.cls ≠ "java/lang/invoke/MethodHandle" ∧ yX2_addIndex.cls ≠ "java/lang/invoke/VarHandle" ∧ (parseMethodDescriptor yX2_addIndex.desc).map (fun d => d.parameters.length) = some 2 := by decide +kernel
theorem st0 (l : Launch) {G : rGm} {cc : ByteArray} {nL n fr lo : Nat} {ret : Option FieldType} {Qf : kQf} (hf : 1 ≤ fr) (hlo : 22 ≤ lo) : ySite gAll LAll vwCl rFo rZs rRs rNs rTs G l cc nL RX2 ret fr lo n Qf 182 74 cq0 := ys_V 2 13414 4 rc0 lo_13414 kc4 (m0 l) kGood kw1511 kw1388 kw1389 kw142 kw1505 hdV_X2_addIndex hf hlo
def mt1 : yMt := ([(182, (74, 0))], ([], ([], [])))
theorem rc1 : yRc cq1 13414 1 = true := by decide +kernel
theorem yr1 : yRun gAll t1 b1 cq1 := yRun_z gAll_tag ruI2_RtI ruJ2_RtJ rqL_ok z1
theorem zw1 : zwid cq1.2.1.1 cq1.1 0 2 = true := by decide +kernel
set_option maxRecDepth 100000 in
theorem yw1 : yRows gAll LAll yt3 mt1 gHo 2 0 (zby cX2_addRegister) p1 b1 p1 = true := by decide +kernel
set_option maxRecDepth 100000 in
theorem m1 (l : Launch) : kMet gAll LAll vwCl rFo rZs rRs rNs rTs l yX2_addRegister cX2_addRegister 2 none 1 22 cq1 := kmet_y2 (rt := 0) (by decide +kernel) yr1 zw1 rfl yw1 LAll_ok LAll_la yt3_ok gHo_ok rfl (fun G n Qf => List.forall_mem_cons.mpr ⟨⟨cq0, rfl, st0 l (by decide) (by decide)⟩, yA_n⟩) rfl (fun G n Rr => yA_n) rfl
/-! 2 Assembler.registerTerm ()Z -/
theorem hdV_X2_addRegister : yX2_addRegister.cls = RX2 ∧ yX2_addRegister.cls ≠ "java/lang/invoke/MethodHandle" ∧ yX2_addRegister.cls ≠ "java/lang/invoke/VarHandle" ∧ (parseMethodDescriptor yX2_addRegister.desc).map (fun d => d.parameters.length) = some 1 := by decide +kernel
theorem st1 (l : Launch) {G : rGm} {cc : ByteArray} {nL n fr lo : Nat} {ret : Option FieldType} {Qf : kQf} (hf : 2 ≤ fr) (hlo : 43 ≤ lo) : ySite gAll LAll vwCl rFo rZs rRs rNs rTs G l cc nL RX0 ret fr lo n Qf 182 428 cq1 := ys_V 1 13414 4 rc1 lo_13414 kc4 (m1 l) kGood kw1381 kw1382 kw1383 kw142 kw1509 hdV_X2_addRegister hf hlo
theorem st2 (l : Launch) {G : rGm} {cc : ByteArray} {nL n fr lo : Nat} {ret : Option FieldType} {Qf : kQf} (hf : 1 ≤ fr) (hlo : 22 ≤ lo) : ySite gAll LAll vwCl rFo rZs rRs rNs rTs G l cc nL RX0 ret fr lo n Qf 182 437 cq0 := ys_V 2 13414 4 rc0 lo_13414 kc4 (m0 l) kGood kw1387 kw1388 kw1389 kw142 kw1505 hdV_X2_addIndex hf hlo
def mt2 : yMt := ([(182, (428, 0)), (182, (437, 1))], ([], ([], [])))
theorem rc2 : yRc cq2 13364 0 = true := by decide +kernel
theorem yr2 : yRun gAll t2 b2 cq2 := yRun_z gAll_tag ruI2_RtI ruJ2_RtJ rqL_ok z2
theorem zw2 : zwid cq2.2.1.1 cq2.1 0 4 = true := by decide +kernel
set_option maxRecDepth 100000 in
theorem yw2 : yRows gAll LAll yt1 mt2 gHo 4 3 (zby cX0_registerTerm) p2 b2 p2 = true := by decide +kernel
set_option maxRecDepth 100000 in
theorem m2 (l : Launch) : kMet gAll LAll vwCl rFo rZs rRs rNs rTs l yX0_registerTerm cX0_registerTerm 4 (some .boolean) 2 43 cq2 := kmet_y2 (rt := 3) (by decide +kernel) yr2 zw2 rfl yw2 LAll_ok LAll_la yt1_ok gHo_ok rfl (fun G n Qf => List.forall_mem_cons.mpr ⟨⟨cq1, rfl, st1 l (by decide) (by decide)⟩, List.forall_mem_cons.mpr ⟨⟨cq0, rfl, st2 l (by decide) (by decide)⟩, yA_n⟩⟩) rfl (fun G n Rr => yA_n) rfl
/-! 3 Expression.calculation (I)Z -/
set_option maxRecDepth 100000 in
theorem w3_0 : decode cX1_calculation 47 = .ok (.lookupswitch 139 #[(38, 81), (42, 127), (60, 93), (62, 110), (94, 69), (124, 57)], 57) := by decide +kernel
def mt3 : yMt := ([], ([], ([(47, (3, (0, (7, (0, [(38, 3), (42, 6), (60, 4), (62, 5), (94, 2), (124, 1)])))))], [])))
theorem rc3 : yRc cq3 13407 1 = true := by decide +kernel
theorem yr3 : yRun gAll t3 b3 cq3 := yRun_z gAll_tag ruI2_RtI ruJ2_RtJ rqL_ok z3
theorem zw3 : zwid cq3.2.1.1 cq3.1 0 7 = true := by decide +kernel
set_option maxRecDepth 100000 in
theorem yw3 : yRows gAll LAll yt2 mt3 gHo 7 3 (zby cX1_calculation) p3 b3 p3 = true := by decide +kernel
set_option maxRecDepth 100000 in
theorem m3 (l : Launch) : kMet gAll LAll vwCl rFo rZs rRs rNs rTs l yX1_calculation cX1_calculation 7 (some .boolean) 0 0 cq3 := kmet_y2 (rt := 3) (by decide +kernel) yr3 zw3 rfl yw3 LAll_ok LAll_la yt2_ok gHo_ok rfl (fun G n Qf => yA_n) rfl (fun G n Rr => List.forall_mem_cons.mpr ⟨k_look _ p3 (fun b t hb ls st s h => kV_at hb h) w3_0 (by decide +kernel) (by decide +kernel) rfl rfl, yA_n⟩) rfl
/-! 4 Expression.constantAt (I)Z -/
def mt4 : yMt := ([], ([], ([], [])))
theorem rc4 : yRc cq4 13407 1 = true := by decide +kernel
theorem yr4 : yRun gAll t4 b4 cq4 := yRun_z gAll_tag ruI2_RtI ruJ2_RtJ rqL_ok z4
theorem zw4 : zwid cq4.2.1.1 cq4.1 0 2 = true := by decide +kernel
set_option maxRecDepth 100000 in
theorem yw4 : yRows gAll LAll yt2 mt4 gHo 2 3 (zby cX1_constantAt) p4 b4 p4 = true := by decide +kernel
set_option maxRecDepth 100000 in
theorem m4 (l : Launch) : kMet gAll LAll vwCl rFo rZs rRs rNs rTs l yX1_constantAt cX1_constantAt 2 (some .boolean) 0 0 cq4 := kmet_y2 (rt := 3) (by decide +kernel) yr4 zw4 rfl yw4 LAll_ok LAll_la yt2_ok gHo_ok rfl (fun G n Qf => yA_n) rfl (fun G n Rr => yA_n) rfl
/-! 5 Expression.difference (ZZ)Z -/
def mt5 : yMt := ([], ([], ([], [])))
theorem rc5 : yRc cq5 13407 2 = true := by decide +kernel
theorem yr5 : yRun gAll t5 b5 cq5 := yRun_p (cuts := u5) (fuel := 300) gAll_tag ruI2_RtI ruJ2_RtJ rqL_ok ⟨zsm_e _ z5_s, List.forall_mem_cons.mpr ⟨zsm_e _ z5_0, yA_n⟩⟩
theorem zw5 : zwid cq5.2.1.1 cq5.1 0 5 = true := by decide +kernel
set_option maxRecDepth 100000 in
theorem yw5 : yRows gAll LAll yt2 mt5 gHo 5 3 (zby cX1_difference) p5 b5 p5 = true := by decide +kernel
set_option maxRecDepth 100000 in
theorem m5 (l : Launch) : kMet gAll LAll vwCl rFo rZs rRs rNs rTs l yX1_difference cX1_difference 5 (some .boolean) 0 0 cq5 := kmet_y2 (rt := 3) (by decide +kernel) yr5 zw5 rfl yw5 LAll_ok LAll_la yt2_ok gHo_ok rfl (fun G n Qf => yA_n) rfl (fun G n Rr => yA_n) rfl
/-! 6 Expression.front (II)V -/
def mt6 : yMt := ([], ([], ([], [])))
theorem rc6 : yRc cq6 13407 2 = true := by decide +kernel
theorem yr6 : yRun gAll t6 b6 cq6 := yRun_z gAll_tag ruI2_RtI ruJ2_RtJ rqL_ok z6
theorem zw6 : zwid cq6.2.1.1 cq6.1 0 3 = true := by decide +kernel
set_option maxRecDepth 100000 in
theorem yw6 : yRows gAll LAll yt2 mt6 gHo 3 0 (zby cX1_front) p6 b6 p6 = true := by decide +kernel
set_option maxRecDepth 100000 in
theorem m6 (l : Launch) : kMet gAll LAll vwCl rFo rZs rRs rNs rTs l yX1_front cX1_front 3 none 0 0 cq6 := kmet_y2 (rt := 0) (by decide +kernel) yr6 zw6 rfl yw6 LAll_ok LAll_la yt2_ok gHo_ok rfl (fun G n Qf => yA_n) rfl (fun G n Rr => yA_n) rfl
/-! 7 Expression.sum (ZZ)Z -/
def mt7 : yMt := ([], ([], ([], [])))
theorem rc7 : yRc cq7 13407 2 = true := by decide +kernel
theorem yr7 : yRun gAll t7 b7 cq7 := yRun_z gAll_tag ruI2_RtI ruJ2_RtJ rqL_ok z7
theorem zw7 : zwid cq7.2.1.1 cq7.1 0 4 = true := by decide +kernel
set_option maxRecDepth 100000 in
theorem yw7 : yRows gAll LAll yt2 mt7 gHo 4 3 (zby cX1_sum) p7 b7 p7 = true := by decide +kernel
set_option maxRecDepth 100000 in
theorem m7 (l : Launch) : kMet gAll LAll vwCl rFo rZs rRs rNs rTs l yX1_sum cX1_sum 4 (some .boolean) 0 0 cq7 := kmet_y2 (rt := 3) (by decide +kernel) yr7 zw7 rfl yw7 LAll_ok LAll_la yt2_ok gHo_ok rfl (fun G n Qf => yA_n) rfl (fun G n Rr => yA_n) rfl
/-! 8 java/lang/Math.min (II)I -/
def mt8 : yMt := ([], ([], ([], [])))
theorem yr8 : yRun gAll t8 b8 cq8 := yRun_z gAll_tag ruI2_RtI ruJ2_RtJ rqL_ok z8
theorem zw8 : zwid cq8.2.1.1 cq8.1 0 2 = true := by decide +kernel
set_option maxRecDepth 100000 in
theorem yw8 : yRows gAll LAll yt16 mt8 gHo 2 1 (zby cJ9_min_7cf53) p8 b8 p8 = true := by decide +kernel
set_option maxRecDepth 100000 in
theorem m8 (l : Launch) : kMet gAll LAll vwCl rFo rZs rRs rNs rTs l yJ9_min_7cf53 cJ9_min_7cf53 2 (some .int) 0 0 cq8 := kmet_y2 (rt := 1) (by decide +kernel) yr8 zw8 rfl yw8 LAll_ok LAll_la yt16_ok gHo_ok rfl (fun G n Qf => yA_n) rfl (fun G n Rr => yA_n) rfl
/-! 9 Line.blame (I)V -/
theorem hdS_J9_min_7cf53 : yJ9_min_7cf53.cls ≠ "java/lang/invoke/MethodHandle" ∧ yJ9_min_7cf53.cls ≠ "java/lang/invoke/VarHandle" ∧ (parseMethodDescriptor yJ9_min_7cf53.desc).map (fun d => d.parameters.length) = some 2 := by decide +kernel
theorem st3 (l : Launch) {G : rGm} {cc : ByteArray} {nL n fr lo : Nat} {ret : Option FieldType} {Qf : kQf} (hf : 1 ≤ fr) (hlo : 21 ≤ lo) : ySite gAll LAll vwCl rFo rZs rRs rNs rTs G l cc nL RX3 ret fr lo n Qf 184 94 cq8 := ys_S 2 rfl (m8 l) kGood kw1592 kw285 kw286 kw287 hdS_J9_min_7cf53 hf hlo
def mt9 : yMt := ([(184, (94, 0))], ([], ([], [])))
theorem rc9 : yRc cq9 13365 1 = true := by decide +kernel
theorem yr9 : yRun gAll t9 b9 cq9 := yRun_z gAll_tag ruI2_RtI ruJ2_RtJ rqL_ok z9
theorem zw9 : zwid cq9.2.1.1 cq9.1 0 2 = true := by decide +kernel
set_option maxRecDepth 100000 in
theorem yw9 : yRows gAll LAll yt4 mt9 gHo 2 0 (zby cX3_blame) p9 b9 p9 = true := by decide +kernel
set_option maxRecDepth 100000 in
theorem m9 (l : Launch) : kMet gAll LAll vwCl rFo rZs rRs rNs rTs l yX3_blame cX3_blame 2 none 1 21 cq9 := kmet_y2 (rt := 0) (by decide +kernel) yr9 zw9 rfl yw9 LAll_ok LAll_la yt4_ok gHo_ok rfl (fun G n Qf => List.forall_mem_cons.mpr ⟨⟨cq8, rfl, st3 l (by decide) (by decide)⟩, yA_n⟩) rfl (fun G n Rr => yA_n) rfl
/-! 10 Expression.apply (I)V -/
theorem hdV_X1_constantAt : yX1_constantAt.cls = RX1 ∧ yX1_constantAt.cls ≠ "java/lang/invoke/MethodHandle" ∧ yX1_constantAt.cls ≠ "java/lang/invoke/VarHandle" ∧ (parseMethodDescriptor yX1_constantAt.desc).map (fun d => d.parameters.length) = some 1 := by decide +kernel
theorem st4 (l : Launch) {G : rGm} {cc : ByteArray} {nL n fr lo : Nat} {ret : Option FieldType} {Qf : kQf} (hf : 1 ≤ fr) (hlo : 21 ≤ lo) : ySite gAll LAll vwCl rFo rZs rRs rNs rTs G l cc nL RX1 ret fr lo n Qf 182 42 cq4 := ys_V 1 13407 3 rc4 lo_13407 kc3 (m4 l) kGood kw1440 kw1441 kw1442 kw181 kw1466 hdV_X1_constantAt hf hlo
theorem hdV_X1_front : yX1_front.cls = RX1 ∧ yX1_front.cls ≠ "java/lang/invoke/MethodHandle" ∧ yX1_front.cls ≠ "java/lang/invoke/VarHandle" ∧ (parseMethodDescriptor yX1_front.desc).map (fun d => d.parameters.length) = some 2 := by decide +kernel
theorem st5 (l : Launch) {G : rGm} {cc : ByteArray} {nL n fr lo : Nat} {ret : Option FieldType} {Qf : kQf} (hf : 1 ≤ fr) (hlo : 22 ≤ lo) : ySite gAll LAll vwCl rFo rZs rRs rNs rTs G l cc nL RX1 ret fr lo n Qf 182 146 cq6 := ys_V 2 13407 3 rc6 lo_13407 kc3 (m6 l) kGood kw1443 kw1444 kw1445 kw181 kw1468 hdV_X1_front hf hlo
theorem hdV_X1_sum : yX1_sum.cls = RX1 ∧ yX1_sum.cls ≠ "java/lang/invoke/MethodHandle" ∧ yX1_sum.cls ≠ "java/lang/invoke/VarHandle" ∧ (parseMethodDescriptor yX1_sum.desc).map (fun d => d.parameters.length) = some 2 := by decide +kernel
theorem st6 (l : Launch) {G : rGm} {cc : ByteArray} {nL n fr lo : Nat} {ret : Option FieldType} {Qf : kQf} (hf : 1 ≤ fr) (hlo : 23 ≤ lo) : ySite gAll LAll vwCl rFo rZs rRs rNs rTs G l cc nL RX1 ret fr lo n Qf 182 150 cq7 := ys_V 2 13407 3 rc7 lo_13407 kc3 (m7 l) kGood kw1446 kw1447 kw1448 kw181 kw1504 hdV_X1_sum hf hlo
theorem hdV_X1_difference : yX1_difference.cls = RX1 ∧ yX1_difference.cls ≠ "java/lang/invoke/MethodHandle" ∧ yX1_difference.cls ≠ "java/lang/invoke/VarHandle" ∧ (parseMethodDescriptor yX1_difference.desc).map (fun d => d.parameters.length) = some 2 := by decide +kernel
theorem st7 (l : Launch) {G : rGm} {cc : ByteArray} {nL n fr lo : Nat} {ret : Option FieldType} {Qf : kQf} (hf : 1 ≤ fr) (hlo : 24 ≤ lo) : ySite gAll LAll vwCl rFo rZs rRs rNs rTs G l cc nL RX1 ret fr lo n Qf 182 154 cq5 := ys_V 2 13407 3 rc5 lo_13407 kc3 (m5 l) kGood kw1449 kw1450 kw1451 kw181 kw1467 hdV_X1_difference hf hlo
theorem hdV_X1_calculation : yX1_calculation.cls = RX1 ∧ yX1_calculation.cls ≠ "java/lang/invoke/MethodHandle" ∧ yX1_calculation.cls ≠ "java/lang/invoke/VarHandle" ∧ (parseMethodDescriptor yX1_calculation.desc).map (fun d => d.parameters.length) = some 1 := by decide +kernel
theorem st8 (l : Launch) {G : rGm} {cc : ByteArray} {nL n fr lo : Nat} {ret : Option FieldType} {Qf : kQf} (hf : 1 ≤ fr) (hlo : 26 ≤ lo) : ySite gAll LAll vwCl rFo rZs rRs rNs rTs G l cc nL RX1 ret fr lo n Qf 182 157 cq3 := ys_V 1 13407 3 rc3 lo_13407 kc3 (m3 l) kGood kw1452 kw1453 kw1454 kw181 kw1464 hdV_X1_calculation hf hlo
theorem hdV_X3_blame : yX3_blame.cls = RX3 ∧ yX3_blame.cls ≠ "java/lang/invoke/MethodHandle" ∧ yX3_blame.cls ≠ "java/lang/invoke/VarHandle" ∧ (parseMethodDescriptor yX3_blame.desc).map (fun d => d.parameters.length) = some 1 := by decide +kernel
theorem st9 (l : Launch) {G : rGm} {cc : ByteArray} {nL n fr lo : Nat} {ret : Option FieldType} {Qf : kQf} (hf : 2 ≤ fr) (hlo : 42 ≤ lo) : ySite gAll LAll vwCl rFo rZs rRs rNs rTs G l cc nL RX1 ret fr lo n Qf 182 100 cq9 := ys_V 1 13365 5 rc9 lo_13365 kc5 (m9 l) kGood kw1455 kw1173 kw1174 kw90 kw1591 hdV_X3_blame hf hlo
def mt10 : yMt := ([(182, (42, 0)), (182, (146, 1)), (182, (150, 2)), (182, (154, 3)), (182, (157, 4)), (182, (100, 5))], ([], ([], [])))
theorem rc10 : yRc cq10 13407 1 = true := by decide +kernel
theorem yr10 : yRun gAll t10 b10 cq10 := yRun_p (cuts := u10) (fuel := 300) gAll_tag ruI2_RtI ruJ2_RtJ rqL_ok ⟨zsm_e _ z10_s, List.forall_mem_cons.mpr ⟨zsm_e _ z10_0, yA_n⟩⟩
theorem zw10 : zwid cq10.2.1.1 cq10.1 0 5 = true := by decide +kernel
set_option maxRecDepth 100000 in
theorem yw10 : yRows gAll LAll yt2 mt10 gHo 5 0 (zby cX1_apply) p10 b10 p10 = true := by decide +kernel
set_option maxRecDepth 100000 in
theorem m10 (l : Launch) : kMet gAll LAll vwCl rFo rZs rRs rNs rTs l yX1_apply cX1_apply 5 none 2 42 cq10 := kmet_y2 (rt := 0) (by decide +kernel) yr10 zw10 rfl yw10 LAll_ok LAll_la yt2_ok gHo_ok rfl (fun G n Qf => List.forall_mem_cons.mpr ⟨⟨cq4, rfl, st4 l (by decide) (by decide)⟩, List.forall_mem_cons.mpr ⟨⟨cq6, rfl, st5 l (by decide) (by decide)⟩, List.forall_mem_cons.mpr ⟨⟨cq7, rfl, st6 l (by decide) (by decide)⟩, List.forall_mem_cons.mpr ⟨⟨cq5, rfl, st7 l (by decide) (by decide)⟩, List.forall_mem_cons.mpr ⟨⟨cq3, rfl, st8 l (by decide) (by decide)⟩, List.forall_mem_cons.mpr ⟨⟨cq9, rfl, st9 l (by decide) (by decide)⟩, yA_n⟩⟩⟩⟩⟩⟩) rfl (fun G n Rr => yA_n) rfl
/-! 11 Expression.beZero ()V -/
def mt11 : yMt := ([], ([], ([], [])))
theorem rc11 : yRc cq11 13407 0 = true := by decide +kernel
theorem yr11 : yRun gAll t11 b11 cq11 := yRun_z gAll_tag ruI2_RtI ruJ2_RtJ rqL_ok z11
theorem zw11 : zwid cq11.2.1.1 cq11.1 0 1 = true := by decide +kernel
set_option maxRecDepth 100000 in
theorem yw11 : yRows gAll LAll yt2 mt11 gHo 1 0 (zby cX1_beZero) p11 b11 p11 = true := by decide +kernel
set_option maxRecDepth 100000 in
theorem m11 (l : Launch) : kMet gAll LAll vwCl rFo rZs rRs rNs rTs l yX1_beZero cX1_beZero 1 none 0 0 cq11 := kmet_y2 (rt := 0) (by decide +kernel) yr11 zw11 rfl yw11 LAll_ok LAll_la yt2_ok gHo_ok rfl (fun G n Qf => yA_n) rfl (fun G n Rr => yA_n) rfl
/-! 12 Expression.push (JI)V -/
def mt12 : yMt := ([], ([], ([], [])))
theorem rc12 : yRc cq12 13407 2 = true := by decide +kernel
theorem yr12 : yRun gAll t12 b12 cq12 := yRun_z gAll_tag ruI2_RtI ruJ2_RtJ rqL_ok z12
theorem zw12 : zwid cq12.2.1.1 cq12.1 0 4 = true := by decide +kernel
set_option maxRecDepth 100000 in
theorem yw12 : yRows gAll LAll yt2 mt12 gHo 4 0 (zby cX1_push) p12 b12 p12 = true := by decide +kernel
set_option maxRecDepth 100000 in
theorem m12 (l : Launch) : kMet gAll LAll vwCl rFo rZs rRs rNs rTs l yX1_push cX1_push 4 none 0 0 cq12 := kmet_y2 (rt := 0) (by decide +kernel) yr12 zw12 rfl yw12 LAll_ok LAll_la yt2_ok gHo_ok rfl (fun G n Qf => yA_n) rfl (fun G n Rr => yA_n) rfl
/-! 13 Expression.spell (IZ)V -/
theorem cA0_e : cA0 = cpC 26827 1 64 (2 * ((13412 : Nat) : Int) + 1) 1 128 95 := by rfl
theorem sA0 {own : String} {ix : Nat} (l : Launch) {G : rGm} {cc : ByteArray} {nL n fr lo : Nat} {ret : Option FieldType} {Qf : kQf} (w1 : Cond.methodLink own ix arraycopyName ∈ rTs) (hf : 1 ≤ fr) (hlo : 26 ≤ lo) : ySite gAll LAll vwCl rFo rZs rRs rNs rTs G l cc nL own ret fr lo n Qf 184 ix cA0 := by
  rw [cA0_e]
  exact ys_A (t := 2) (c1 := ((-128), 127)) (c2 := ((-128), 127)) LAll_ok (Or.inl ⟨13413, _, List.mem_of_getElem? (i := 58) rfl, rfl⟩) rfl (List.mem_of_getElem? (i := 57) rfl) rfl (by decide) (fun z h1 h2 => y_fb ⟨Int.le_trans (by decide) h1, Int.le_trans h2 (by decide)⟩) w1 kw62 kw63 kw64 hf (Nat.le_trans (by decide +kernel) hlo)
theorem cA1_e : cA1 = cpC 26733 1 1024 (2 * ((13412 : Nat) : Int) + 1) 1 128 95 := by rfl
theorem sA1 {own : String} {ix : Nat} (l : Launch) {G : rGm} {cc : ByteArray} {nL n fr lo : Nat} {ret : Option FieldType} {Qf : kQf} (w1 : Cond.methodLink own ix arraycopyName ∈ rTs) (hf : 1 ≤ fr) (hlo : 26 ≤ lo) : ySite gAll LAll vwCl rFo rZs rRs rNs rTs G l cc nL own ret fr lo n Qf 184 ix cA1 := by
  rw [cA1_e]
  exact ys_A (t := 2) (c1 := ((-128), 127)) (c2 := ((-128), 127)) LAll_ok (Or.inl ⟨13366, _, List.mem_of_getElem? (i := 16) rfl, rfl⟩) rfl (List.mem_of_getElem? (i := 57) rfl) rfl (by decide) (fun z h1 h2 => y_fb ⟨Int.le_trans (by decide) h1, Int.le_trans h2 (by decide)⟩) w1 kw62 kw63 kw64 hf (Nat.le_trans (by decide +kernel) hlo)
theorem st10 (l : Launch) {G : rGm} {cc : ByteArray} {nL n fr lo : Nat} {ret : Option FieldType} {Qf : kQf} (hf : 1 ≤ fr) (hlo : 21 ≤ lo) : ySite gAll LAll vwCl rFo rZs rRs rNs rTs G l cc nL RX1 ret fr lo n Qf 184 52 cq8 := ys_S 2 rfl (m8 l) kGood kw1460 kw285 kw286 kw287 hdS_J9_min_7cf53 hf hlo
def mt13 : yMt := ([(184, (52, 0)), (184, (65, 1)), (184, (65, 2))], ([], ([], [])))
theorem rc13 : yRc cq13 13407 2 = true := by decide +kernel
theorem yr13 : yRun gAll t13 b13 cq13 := yRun_z gAll_tag ruI2_RtI ruJ2_RtJ rqL_ok z13
theorem zw13 : zwid cq13.2.1.1 cq13.1 0 5 = true := by decide +kernel
set_option maxRecDepth 100000 in
theorem yw13 : yRows gAll LAll yt2 mt13 gHo 5 0 (zby cX1_spell) p13 b13 p13 = true := by decide +kernel
set_option maxRecDepth 100000 in
theorem m13 (l : Launch) : kMet gAll LAll vwCl rFo rZs rRs rNs rTs l yX1_spell cX1_spell 5 none 1 26 cq13 := kmet_y2 (rt := 0) (by decide +kernel) yr13 zw13 rfl yw13 LAll_ok LAll_la yt2_ok gHo_ok rfl (fun G n Qf => List.forall_mem_cons.mpr ⟨⟨cq8, rfl, st10 l (by decide) (by decide)⟩, List.forall_mem_cons.mpr ⟨⟨cA0, rfl, sA0 l kw1462 (by decide) (by decide)⟩, List.forall_mem_cons.mpr ⟨⟨cA1, rfl, sA1 l kw1462 (by decide) (by decide)⟩, yA_n⟩⟩⟩) rfl (fun G n Rr => yA_n) rfl
/-! 14 Names.add/name@x.units.names ([BII)I -/
theorem cA2_e : cA2 = cpC 26825 1 128 (2 * ((4 : Nat) : Int) + 1) 1 129024 14 := by rfl
theorem sA2 {own : String} {ix : Nat} (l : Launch) {G : rGm} {cc : ByteArray} {nL n fr lo : Nat} {ret : Option FieldType} {Qf : kQf} (w1 : Cond.methodLink own ix arraycopyName ∈ rTs) (hf : 1 ≤ fr) (hlo : 26 ≤ lo) : ySite gAll LAll vwCl rFo rZs rRs rNs rTs G l cc nL own ret fr lo n Qf 184 ix cA2 := by
  rw [cA2_e]
  exact ys_A (t := 2) (c1 := ((-128), 127)) (c2 := ((-128), 127)) LAll_ok (Or.inl ⟨13412, _, List.mem_of_getElem? (i := 57) rfl, rfl⟩) rfl (List.mem_of_getElem? (i := 1) rfl) rfl (by decide) (fun z h1 h2 => y_fb ⟨Int.le_trans (by decide) h1, Int.le_trans h2 (by decide)⟩) w1 kw62 kw63 kw64 hf (Nat.le_trans (by decide +kernel) hlo)
def mt14 : yMt := ([(184, (38, 0))], ([], ([], [])))
theorem rc14 : yRc cq14 3 3 = true := by decide +kernel
theorem yr14 : yRun gAll t14 b14 cq14 := yRun_p (cuts := u14) (fuel := 300) gAll_tag ruI2_RtI ruJ2_RtJ rqL_ok ⟨zsm_e _ z14_s, List.forall_mem_cons.mpr ⟨zsm_e _ z14_0, yA_n⟩⟩
theorem zw14 : zwid cq14.2.1.1 cq14.1 0 6 = true := by decide +kernel
set_option maxRecDepth 100000 in
theorem yw14 : yRows gAll LAll yt8 mt14 gHo 6 1 (zby cX7_add) p14 b14 p14 = true := by decide +kernel
set_option maxRecDepth 100000 in
theorem m14 (l : Launch) : kMet gAll LAll vwCl rFo rZs rRs rNs rTs l yX7_add cX7_add 6 (some .int) 1 26 cq14 := kmet_y2 (rt := 1) (by decide +kernel) yr14 zw14 rfl yw14 LAll_ok LAll_la yt8_ok gHo_ok rfl (fun G n Qf => List.forall_mem_cons.mpr ⟨⟨cA2, rfl, sA2 l kw61 (by decide) (by decide)⟩, yA_n⟩) rfl (fun G n Rr => yA_n) rfl
/-! 15 Names.find/name@x.units.names ([BIII)I -/
def mt15 : yMt := ([], ([], ([], [])))
theorem rc15 : yRc cq15 3 4 = true := by decide +kernel
theorem yr15 : yRun gAll t15 b15 cq15 := yRun_p (cuts := u15) (fuel := 300) gAll_tag ruI2_RtI ruJ2_RtJ rqL_ok ⟨zsm_e _ z15_s, List.forall_mem_cons.mpr ⟨zsm_e _ z15_0, List.forall_mem_cons.mpr ⟨zsm_e _ z15_1, List.forall_mem_cons.mpr ⟨zsm_e _ z15_2, yA_n⟩⟩⟩⟩
theorem zw15 : zwid cq15.2.1.1 cq15.1 0 9 = true := by decide +kernel
set_option maxRecDepth 100000 in
theorem yw15 : yRows gAll LAll yt8 mt15 gHo 9 1 (zby cX7_find) p15 b15 p15 = true := by decide +kernel
set_option maxRecDepth 100000 in
theorem m15 (l : Launch) : kMet gAll LAll vwCl rFo rZs rRs rNs rTs l yX7_find cX7_find 9 (some .int) 0 0 cq15 := kmet_y2 (rt := 1) (by decide +kernel) yr15 zw15 rfl yw15 LAll_ok LAll_la yt8_ok gHo_ok rfl (fun G n Qf => yA_n) rfl (fun G n Rr => yA_n) rfl
/-! 16 java/util/Arrays.fill/symbols[] ([II)V -/
def mt16 : yMt := ([], ([], ([], [])))
theorem yr16 : yRun gAll t16 b16 cq16 := yRun_p (cuts := u16) (fuel := 300) gAll_tag ruI2_RtI ruJ2_RtJ rqL_ok ⟨zsm_e _ z16_s, List.forall_mem_cons.mpr ⟨zsm_e _ z16_0, yA_n⟩⟩
theorem zw16 : zwid cq16.2.1.1 cq16.1 0 4 = true := by decide +kernel
set_option maxRecDepth 100000 in
theorem yw16 : yRows gAll LAll yt17 mt16 gHo 4 0 (zby cJ7_fill_53178) p16 b16 p16 = true := by decide +kernel
set_option maxRecDepth 100000 in
theorem m16 (l : Launch) : kMet gAll LAll vwCl rFo rZs rRs rNs rTs l yJ7_fill_53178 cJ7_fill_53178 4 none 0 0 cq16 := kmet_y2 (rt := 0) (by decide +kernel) yr16 zw16 rfl yw16 LAll_ok LAll_la yt17_ok gHo_ok rfl (fun G n Qf => yA_n) rfl (fun G n Rr => yA_n) rfl
/-! 17 Units.beginSymbol (I)V -/
theorem hdS_J7_fill_53178 : yJ7_fill_53178.cls ≠ "java/lang/invoke/MethodHandle" ∧ yJ7_fill_53178.cls ≠ "java/lang/invoke/VarHandle" ∧ (parseMethodDescriptor yJ7_fill_53178.desc).map (fun d => d.parameters.length) = some 2 := by decide +kernel
theorem st11 (l : Launch) {G : rGm} {cc : ByteArray} {nL n fr lo : Nat} {ret : Option FieldType} {Qf : kQf} (hf : 1 ≤ fr) (hlo : 23 ≤ lo) : ySite gAll LAll vwCl rFo rZs rRs rNs rTs G l cc nL RX10 ret fr lo n Qf 184 77 cq16 := ys_S 2 rfl (m16 l) kGood kw605 kw12 kw13 kw10 hdS_J7_fill_53178 hf hlo
def mt17 : yMt := ([(184, (77, 0))], ([], ([], [])))
theorem rc17 : yRc cq17 2 1 = true := by decide +kernel
theorem yr17 : yRun gAll t17 b17 cq17 := yRun_z gAll_tag ruI2_RtI ruJ2_RtJ rqL_ok z17
theorem zw17 : zwid cq17.2.1.1 cq17.1 0 2 = true := by decide +kernel
set_option maxRecDepth 100000 in
theorem yw17 : yRows gAll LAll yt11 mt17 gHo 2 0 (zby cX10_beginSymbol) p17 b17 p17 = true := by decide +kernel
set_option maxRecDepth 100000 in
theorem m17 (l : Launch) : kMet gAll LAll vwCl rFo rZs rRs rNs rTs l yX10_beginSymbol cX10_beginSymbol 2 none 1 23 cq17 := kmet_y2 (rt := 0) (by decide +kernel) yr17 zw17 rfl yw17 LAll_ok LAll_la yt11_ok gHo_ok rfl (fun G n Qf => List.forall_mem_cons.mpr ⟨⟨cq16, rfl, st11 l (by decide) (by decide)⟩, yA_n⟩) rfl (fun G n Rr => yA_n) rfl
/-! 18 Expression.operand (I)Z -/
theorem hdV_X1_push : yX1_push.cls = RX1 ∧ yX1_push.cls ≠ "java/lang/invoke/MethodHandle" ∧ yX1_push.cls ≠ "java/lang/invoke/VarHandle" ∧ (parseMethodDescriptor yX1_push.desc).map (fun d => d.parameters.length) = some 2 := by decide +kernel
theorem st12 (l : Launch) {G : rGm} {cc : ByteArray} {nL n fr lo : Nat} {ret : Option FieldType} {Qf : kQf} (hf : 1 ≤ fr) (hlo : 23 ≤ lo) : ySite gAll LAll vwCl rFo rZs rRs rNs rTs G l cc nL RX1 ret fr lo n Qf 182 129 cq12 := ys_V 2 13407 3 rc12 lo_13407 kc3 (m12 l) kGood kw1486 kw1487 kw1488 kw181 kw1494 hdV_X1_push hf hlo
theorem hdV_X1_spell : yX1_spell.cls = RX1 ∧ yX1_spell.cls ≠ "java/lang/invoke/MethodHandle" ∧ yX1_spell.cls ≠ "java/lang/invoke/VarHandle" ∧ (parseMethodDescriptor yX1_spell.desc).map (fun d => d.parameters.length) = some 2 := by decide +kernel
theorem st13 (l : Launch) {G : rGm} {cc : ByteArray} {nL n fr lo : Nat} {ret : Option FieldType} {Qf : kQf} (hf : 2 ≤ fr) (hlo : 50 ≤ lo) : ySite gAll LAll vwCl rFo rZs rRs rNs rTs G l cc nL RX1 ret fr lo n Qf 182 135 cq13 := ys_V 2 13407 3 rc13 lo_13407 kc3 (m13 l) kGood kw1490 kw1212 kw1213 kw181 kw1503 hdV_X1_spell hf hlo
theorem hdV_X7_find : yX7_find.cls = RX7 ∧ yX7_find.cls ≠ "java/lang/invoke/MethodHandle" ∧ yX7_find.cls ≠ "java/lang/invoke/VarHandle" ∧ (parseMethodDescriptor yX7_find.desc).map (fun d => d.parameters.length) = some 4 := by decide +kernel
theorem st14 (l : Launch) {G : rGm} {cc : ByteArray} {nL n fr lo : Nat} {ret : Option FieldType} {Qf : kQf} (hf : 1 ≤ fr) (hlo : 28 ≤ lo) : ySite gAll LAll vwCl rFo rZs rRs rNs rTs G l cc nL RX1 ret fr lo n Qf 182 85 cq15 := ys_V 4 3 9 rc15 lo_3 kc9 (m15 l) kGood kw1475 kw734 kw735 kw18 kw732 hdV_X7_find hf hlo
theorem hdV_X7_add : yX7_add.cls = RX7 ∧ yX7_add.cls ≠ "java/lang/invoke/MethodHandle" ∧ yX7_add.cls ≠ "java/lang/invoke/VarHandle" ∧ (parseMethodDescriptor yX7_add.desc).map (fun d => d.parameters.length) = some 3 := by decide +kernel
theorem st15 (l : Launch) {G : rGm} {cc : ByteArray} {nL n fr lo : Nat} {ret : Option FieldType} {Qf : kQf} (hf : 2 ≤ fr) (hlo : 51 ≤ lo) : ySite gAll LAll vwCl rFo rZs rRs rNs rTs G l cc nL RX1 ret fr lo n Qf 182 96 cq14 := ys_V 3 3 9 rc14 lo_3 kc9 (m14 l) kGood kw1479 kw77 kw78 kw18 kw75 hdV_X7_add hf hlo
theorem hdV_X10_beginSymbol : yX10_beginSymbol.cls = RX10 ∧ yX10_beginSymbol.cls ≠ "java/lang/invoke/MethodHandle" ∧ yX10_beginSymbol.cls ≠ "java/lang/invoke/VarHandle" ∧ (parseMethodDescriptor yX10_beginSymbol.desc).map (fun d => d.parameters.length) = some 1 := by decide +kernel
theorem st16 (l : Launch) {G : rGm} {cc : ByteArray} {nL n fr lo : Nat} {ret : Option FieldType} {Qf : kQf} (hf : 2 ≤ fr) (hlo : 44 ≤ lo) : ySite gAll LAll vwCl rFo rZs rRs rNs rTs G l cc nL RX1 ret fr lo n Qf 182 104 cq17 := ys_V 1 2 12 rc17 lo_2 kc12 (m17 l) kGood kw1480 kw1481 kw1482 kw241 kw2114 hdV_X10_beginSymbol hf hlo
def mt18 : yMt := ([(182, (129, 0)), (182, (135, 1)), (182, (85, 2)), (182, (96, 3)), (182, (100, 4)), (182, (104, 5))], ([], ([], [])))
theorem rc18 : yRc cq18 13407 1 = true := by decide +kernel
theorem yr18 : yRun gAll t18 b18 cq18 := yRun_z gAll_tag ruI2_RtI ruJ2_RtJ rqL_ok z18
theorem zw18 : zwid cq18.2.1.1 cq18.1 0 6 = true := by decide +kernel
set_option maxRecDepth 100000 in
theorem yw18 : yRows gAll LAll yt2 mt18 gHo 6 3 (zby cX1_operand) p18 b18 p18 = true := by decide +kernel
set_option maxRecDepth 100000 in
theorem m18 (l : Launch) : kMet gAll LAll vwCl rFo rZs rRs rNs rTs l yX1_operand cX1_operand 6 (some .boolean) 2 51 cq18 := kmet_y2 (rt := 3) (by decide +kernel) yr18 zw18 rfl yw18 LAll_ok LAll_la yt2_ok gHo_ok rfl (fun G n Qf => List.forall_mem_cons.mpr ⟨⟨cq12, rfl, st12 l (by decide) (by decide)⟩, List.forall_mem_cons.mpr ⟨⟨cq13, rfl, st13 l (by decide) (by decide)⟩, List.forall_mem_cons.mpr ⟨⟨cq15, rfl, st14 l (by decide) (by decide)⟩, List.forall_mem_cons.mpr ⟨⟨cq14, rfl, st15 l (by decide) (by decide)⟩, List.forall_mem_cons.mpr ⟨⟨cq9, rfl, st9 l (by decide) (by decide)⟩, List.forall_mem_cons.mpr ⟨⟨cq17, rfl, st16 l (by decide) (by decide)⟩, yA_n⟩⟩⟩⟩⟩⟩) rfl (fun G n Rr => yA_n) rfl
/-! 19 Expression.priority (I)I -/
set_option maxRecDepth 100000 in
theorem w19_0 : decode cX1_priority 1 = .ok (.lookupswitch 104 #[(37, 101), (38, 95), (42, 101), (43, 99), (45, 99), (47, 101), (60, 97), (62, 97), (94, 93), (124, 91)], 91) := by decide +kernel
def mt19 : yMt := ([], ([], ([(1, (3, (0, (7, (0, [(37, 6), (38, 3), (42, 6), (43, 5), (45, 5), (47, 6), (60, 4), (62, 4), (94, 2), (124, 1)])))))], [])))
theorem yr19 : yRun gAll t19 b19 cq19 := yRun_z gAll_tag ruI2_RtI ruJ2_RtJ rqL_ok z19
theorem zw19 : zwid cq19.2.1.1 cq19.1 0 1 = true := by decide +kernel
set_option maxRecDepth 100000 in
theorem yw19 : yRows gAll LAll yt2 mt19 gHo 1 1 (zby cX1_priority) p19 b19 p19 = true := by decide +kernel
set_option maxRecDepth 100000 in
theorem m19 (l : Launch) : kMet gAll LAll vwCl rFo rZs rRs rNs rTs l yX1_priority cX1_priority 1 (some .int) 0 0 cq19 := kmet_y2 (rt := 1) (by decide +kernel) yr19 zw19 rfl yw19 LAll_ok LAll_la yt2_ok gHo_ok rfl (fun G n Qf => yA_n) rfl (fun G n Rr => List.forall_mem_cons.mpr ⟨k_look _ p19 (fun b t hb ls st s h => kV_at hb h) w19_0 (by decide +kernel) (by decide +kernel) rfl rfl, yA_n⟩) rfl
/-! 20 Expression.read (IZI)Z -/
theorem hdV_X1_operand : yX1_operand.cls = RX1 ∧ yX1_operand.cls ≠ "java/lang/invoke/MethodHandle" ∧ yX1_operand.cls ≠ "java/lang/invoke/VarHandle" ∧ (parseMethodDescriptor yX1_operand.desc).map (fun d => d.parameters.length) = some 1 := by decide +kernel
theorem st17 (l : Launch) {G : rGm} {cc : ByteArray} {nL n fr lo : Nat} {ret : Option FieldType} {Qf : kQf} (hf : 3 ≤ fr) (hlo : 76 ≤ lo) : ySite gAll LAll vwCl rFo rZs rRs rNs rTs G l cc nL RX1 ret fr lo n Qf 182 116 cq18 := ys_V 1 13407 3 rc18 lo_13407 kc3 (m18 l) kGood kw1497 kw1498 kw1499 kw181 kw1483 hdV_X1_operand hf hlo
theorem hdV_X1_apply : yX1_apply.cls = RX1 ∧ yX1_apply.cls ≠ "java/lang/invoke/MethodHandle" ∧ yX1_apply.cls ≠ "java/lang/invoke/VarHandle" ∧ (parseMethodDescriptor yX1_apply.desc).map (fun d => d.parameters.length) = some 1 := by decide +kernel
theorem st18 (l : Launch) {G : rGm} {cc : ByteArray} {nL n fr lo : Nat} {ret : Option FieldType} {Qf : kQf} (hf : 3 ≤ fr) (hlo : 66 ≤ lo) : ySite gAll LAll vwCl rFo rZs rRs rNs rTs G l cc nL RX1 ret fr lo n Qf 182 119 cq10 := ys_V 1 13407 3 rc10 lo_13407 kc3 (m10 l) kGood kw1500 kw1165 kw1166 kw181 kw1438 hdV_X1_apply hf hlo
theorem hdS_X1_priority : yX1_priority.cls ≠ "java/lang/invoke/MethodHandle" ∧ yX1_priority.cls ≠ "java/lang/invoke/VarHandle" ∧ (parseMethodDescriptor yX1_priority.desc).map (fun d => d.parameters.length) = some 1 := by decide +kernel
theorem st19 (l : Launch) {G : rGm} {cc : ByteArray} {nL n fr lo : Nat} {ret : Option FieldType} {Qf : kQf} (hf : 1 ≤ fr) (hlo : 20 ≤ lo) : ySite gAll LAll vwCl rFo rZs rRs rNs rTs G l cc nL RX1 ret fr lo n Qf 184 122 cq19 := ys_S 1 rfl (m19 l) kGood kw1501 kw1502 kw181 kw1493 hdS_X1_priority hf hlo
def mt20 : yMt := ([(182, (116, 0)), (182, (119, 1)), (184, (122, 2))], ([], ([], [])))
theorem rc20 : yRc cq20 13407 3 = true := by decide +kernel
theorem yr20 : yRun gAll t20 b20 cq20 := yRun_p (cuts := u20) (fuel := 300) gAll_tag ruI2_RtI ruJ2_RtJ rqL_ok ⟨zsm_e _ z20_s, List.forall_mem_cons.mpr ⟨zsm_e _ z20_0, List.forall_mem_cons.mpr ⟨zsm_e _ z20_1, List.forall_mem_cons.mpr ⟨zsm_e _ z20_2, List.forall_mem_cons.mpr ⟨zsm_e _ z20_3, List.forall_mem_cons.mpr ⟨zsm_e _ z20_4, List.forall_mem_cons.mpr ⟨zsm_e _ z20_5, yA_n⟩⟩⟩⟩⟩⟩⟩
theorem zw20 : zwid cq20.2.1.1 cq20.1 0 10 = true := by decide +kernel
set_option maxRecDepth 100000 in
theorem yw20 : yRows gAll LAll yt2 mt20 gHo 10 3 (zby cX1_read) p20 b20 p20 = true := by decide +kernel
set_option maxRecDepth 100000 in
theorem m20 (l : Launch) : kMet gAll LAll vwCl rFo rZs rRs rNs rTs l yX1_read cX1_read 10 (some .boolean) 3 76 cq20 := kmet_y2 (rt := 3) (by decide +kernel) yr20 zw20 rfl yw20 LAll_ok LAll_la yt2_ok gHo_ok rfl (fun G n Qf => List.forall_mem_cons.mpr ⟨⟨cq18, rfl, st17 l (by decide) (by decide)⟩, List.forall_mem_cons.mpr ⟨⟨cq10, rfl, st18 l (by decide) (by decide)⟩, List.forall_mem_cons.mpr ⟨⟨cq19, rfl, st19 l (by decide) (by decide)⟩, yA_n⟩⟩⟩) rfl (fun G n Rr => yA_n) rfl
/-! 21 Instruction.beginAddress@x.assembler.instruction ()V -/
def mt21 : yMt := ([], ([], ([], [])))
theorem rc21 : yRc cq21 13414 0 = true := by decide +kernel
theorem yr21 : yRun gAll t21 b21 cq21 := yRun_z gAll_tag ruI2_RtI ruJ2_RtJ rqL_ok z21
theorem zw21 : zwid cq21.2.1.1 cq21.1 0 1 = true := by decide +kernel
set_option maxRecDepth 100000 in
theorem yw21 : yRows gAll LAll yt3 mt21 gHo 1 0 (zby cX2_beginAddress) p21 b21 p21 = true := by decide +kernel
set_option maxRecDepth 100000 in
theorem m21 (l : Launch) : kMet gAll LAll vwCl rFo rZs rRs rNs rTs l yX2_beginAddress cX2_beginAddress 1 none 0 0 cq21 := kmet_y2 (rt := 0) (by decide +kernel) yr21 zw21 rfl yw21 LAll_ok LAll_la yt3_ok gHo_ok rfl (fun G n Qf => yA_n) rfl (fun G n Rr => yA_n) rfl
/-! 22 Line.isMark (II)Z -/
def mt22 : yMt := ([], ([], ([], [])))
theorem rc22 : yRc cq22 13365 2 = true := by decide +kernel
theorem yr22 : yRun gAll t22 b22 cq22 := yRun_z gAll_tag ruI2_RtI ruJ2_RtJ rqL_ok z22
theorem zw22 : zwid cq22.2.1.1 cq22.1 0 3 = true := by decide +kernel
set_option maxRecDepth 100000 in
theorem yw22 : yRows gAll LAll yt4 mt22 gHo 3 3 (zby cX3_isMark) p22 b22 p22 = true := by decide +kernel
set_option maxRecDepth 100000 in
theorem m22 (l : Launch) : kMet gAll LAll vwCl rFo rZs rRs rNs rTs l yX3_isMark cX3_isMark 3 (some .boolean) 0 0 cq22 := kmet_y2 (rt := 3) (by decide +kernel) yr22 zw22 rfl yw22 LAll_ok LAll_la yt4_ok gHo_ok rfl (fun G n Qf => yA_n) rfl (fun G n Rr => yA_n) rfl
/-! 23 Line.isRegister (I)Z -/
def mt23 : yMt := ([], ([], ([], [])))
theorem rc23 : yRc cq23 13365 1 = true := by decide +kernel
theorem yr23 : yRun gAll t23 b23 cq23 := yRun_z gAll_tag ruI2_RtI ruJ2_RtJ rqL_ok z23
theorem zw23 : zwid cq23.2.1.1 cq23.1 0 2 = true := by decide +kernel
set_option maxRecDepth 100000 in
theorem yw23 : yRows gAll LAll yt4 mt23 gHo 2 3 (zby cX3_isRegister) p23 b23 p23 = true := by decide +kernel
set_option maxRecDepth 100000 in
theorem m23 (l : Launch) : kMet gAll LAll vwCl rFo rZs rRs rNs rTs l yX3_isRegister cX3_isRegister 2 (some .boolean) 0 0 cq23 := kmet_y2 (rt := 3) (by decide +kernel) yr23 zw23 rfl yw23 LAll_ok LAll_la yt4_ok gHo_ok rfl (fun G n Qf => yA_n) rfl (fun G n Rr => yA_n) rfl
/-! 24 Assembler.address ()Z -/
theorem hdV_X2_beginAddress : yX2_beginAddress.cls = RX2 ∧ yX2_beginAddress.cls ≠ "java/lang/invoke/MethodHandle" ∧ yX2_beginAddress.cls ≠ "java/lang/invoke/VarHandle" ∧ (parseMethodDescriptor yX2_beginAddress.desc).map (fun d => d.parameters.length) = some 0 := by decide +kernel
theorem st20 (l : Launch) {G : rGm} {cc : ByteArray} {nL n fr lo : Nat} {ret : Option FieldType} {Qf : kQf} (hf : 1 ≤ fr) (hlo : 20 ≤ lo) : ySite gAll LAll vwCl rFo rZs rRs rNs rTs G l cc nL RX0 ret fr lo n Qf 182 413 cq21 := ys_V 0 13414 4 rc21 lo_13414 kc4 (m21 l) kGood kw1145 kw1146 kw1147 kw142 kw1515 hdV_X2_beginAddress hf hlo
theorem hdV_X1_beZero : yX1_beZero.cls = RX1 ∧ yX1_beZero.cls ≠ "java/lang/invoke/MethodHandle" ∧ yX1_beZero.cls ≠ "java/lang/invoke/VarHandle" ∧ (parseMethodDescriptor yX1_beZero.desc).map (fun d => d.parameters.length) = some 0 := by decide +kernel
theorem st21 (l : Launch) {G : rGm} {cc : ByteArray} {nL n fr lo : Nat} {ret : Option FieldType} {Qf : kQf} (hf : 1 ≤ fr) (hlo : 20 ≤ lo) : ySite gAll LAll vwCl rFo rZs rRs rNs rTs G l cc nL RX0 ret fr lo n Qf 182 416 cq11 := ys_V 0 13407 3 rc11 lo_13407 kc3 (m11 l) kGood kw1148 kw1149 kw1150 kw181 kw1463 hdV_X1_beZero hf hlo
theorem hdV_X3_isMark : yX3_isMark.cls = RX3 ∧ yX3_isMark.cls ≠ "java/lang/invoke/MethodHandle" ∧ yX3_isMark.cls ≠ "java/lang/invoke/VarHandle" ∧ (parseMethodDescriptor yX3_isMark.desc).map (fun d => d.parameters.length) = some 2 := by decide +kernel
theorem st22 (l : Launch) {G : rGm} {cc : ByteArray} {nL n fr lo : Nat} {ret : Option FieldType} {Qf : kQf} (hf : 1 ≤ fr) (hlo : 22 ≤ lo) : ySite gAll LAll vwCl rFo rZs rRs rNs rTs G l cc nL RX0 ret fr lo n Qf 182 200 cq22 := ys_V 2 13365 5 rc22 lo_13365 kc5 (m22 l) kGood kw1151 kw1152 kw1153 kw90 kw1628 hdV_X3_isMark hf hlo
theorem hdV_X1_read : yX1_read.cls = RX1 ∧ yX1_read.cls ≠ "java/lang/invoke/MethodHandle" ∧ yX1_read.cls ≠ "java/lang/invoke/VarHandle" ∧ (parseMethodDescriptor yX1_read.desc).map (fun d => d.parameters.length) = some 3 := by decide +kernel
theorem st23 (l : Launch) {G : rGm} {cc : ByteArray} {nL n fr lo : Nat} {ret : Option FieldType} {Qf : kQf} (hf : 4 ≤ fr) (hlo : 105 ≤ lo) : ySite gAll LAll vwCl rFo rZs rRs rNs rTs G l cc nL RX0 ret fr lo n Qf 182 286 cq20 := ys_V 3 13407 3 rc20 lo_13407 kc3 (m20 l) kGood kw1155 kw1156 kw1157 kw181 kw1495 hdV_X1_read hf hlo
theorem hdV_X3_isRegister : yX3_isRegister.cls = RX3 ∧ yX3_isRegister.cls ≠ "java/lang/invoke/MethodHandle" ∧ yX3_isRegister.cls ≠ "java/lang/invoke/VarHandle" ∧ (parseMethodDescriptor yX3_isRegister.desc).map (fun d => d.parameters.length) = some 1 := by decide +kernel
theorem st24 (l : Launch) {G : rGm} {cc : ByteArray} {nL n fr lo : Nat} {ret : Option FieldType} {Qf : kQf} (hf : 1 ≤ fr) (hlo : 21 ≤ lo) : ySite gAll LAll vwCl rFo rZs rRs rNs rTs G l cc nL RX0 ret fr lo n Qf 182 388 cq23 := ys_V 1 13365 5 rc23 lo_13365 kc5 (m23 l) kGood kw1158 kw1159 kw1160 kw90 kw1629 hdV_X3_isRegister hf hlo
theorem hdV_X0_registerTerm : yX0_registerTerm.cls = RX0 ∧ yX0_registerTerm.cls ≠ "java/lang/invoke/MethodHandle" ∧ yX0_registerTerm.cls ≠ "java/lang/invoke/VarHandle" ∧ (parseMethodDescriptor yX0_registerTerm.desc).map (fun d => d.parameters.length) = some 0 := by decide +kernel
theorem st25 (l : Launch) {G : rGm} {cc : ByteArray} {nL n fr lo : Nat} {ret : Option FieldType} {Qf : kQf} (hf : 3 ≤ fr) (hlo : 66 ≤ lo) : ySite gAll LAll vwCl rFo rZs rRs rNs rTs G l cc nL RX0 ret fr lo n Qf 182 422 cq2 := ys_V 0 13364 2 rc2 lo_13364 kc2 (m2 l) kGood kw1161 kw1162 kw1163 kw249 kw1380 hdV_X0_registerTerm hf hlo
theorem st26 (l : Launch) {G : rGm} {cc : ByteArray} {nL n fr lo : Nat} {ret : Option FieldType} {Qf : kQf} (hf : 3 ≤ fr) (hlo : 66 ≤ lo) : ySite gAll LAll vwCl rFo rZs rRs rNs rTs G l cc nL RX0 ret fr lo n Qf 182 425 cq10 := ys_V 1 13407 3 rc10 lo_13407 kc3 (m10 l) kGood kw1164 kw1165 kw1166 kw181 kw1438 hdV_X1_apply hf hlo
def mt24 : yMt := ([(182, (413, 0)), (182, (416, 1)), (182, (200, 2)), (182, (286, 3)), (182, (388, 4)), (182, (422, 5)), (182, (425, 6))], ([], ([], [])))
theorem rc24 : yRc cq24 13364 0 = true := by decide +kernel
theorem yr24 : yRun gAll t24 b24 cq24 := yRun_p (cuts := u24) (fuel := 300) gAll_tag ruI2_RtI ruJ2_RtJ rqL_ok ⟨zsm_e _ z24_s, List.forall_mem_cons.mpr ⟨zsm_e _ z24_0, List.forall_mem_cons.mpr ⟨zsm_e _ z24_1, yA_n⟩⟩⟩
theorem zw24 : zwid cq24.2.1.1 cq24.1 0 4 = true := by decide +kernel
set_option maxRecDepth 100000 in
theorem yw24 : yRows gAll LAll yt1 mt24 gHo 4 3 (zby cX0_address) p24 b24 p24 = true := by decide +kernel
set_option maxRecDepth 100000 in
theorem m24 (l : Launch) : kMet gAll LAll vwCl rFo rZs rRs rNs rTs l yX0_address cX0_address 4 (some .boolean) 4 105 cq24 := kmet_y2 (rt := 3) (by decide +kernel) yr24 zw24 rfl yw24 LAll_ok LAll_la yt1_ok gHo_ok rfl (fun G n Qf => List.forall_mem_cons.mpr ⟨⟨cq21, rfl, st20 l (by decide) (by decide)⟩, List.forall_mem_cons.mpr ⟨⟨cq11, rfl, st21 l (by decide) (by decide)⟩, List.forall_mem_cons.mpr ⟨⟨cq22, rfl, st22 l (by decide) (by decide)⟩, List.forall_mem_cons.mpr ⟨⟨cq20, rfl, st23 l (by decide) (by decide)⟩, List.forall_mem_cons.mpr ⟨⟨cq23, rfl, st24 l (by decide) (by decide)⟩, List.forall_mem_cons.mpr ⟨⟨cq2, rfl, st25 l (by decide) (by decide)⟩, List.forall_mem_cons.mpr ⟨⟨cq10, rfl, st26 l (by decide) (by decide)⟩, yA_n⟩⟩⟩⟩⟩⟩⟩) rfl (fun G n Rr => yA_n) rfl
