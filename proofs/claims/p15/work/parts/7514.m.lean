/-! METHODS, CALLEES FIRST (written by wip/p2/genmeth.py) -/
/-! 314 Model.fields (I)V -/
def mt314 : yMt := ([], ([], ([], [])))
theorem rc314 : yRc cq314 13454 1 = true := by decide +kernel
theorem yr314 : yRun gAll t314 b314 cq314 := yRun_p (cuts := u314) (fuel := 300) gAll_tag ruI2_RtI ruJ2_RtJ rqL_ok ⟨zsm_e _ z314_s, List.forall_mem_cons.mpr ⟨zsm_e _ z314_0, yA_n⟩⟩
theorem zw314 : zwid cq314.2.1.1 cq314.1 0 5 = true := by decide +kernel
set_option maxRecDepth 100000 in
theorem yw314 : yRows gAll LAll yt12 mt314 gHo 5 0 (zby cX13_fields) p314 b314 p314 = true := by decide +kernel
set_option maxRecDepth 100000 in
theorem m314 (l : Launch) : kMet gAll LAll vwCl rFo rZs rRs rNs rTs l yX13_fields cX13_fields 5 none 0 0 cq314 := kmet_y2 (rt := 0) (by decide +kernel) yr314 zw314 rfl yw314 LAll_ok LAll_la yt12_ok gHo_ok rfl (fun G n Qf => yA_n) rfl (fun G n Rr => yA_n) rfl
/-! 315 Model.branch ()V -/
theorem hdV_X13_fields : yX13_fields.cls = RX13 ∧ yX13_fields.cls ≠ "java/lang/invoke/MethodHandle" ∧ yX13_fields.cls ≠ "java/lang/invoke/VarHandle" ∧ (parseMethodDescriptor yX13_fields.desc).map (fun d => d.parameters.length) = some 1 := by decide +kernel
theorem st308 (l : Launch) {G : rGm} {cc : ByteArray} {nL n fr lo : Nat} {ret : Option FieldType} {Qf : kQf} (hf : 1 ≤ fr) (hlo : 24 ≤ lo) : ySite gAll LAll vwCl rFo rZs rRs rNs rTs G l cc nL RX13 ret fr lo n Qf 182 1096 cq314 := ys_V 1 13454 15 rc314 lo_13454 kc15 (m314 l) kGood kw2255 kw2256 kw2257 kw315 kw2445 hdV_X13_fields hf hlo
def mt315 : yMt := ([(182, (937, 0)), (182, (950, 1)), (182, (1096, 2)), (182, (946, 3))], ([], ([], [])))
theorem rc315 : yRc cq315 13454 0 = true := by decide +kernel
theorem yr315 : yRun gAll t315 b315 cq315 := yRun_z gAll_tag ruI2_RtI ruJ2_RtJ rqL_ok z315
theorem zw315 : zwid cq315.2.1.1 cq315.1 0 3 = true := by decide +kernel
set_option maxRecDepth 100000 in
theorem yw315 : yRows gAll LAll yt12 mt315 gHo 3 0 (zby cX13_branch) p315 b315 p315 = true := by decide +kernel
set_option maxRecDepth 100000 in
theorem m315 (l : Launch) : kMet gAll LAll vwCl rFo rZs rRs rNs rTs l yX13_branch cX13_branch 3 none 3 67 cq315 := kmet_y2 (rt := 0) (by decide +kernel) yr315 zw315 rfl yw315 LAll_ok LAll_la yt12_ok gHo_ok rfl (fun G n Qf => List.forall_mem_cons.mpr ⟨⟨cq307, rfl, st303 l (by decide) (by decide)⟩, List.forall_mem_cons.mpr ⟨⟨cq303, rfl, st296 l (by decide) (by decide)⟩, List.forall_mem_cons.mpr ⟨⟨cq314, rfl, st308 l (by decide) (by decide)⟩, List.forall_mem_cons.mpr ⟨⟨cq309, rfl, st306 l (by decide) (by decide)⟩, yA_n⟩⟩⟩⟩) rfl (fun G n Rr => yA_n) rfl
/-! 316 Model.isWaitingDisplacement ()Z -/
def mt316 : yMt := ([], ([], ([], [])))
theorem rc316 : yRc cq316 13454 0 = true := by decide +kernel
theorem yr316 : yRun gAll t316 b316 cq316 := yRun_z gAll_tag ruI2_RtI ruJ2_RtJ rqL_ok z316
theorem zw316 : zwid cq316.2.1.1 cq316.1 0 1 = true := by decide +kernel
set_option maxRecDepth 100000 in
theorem yw316 : yRows gAll LAll yt12 mt316 gHo 1 3 (zby cX13_isWaitingDisplacement) p316 b316 p316 = true := by decide +kernel
set_option maxRecDepth 100000 in
theorem m316 (l : Launch) : kMet gAll LAll vwCl rFo rZs rRs rNs rTs l yX13_isWaitingDisplacement cX13_isWaitingDisplacement 1 (some .boolean) 0 0 cq316 := kmet_y2 (rt := 3) (by decide +kernel) yr316 zw316 rfl yw316 LAll_ok LAll_la yt12_ok gHo_ok rfl (fun G n Qf => yA_n) rfl (fun G n Rr => yA_n) rfl
/-! 317 Model.isWaitingNumber ()Z -/
def mt317 : yMt := ([], ([], ([], [])))
theorem rc317 : yRc cq317 13454 0 = true := by decide +kernel
theorem yr317 : yRun gAll t317 b317 cq317 := yRun_z gAll_tag ruI2_RtI ruJ2_RtJ rqL_ok z317
theorem zw317 : zwid cq317.2.1.1 cq317.1 0 1 = true := by decide +kernel
set_option maxRecDepth 100000 in
theorem yw317 : yRows gAll LAll yt12 mt317 gHo 1 3 (zby cX13_isWaitingNumber) p317 b317 p317 = true := by decide +kernel
set_option maxRecDepth 100000 in
theorem m317 (l : Launch) : kMet gAll LAll vwCl rFo rZs rRs rNs rTs l yX13_isWaitingNumber cX13_isWaitingNumber 1 (some .boolean) 0 0 cq317 := kmet_y2 (rt := 3) (by decide +kernel) yr317 zw317 rfl yw317 LAll_ok LAll_la yt12_ok gHo_ok rfl (fun G n Qf => yA_n) rfl (fun G n Rr => yA_n) rfl
/-! 318 Model.allows (II)Z -/
set_option maxRecDepth 100000 in
theorem w318_0 : decode cX13_allows 1 = .ok (.tableswitch 114 0 6 #[43, 65, 114, 114, 82, 92, 103], 43) := by decide +kernel
def mt318 : yMt := ([], ([], ([(1, (3, (0, (24, (0, [(0, 1), (1, 7), (2, 24), (3, 24), (4, 12), (5, 16), (6, 20)])))))], [])))
theorem yr318 : yRun gAll t318 b318 cq318 := yRun_z gAll_tag ruI2_RtI ruJ2_RtJ rqL_ok z318
theorem zw318 : zwid cq318.2.1.1 cq318.1 0 2 = true := by decide +kernel
set_option maxRecDepth 100000 in
theorem yw318 : yRows gAll LAll yt12 mt318 gHo 2 3 (zby cX13_allows) p318 b318 p318 = true := by decide +kernel
set_option maxRecDepth 100000 in
theorem m318 (l : Launch) : kMet gAll LAll vwCl rFo rZs rRs rNs rTs l yX13_allows cX13_allows 2 (some .boolean) 0 0 cq318 := kmet_y2 (rt := 3) (by decide +kernel) yr318 zw318 rfl yw318 LAll_ok LAll_la yt12_ok gHo_ok rfl (fun G n Qf => yA_n) rfl (fun G n Rr => List.forall_mem_cons.mpr ⟨k_table _ p318 (fun b t hb ls st s h => kV_at hb h) w318_0 (by decide +kernel) (by decide +kernel) rfl rfl, yA_n⟩) rfl
/-! 319 Model.byteOf (I)V -/
def mt319 : yMt := ([], ([], ([], [])))
theorem rc319 : yRc cq319 13454 1 = true := by decide +kernel
theorem yr319 : yRun gAll t319 b319 cq319 := yRun_z gAll_tag ruI2_RtI ruJ2_RtJ rqL_ok z319
theorem zw319 : zwid cq319.2.1.1 cq319.1 0 2 = true := by decide +kernel
set_option maxRecDepth 100000 in
theorem yw319 : yRows gAll LAll yt12 mt319 gHo 2 0 (zby cX13_byteOf) p319 b319 p319 = true := by decide +kernel
set_option maxRecDepth 100000 in
theorem m319 (l : Launch) : kMet gAll LAll vwCl rFo rZs rRs rNs rTs l yX13_byteOf cX13_byteOf 2 none 0 0 cq319 := kmet_y2 (rt := 0) (by decide +kernel) yr319 zw319 rfl yw319 LAll_ok LAll_la yt12_ok gHo_ok rfl (fun G n Qf => yA_n) rfl (fun G n Rr => yA_n) rfl
/-! 320 Model.bytesFor (II)I -/
def mt320 : yMt := ([], ([], ([], [])))
theorem yr320 : yRun gAll t320 b320 cq320 := yRun_z gAll_tag ruI2_RtI ruJ2_RtJ rqL_ok z320
theorem zw320 : zwid cq320.2.1.1 cq320.1 0 2 = true := by decide +kernel
set_option maxRecDepth 100000 in
theorem yw320 : yRows gAll LAll yt12 mt320 gHo 2 1 (zby cX13_bytesFor) p320 b320 p320 = true := by decide +kernel
set_option maxRecDepth 100000 in
theorem m320 (l : Launch) : kMet gAll LAll vwCl rFo rZs rRs rNs rTs l yX13_bytesFor cX13_bytesFor 2 (some .int) 0 0 cq320 := kmet_y2 (rt := 1) (by decide +kernel) yr320 zw320 rfl yw320 LAll_ok LAll_la yt12_ok gHo_ok rfl (fun G n Qf => yA_n) rfl (fun G n Rr => yA_n) rfl
/-! 321 Model.hasForm (I)Z -/
def mt321 : yMt := ([], ([], ([], [])))
theorem yr321 : yRun gAll t321 b321 cq321 := yRun_z gAll_tag ruI2_RtI ruJ2_RtJ rqL_ok z321
theorem zw321 : zwid cq321.2.1.1 cq321.1 0 1 = true := by decide +kernel
set_option maxRecDepth 100000 in
theorem yw321 : yRows gAll LAll yt12 mt321 gHo 1 3 (zby cX13_hasForm) p321 b321 p321 = true := by decide +kernel
set_option maxRecDepth 100000 in
theorem m321 (l : Launch) : kMet gAll LAll vwCl rFo rZs rRs rNs rTs l yX13_hasForm cX13_hasForm 1 (some .boolean) 0 0 cq321 := kmet_y2 (rt := 3) (by decide +kernel) yr321 zw321 rfl yw321 LAll_ok LAll_la yt12_ok gHo_ok rfl (fun G n Qf => yA_n) rfl (fun G n Rr => yA_n) rfl
/-! 322 Model.putBytes (JI)V -/
theorem hdV_X13_byteOf : yX13_byteOf.cls = RX13 ∧ yX13_byteOf.cls ≠ "java/lang/invoke/MethodHandle" ∧ yX13_byteOf.cls ≠ "java/lang/invoke/VarHandle" ∧ (parseMethodDescriptor yX13_byteOf.desc).map (fun d => d.parameters.length) = some 1 := by decide +kernel
theorem st309 (l : Launch) {G : rGm} {cc : ByteArray} {nL n fr lo : Nat} {ret : Option FieldType} {Qf : kQf} (hf : 1 ≤ fr) (hlo : 21 ≤ lo) : ySite gAll LAll vwCl rFo rZs rRs rNs rTs G l cc nL RX13 ret fr lo n Qf 182 1119 cq319 := ys_V 1 13454 15 rc319 lo_13454 kc15 (m319 l) kGood kw2640 kw2641 kw2642 kw315 kw2320 hdV_X13_byteOf hf hlo
def mt322 : yMt := ([(182, (1119, 0))], ([], ([], [])))
theorem rc322 : yRc cq322 13454 2 = true := by decide +kernel
theorem yr322 : yRun gAll t322 b322 cq322 := yRun_p (cuts := u322) (fuel := 300) gAll_tag ruI2_RtI ruJ2_RtJ rqL_ok ⟨zsm_e _ z322_s, List.forall_mem_cons.mpr ⟨zsm_e _ z322_0, yA_n⟩⟩
theorem zw322 : zwid cq322.2.1.1 cq322.1 0 5 = true := by decide +kernel
set_option maxRecDepth 100000 in
theorem yw322 : yRows gAll LAll yt12 mt322 gHo 5 0 (zby cX13_putBytes) p322 b322 p322 = true := by decide +kernel
set_option maxRecDepth 100000 in
theorem m322 (l : Launch) : kMet gAll LAll vwCl rFo rZs rRs rNs rTs l yX13_putBytes cX13_putBytes 5 none 1 21 cq322 := kmet_y2 (rt := 0) (by decide +kernel) yr322 zw322 rfl yw322 LAll_ok LAll_la yt12_ok gHo_ok rfl (fun G n Qf => List.forall_mem_cons.mpr ⟨⟨cq319, rfl, st309 l (by decide) (by decide)⟩, yA_n⟩) rfl (fun G n Rr => yA_n) rfl
/-! 323 Model.memoryOf (I)V -/
theorem hdV_X13_isWaitingDisplacement : yX13_isWaitingDisplacement.cls = RX13 ∧ yX13_isWaitingDisplacement.cls ≠ "java/lang/invoke/MethodHandle" ∧ yX13_isWaitingDisplacement.cls ≠ "java/lang/invoke/VarHandle" ∧ (parseMethodDescriptor yX13_isWaitingDisplacement.desc).map (fun d => d.parameters.length) = some 0 := by decide +kernel
theorem st310 (l : Launch) {G : rGm} {cc : ByteArray} {nL n fr lo : Nat} {ret : Option FieldType} {Qf : kQf} (hf : 1 ≤ fr) (hlo : 20 ≤ lo) : ySite gAll LAll vwCl rFo rZs rRs rNs rTs G l cc nL RX13 ret fr lo n Qf 182 1069 cq316 := ys_V 0 13454 15 rc316 lo_13454 kc15 (m316 l) kGood kw2237 kw2238 kw2239 kw315 kw2579 hdV_X13_isWaitingDisplacement hf hlo
theorem hdV_X13_putBytes : yX13_putBytes.cls = RX13 ∧ yX13_putBytes.cls ≠ "java/lang/invoke/MethodHandle" ∧ yX13_putBytes.cls ≠ "java/lang/invoke/VarHandle" ∧ (parseMethodDescriptor yX13_putBytes.desc).map (fun d => d.parameters.length) = some 2 := by decide +kernel
theorem st311 (l : Launch) {G : rGm} {cc : ByteArray} {nL n fr lo : Nat} {ret : Option FieldType} {Qf : kQf} (hf : 2 ≤ fr) (hlo : 45 ≤ lo) : ySite gAll LAll vwCl rFo rZs rRs rNs rTs G l cc nL RX13 ret fr lo n Qf 182 1122 cq322 := ys_V 2 13454 15 rc322 lo_13454 kc15 (m322 l) kGood kw2643 kw2644 kw2645 kw315 kw2745 hdV_X13_putBytes hf hlo
def mt323 : yMt := ([(182, (1069, 0)), (182, (1119, 1)), (182, (1122, 2))], ([], ([], [])))
theorem rc323 : yRc cq323 13454 1 = true := by decide +kernel
theorem yr323 : yRun gAll t323 b323 cq323 := yRun_p (cuts := u323) (fuel := 300) gAll_tag ruI2_RtI ruJ2_RtJ rqL_ok ⟨zsm_e _ z323_s, List.forall_mem_cons.mpr ⟨zsm_e _ z323_0, List.forall_mem_cons.mpr ⟨zsm_e _ z323_1, List.forall_mem_cons.mpr ⟨zsm_e _ z323_2, yA_n⟩⟩⟩⟩
theorem zw323 : zwid cq323.2.1.1 cq323.1 0 7 = true := by decide +kernel
set_option maxRecDepth 100000 in
theorem yw323 : yRows gAll LAll yt12 mt323 gHo 7 0 (zby cX13_memoryOf) p323 b323 p323 = true := by decide +kernel
set_option maxRecDepth 100000 in
theorem m323 (l : Launch) : kMet gAll LAll vwCl rFo rZs rRs rNs rTs l yX13_memoryOf cX13_memoryOf 7 none 2 45 cq323 := kmet_y2 (rt := 0) (by decide +kernel) yr323 zw323 rfl yw323 LAll_ok LAll_la yt12_ok gHo_ok rfl (fun G n Qf => List.forall_mem_cons.mpr ⟨⟨cq316, rfl, st310 l (by decide) (by decide)⟩, List.forall_mem_cons.mpr ⟨⟨cq319, rfl, st309 l (by decide) (by decide)⟩, List.forall_mem_cons.mpr ⟨⟨cq322, rfl, st311 l (by decide) (by decide)⟩, yA_n⟩⟩⟩) rfl (fun G n Rr => yA_n) rfl
/-! 324 Model.place (II)I -/
set_option maxRecDepth 100000 in
theorem w324_0 : decode cX13_place 1 = .ok (.tableswitch 267 1 12 #[63, 82, 101, 120, 139, 149, 168, 188, 198, 217, 227, 247], 63) := by decide +kernel
def mt324 : yMt := ([], ([], ([(1, (3, (0, (67, (0, [(1, 1), (2, 7), (3, 13), (4, 19), (5, 25), (6, 29), (7, 35), (8, 41), (9, 45), (10, 51), (11, 55), (12, 61)])))))], [])))
theorem yr324 : yRun gAll t324 b324 cq324 := yRun_z gAll_tag ruI2_RtI ruJ2_RtJ rqL_ok z324
theorem zw324 : zwid cq324.2.1.1 cq324.1 0 2 = true := by decide +kernel
set_option maxRecDepth 100000 in
theorem yw324 : yRows gAll LAll yt12 mt324 gHo 2 1 (zby cX13_place) p324 b324 p324 = true := by decide +kernel
set_option maxRecDepth 100000 in
theorem m324 (l : Launch) : kMet gAll LAll vwCl rFo rZs rRs rNs rTs l yX13_place cX13_place 2 (some .int) 0 0 cq324 := kmet_y2 (rt := 1) (by decide +kernel) yr324 zw324 rfl yw324 LAll_ok LAll_la yt12_ok gHo_ok rfl (fun G n Qf => yA_n) rfl (fun G n Rr => List.forall_mem_cons.mpr ⟨k_table _ p324 (fun b t hb ls st s h => kV_at hb h) w324_0 (by decide +kernel) (by decide +kernel) rfl rfl, yA_n⟩) rfl
/-! 325 Model.holds (I)Z -/
theorem hdS_X13_bytesFor : yX13_bytesFor.cls ≠ "java/lang/invoke/MethodHandle" ∧ yX13_bytesFor.cls ≠ "java/lang/invoke/VarHandle" ∧ (parseMethodDescriptor yX13_bytesFor.desc).map (fun d => d.parameters.length) = some 2 := by decide +kernel
theorem st312 (l : Launch) {G : rGm} {cc : ByteArray} {nL n fr lo : Nat} {ret : Option FieldType} {Qf : kQf} (hf : 1 ≤ fr) (hlo : 21 ≤ lo) : ySite gAll LAll vwCl rFo rZs rRs rNs rTs G l cc nL RX13 ret fr lo n Qf 184 1110 cq320 := ys_S 2 rfl (m320 l) kGood kw2526 kw2527 kw315 kw2321 hdS_X13_bytesFor hf hlo
theorem hdV_X13_isWaitingNumber : yX13_isWaitingNumber.cls = RX13 ∧ yX13_isWaitingNumber.cls ≠ "java/lang/invoke/MethodHandle" ∧ yX13_isWaitingNumber.cls ≠ "java/lang/invoke/VarHandle" ∧ (parseMethodDescriptor yX13_isWaitingNumber.desc).map (fun d => d.parameters.length) = some 0 := by decide +kernel
theorem st313 (l : Launch) {G : rGm} {cc : ByteArray} {nL n fr lo : Nat} {ret : Option FieldType} {Qf : kQf} (hf : 1 ≤ fr) (hlo : 20 ≤ lo) : ySite gAll LAll vwCl rFo rZs rRs rNs rTs G l cc nL RX13 ret fr lo n Qf 182 1052 cq317 := ys_V 0 13454 15 rc317 lo_13454 kc15 (m317 l) kGood kw2223 kw2224 kw2225 kw315 kw2580 hdV_X13_isWaitingNumber hf hlo
def mt325 : yMt := ([(184, (1110, 0)), (182, (1052, 1))], ([], ([], [])))
theorem rc325 : yRc cq325 13454 1 = true := by decide +kernel
theorem yr325 : yRun gAll t325 b325 cq325 := yRun_z gAll_tag ruI2_RtI ruJ2_RtJ rqL_ok z325
theorem zw325 : zwid cq325.2.1.1 cq325.1 0 3 = true := by decide +kernel
set_option maxRecDepth 100000 in
theorem yw325 : yRows gAll LAll yt12 mt325 gHo 3 3 (zby cX13_holds) p325 b325 p325 = true := by decide +kernel
set_option maxRecDepth 100000 in
theorem m325 (l : Launch) : kMet gAll LAll vwCl rFo rZs rRs rNs rTs l yX13_holds cX13_holds 3 (some .boolean) 1 21 cq325 := kmet_y2 (rt := 3) (by decide +kernel) yr325 zw325 rfl yw325 LAll_ok LAll_la yt12_ok gHo_ok rfl (fun G n Qf => List.forall_mem_cons.mpr ⟨⟨cq320, rfl, st312 l (by decide) (by decide)⟩, List.forall_mem_cons.mpr ⟨⟨cq317, rfl, st313 l (by decide) (by decide)⟩, yA_n⟩⟩) rfl (fun G n Rr => yA_n) rfl
/-! 326 Model.suits (II)Z -/
theorem hdS_X13_place : yX13_place.cls ≠ "java/lang/invoke/MethodHandle" ∧ yX13_place.cls ≠ "java/lang/invoke/VarHandle" ∧ (parseMethodDescriptor yX13_place.desc).map (fun d => d.parameters.length) = some 2 := by decide +kernel
theorem st314 (l : Launch) {G : rGm} {cc : ByteArray} {nL n fr lo : Nat} {ret : Option FieldType} {Qf : kQf} (hf : 1 ≤ fr) (hlo : 21 ≤ lo) : ySite gAll LAll vwCl rFo rZs rRs rNs rTs G l cc nL RX13 ret fr lo n Qf 184 1113 cq324 := ys_S 2 rfl (m324 l) kGood kw2836 kw2837 kw315 kw2732 hdS_X13_place hf hlo
theorem hdV_X13_holds : yX13_holds.cls = RX13 ∧ yX13_holds.cls ≠ "java/lang/invoke/MethodHandle" ∧ yX13_holds.cls ≠ "java/lang/invoke/VarHandle" ∧ (parseMethodDescriptor yX13_holds.desc).map (fun d => d.parameters.length) = some 1 := by decide +kernel
theorem st315 (l : Launch) {G : rGm} {cc : ByteArray} {nL n fr lo : Nat} {ret : Option FieldType} {Qf : kQf} (hf : 2 ≤ fr) (hlo : 43 ≤ lo) : ySite gAll LAll vwCl rFo rZs rRs rNs rTs G l cc nL RX13 ret fr lo n Qf 182 1116 cq325 := ys_V 1 13454 15 rc325 lo_13454 kc15 (m325 l) kGood kw2838 kw2839 kw2840 kw315 kw2525 hdV_X13_holds hf hlo
set_option maxRecDepth 100000 in
theorem w326_0 : decode cX13_suits 29 = .ok (.tableswitch 187 1 8 #[47, 58, 74, 98, 47, 118, 129, 156], 47) := by decide +kernel
def mt326 : yMt := ([(184, (1113, 0)), (182, (1116, 1)), (182, (1052, 2))], ([], ([(29, (3, (0, (39, (0, [(1, 4), (2, 8), (3, 13), (4, 18), (5, 4), (6, 23), (7, 27), (8, 33)])))))], [])))
theorem rc326 : yRc cq326 13454 2 = true := by decide +kernel
theorem yr326 : yRun gAll t326 b326 cq326 := yRun_z gAll_tag ruI2_RtI ruJ2_RtJ rqL_ok z326
theorem zw326 : zwid cq326.2.1.1 cq326.1 0 4 = true := by decide +kernel
set_option maxRecDepth 100000 in
theorem yw326 : yRows gAll LAll yt12 mt326 gHo 4 3 (zby cX13_suits) p326 b326 p326 = true := by decide +kernel
set_option maxRecDepth 100000 in
theorem m326 (l : Launch) : kMet gAll LAll vwCl rFo rZs rRs rNs rTs l yX13_suits cX13_suits 4 (some .boolean) 2 43 cq326 := kmet_y2 (rt := 3) (by decide +kernel) yr326 zw326 rfl yw326 LAll_ok LAll_la yt12_ok gHo_ok rfl (fun G n Qf => List.forall_mem_cons.mpr ⟨⟨cq324, rfl, st314 l (by decide) (by decide)⟩, List.forall_mem_cons.mpr ⟨⟨cq325, rfl, st315 l (by decide) (by decide)⟩, List.forall_mem_cons.mpr ⟨⟨cq317, rfl, st313 l (by decide) (by decide)⟩, yA_n⟩⟩⟩) rfl (fun G n Rr => List.forall_mem_cons.mpr ⟨k_table _ p326 (fun b t hb ls st s h => kV_at hb h) w326_0 (by decide +kernel) (by decide +kernel) rfl rfl, yA_n⟩) rfl
/-! 327 Model.tries (I)Z -/
theorem hdS_X13_allows : yX13_allows.cls ≠ "java/lang/invoke/MethodHandle" ∧ yX13_allows.cls ≠ "java/lang/invoke/VarHandle" ∧ (parseMethodDescriptor yX13_allows.desc).map (fun d => d.parameters.length) = some 2 := by decide +kernel
theorem st316 (l : Launch) {G : rGm} {cc : ByteArray} {nL n fr lo : Nat} {ret : Option FieldType} {Qf : kQf} (hf : 1 ≤ fr) (hlo : 21 ≤ lo) : ySite gAll LAll vwCl rFo rZs rRs rNs rTs G l cc nL RX13 ret fr lo n Qf 184 1125 cq318 := ys_S 2 rfl (m318 l) kGood kw2854 kw2855 kw315 kw2197 hdS_X13_allows hf hlo
theorem hdV_X13_suits : yX13_suits.cls = RX13 ∧ yX13_suits.cls ≠ "java/lang/invoke/MethodHandle" ∧ yX13_suits.cls ≠ "java/lang/invoke/VarHandle" ∧ (parseMethodDescriptor yX13_suits.desc).map (fun d => d.parameters.length) = some 2 := by decide +kernel
theorem st317 (l : Launch) {G : rGm} {cc : ByteArray} {nL n fr lo : Nat} {ret : Option FieldType} {Qf : kQf} (hf : 3 ≤ fr) (hlo : 66 ≤ lo) : ySite gAll LAll vwCl rFo rZs rRs rNs rTs G l cc nL RX13 ret fr lo n Qf 182 1128 cq326 := ys_V 2 13454 15 rc326 lo_13454 kc15 (m326 l) kGood kw2856 kw2857 kw2858 kw315 kw2835 hdV_X13_suits hf hlo
theorem hdS_X13_hasForm : yX13_hasForm.cls ≠ "java/lang/invoke/MethodHandle" ∧ yX13_hasForm.cls ≠ "java/lang/invoke/VarHandle" ∧ (parseMethodDescriptor yX13_hasForm.desc).map (fun d => d.parameters.length) = some 1 := by decide +kernel
theorem st318 (l : Launch) {G : rGm} {cc : ByteArray} {nL n fr lo : Nat} {ret : Option FieldType} {Qf : kQf} (hf : 1 ≤ fr) (hlo : 20 ≤ lo) : ySite gAll LAll vwCl rFo rZs rRs rNs rTs G l cc nL RX13 ret fr lo n Qf 184 1131 cq321 := ys_S 1 rfl (m321 l) kGood kw2859 kw2860 kw315 kw2520 hdS_X13_hasForm hf hlo
theorem hdV_X13_memoryOf : yX13_memoryOf.cls = RX13 ∧ yX13_memoryOf.cls ≠ "java/lang/invoke/MethodHandle" ∧ yX13_memoryOf.cls ≠ "java/lang/invoke/VarHandle" ∧ (parseMethodDescriptor yX13_memoryOf.desc).map (fun d => d.parameters.length) = some 1 := by decide +kernel
theorem st319 (l : Launch) {G : rGm} {cc : ByteArray} {nL n fr lo : Nat} {ret : Option FieldType} {Qf : kQf} (hf : 3 ≤ fr) (hlo : 71 ≤ lo) : ySite gAll LAll vwCl rFo rZs rRs rNs rTs G l cc nL RX13 ret fr lo n Qf 182 1134 cq323 := ys_V 1 13454 15 rc323 lo_13454 kc15 (m323 l) kGood kw2861 kw2862 kw2863 kw315 kw2639 hdV_X13_memoryOf hf hlo
def mt327 : yMt := ([(184, (1125, 0)), (182, (1128, 1)), (184, (1113, 2)), (182, (1119, 3)), (184, (1131, 4)), (182, (1134, 5)), (182, (1052, 6)), (184, (1110, 7)), (182, (1122, 8))], ([], ([], [])))
theorem rc327 : yRc cq327 13454 1 = true := by decide +kernel
theorem yr327 : yRun gAll t327 b327 cq327 := yRun_p (cuts := u327) (fuel := 300) gAll_tag ruI2_RtI ruJ2_RtJ rqL_ok ⟨zsm_e _ z327_s, List.forall_mem_cons.mpr ⟨zsm_e _ z327_0, List.forall_mem_cons.mpr ⟨zsm_e _ z327_1, List.forall_mem_cons.mpr ⟨zsm_e _ z327_2, List.forall_mem_cons.mpr ⟨zsm_e _ z327_3, List.forall_mem_cons.mpr ⟨zsm_e _ z327_4, List.forall_mem_cons.mpr ⟨zsm_e _ z327_5, List.forall_mem_cons.mpr ⟨zsm_e _ z327_6, List.forall_mem_cons.mpr ⟨zsm_e _ z327_7, List.forall_mem_cons.mpr ⟨zsm_e _ z327_8, List.forall_mem_cons.mpr ⟨zsm_e _ z327_9, List.forall_mem_cons.mpr ⟨zsm_e _ z327_10, yA_n⟩⟩⟩⟩⟩⟩⟩⟩⟩⟩⟩⟩
theorem zw327 : zwid cq327.2.1.1 cq327.1 0 14 = true := by decide +kernel
set_option maxRecDepth 100000 in
theorem yw327 : yRows gAll LAll yt12 mt327 gHo 14 3 (zby cX13_tries) p327 b327 p327 = true := by decide +kernel
set_option maxRecDepth 100000 in
theorem m327 (l : Launch) : kMet gAll LAll vwCl rFo rZs rRs rNs rTs l yX13_tries cX13_tries 14 (some .boolean) 3 71 cq327 := kmet_y2 (rt := 3) (by decide +kernel) yr327 zw327 rfl yw327 LAll_ok LAll_la yt12_ok gHo_ok rfl (fun G n Qf => List.forall_mem_cons.mpr ⟨⟨cq318, rfl, st316 l (by decide) (by decide)⟩, List.forall_mem_cons.mpr ⟨⟨cq326, rfl, st317 l (by decide) (by decide)⟩, List.forall_mem_cons.mpr ⟨⟨cq324, rfl, st314 l (by decide) (by decide)⟩, List.forall_mem_cons.mpr ⟨⟨cq319, rfl, st309 l (by decide) (by decide)⟩, List.forall_mem_cons.mpr ⟨⟨cq321, rfl, st318 l (by decide) (by decide)⟩, List.forall_mem_cons.mpr ⟨⟨cq323, rfl, st319 l (by decide) (by decide)⟩, List.forall_mem_cons.mpr ⟨⟨cq317, rfl, st313 l (by decide) (by decide)⟩, List.forall_mem_cons.mpr ⟨⟨cq320, rfl, st312 l (by decide) (by decide)⟩, List.forall_mem_cons.mpr ⟨⟨cq322, rfl, st311 l (by decide) (by decide)⟩, yA_n⟩⟩⟩⟩⟩⟩⟩⟩⟩) rfl (fun G n Rr => yA_n) rfl
/-! 328 Model.assemble ()V -/
theorem hdV_X13_branch : yX13_branch.cls = RX13 ∧ yX13_branch.cls ≠ "java/lang/invoke/MethodHandle" ∧ yX13_branch.cls ≠ "java/lang/invoke/VarHandle" ∧ (parseMethodDescriptor yX13_branch.desc).map (fun d => d.parameters.length) = some 0 := by decide +kernel
theorem st320 (l : Launch) {G : rGm} {cc : ByteArray} {nL n fr lo : Nat} {ret : Option FieldType} {Qf : kQf} (hf : 4 ≤ fr) (hlo : 89 ≤ lo) : ySite gAll LAll vwCl rFo rZs rRs rNs rTs G l cc nL RX13 ret fr lo n Qf 182 1049 cq315 := ys_V 0 13454 15 rc315 lo_13454 kc15 (m315 l) kGood kw2220 kw2221 kw2222 kw315 kw2279 hdV_X13_branch hf hlo
theorem hdV_X13_tries : yX13_tries.cls = RX13 ∧ yX13_tries.cls ≠ "java/lang/invoke/MethodHandle" ∧ yX13_tries.cls ≠ "java/lang/invoke/VarHandle" ∧ (parseMethodDescriptor yX13_tries.desc).map (fun d => d.parameters.length) = some 1 := by decide +kernel
theorem st321 (l : Launch) {G : rGm} {cc : ByteArray} {nL n fr lo : Nat} {ret : Option FieldType} {Qf : kQf} (hf : 4 ≤ fr) (hlo : 104 ≤ lo) : ySite gAll LAll vwCl rFo rZs rRs rNs rTs G l cc nL RX13 ret fr lo n Qf 182 1078 cq327 := ys_V 1 13454 15 rc327 lo_13454 kc15 (m327 l) kGood kw2241 kw2242 kw2243 kw315 kw2853 hdV_X13_tries hf hlo
def mt328 : yMt := ([(182, (1049, 0)), (182, (1052, 1)), (182, (1069, 2)), (182, (1078, 3)), (182, (678, 4)), (182, (937, 5)), (182, (950, 6)), (182, (1096, 7)), (182, (946, 8))], ([], ([], [])))
theorem rc328 : yRc cq328 13454 0 = true := by decide +kernel
theorem yr328 : yRun gAll t328 b328 cq328 := yRun_p (cuts := u328) (fuel := 300) gAll_tag ruI2_RtI ruJ2_RtJ rqL_ok ⟨zsm_e _ z328_s, List.forall_mem_cons.mpr ⟨zsm_e _ z328_0, List.forall_mem_cons.mpr ⟨zsm_e _ z328_1, List.forall_mem_cons.mpr ⟨zsm_e _ z328_2, List.forall_mem_cons.mpr ⟨zsm_e _ z328_3, List.forall_mem_cons.mpr ⟨zsm_e _ z328_4, List.forall_mem_cons.mpr ⟨zsm_e _ z328_5, List.forall_mem_cons.mpr ⟨zsm_e _ z328_6, yA_n⟩⟩⟩⟩⟩⟩⟩⟩
theorem zw328 : zwid cq328.2.1.1 cq328.1 0 8 = true := by decide +kernel
set_option maxRecDepth 100000 in
theorem yw328 : yRows gAll LAll yt12 mt328 gHo 8 0 (zby cX13_assemble) p328 b328 p328 = true := by decide +kernel
set_option maxRecDepth 100000 in
theorem m328 (l : Launch) : kMet gAll LAll vwCl rFo rZs rRs rNs rTs l yX13_assemble cX13_assemble 8 none 4 104 cq328 := kmet_y2 (rt := 0) (by decide +kernel) yr328 zw328 rfl yw328 LAll_ok LAll_la yt12_ok gHo_ok rfl (fun G n Qf => List.forall_mem_cons.mpr ⟨⟨cq315, rfl, st320 l (by decide) (by decide)⟩, List.forall_mem_cons.mpr ⟨⟨cq317, rfl, st313 l (by decide) (by decide)⟩, List.forall_mem_cons.mpr ⟨⟨cq316, rfl, st310 l (by decide) (by decide)⟩, List.forall_mem_cons.mpr ⟨⟨cq327, rfl, st321 l (by decide) (by decide)⟩, List.forall_mem_cons.mpr ⟨⟨cq294, rfl, st299 l (by decide) (by decide)⟩, List.forall_mem_cons.mpr ⟨⟨cq307, rfl, st303 l (by decide) (by decide)⟩, List.forall_mem_cons.mpr ⟨⟨cq303, rfl, st296 l (by decide) (by decide)⟩, List.forall_mem_cons.mpr ⟨⟨cq314, rfl, st308 l (by decide) (by decide)⟩, List.forall_mem_cons.mpr ⟨⟨cq309, rfl, st306 l (by decide) (by decide)⟩, yA_n⟩⟩⟩⟩⟩⟩⟩⟩⟩) rfl (fun G n Rr => yA_n) rfl
/-! 329 Model.findSize (I)Z -/
def mt329 : yMt := ([], ([], ([], [])))
theorem rc329 : yRc cq329 13454 1 = true := by decide +kernel
theorem yr329 : yRun gAll t329 b329 cq329 := yRun_p (cuts := u329) (fuel := 300) gAll_tag ruI2_RtI ruJ2_RtJ rqL_ok ⟨zsm_e _ z329_s, List.forall_mem_cons.mpr ⟨zsm_e _ z329_0, List.forall_mem_cons.mpr ⟨zsm_e _ z329_1, List.forall_mem_cons.mpr ⟨zsm_e _ z329_2, List.forall_mem_cons.mpr ⟨zsm_e _ z329_3, List.forall_mem_cons.mpr ⟨zsm_e _ z329_4, List.forall_mem_cons.mpr ⟨zsm_e _ z329_5, yA_n⟩⟩⟩⟩⟩⟩⟩
theorem zw329 : zwid cq329.2.1.1 cq329.1 0 7 = true := by decide +kernel
set_option maxRecDepth 100000 in
theorem yw329 : yRows gAll LAll yt12 mt329 gHo 7 3 (zby cX13_findSize) p329 b329 p329 = true := by decide +kernel
set_option maxRecDepth 100000 in
theorem m329 (l : Launch) : kMet gAll LAll vwCl rFo rZs rRs rNs rTs l yX13_findSize cX13_findSize 7 (some .boolean) 0 0 cq329 := kmet_y2 (rt := 3) (by decide +kernel) yr329 zw329 rfl yw329 LAll_ok LAll_la yt12_ok gHo_ok rfl (fun G n Qf => yA_n) rfl (fun G n Rr => yA_n) rfl
/-! 330 Model.isName (I)Z -/
def mt330 : yMt := ([], ([], ([], [])))
theorem rc330 : yRc cq330 13454 1 = true := by decide +kernel
def fp_Model_isName : List Nat := [231, 347]
theorem ag_Model_isName {s s' : qSg} (hB : ∀ b ∈ fp_Model_isName, AgB gDet s s' b) (as : List qV) : dm_Model_isName as s = dm_Model_isName as s' := by
  unfold dm_Model_isName
  show zRun gDet (dk_Model_isName s') s dc_Model_isName as = zRun gDet (dk_Model_isName s') s' dc_Model_isName as
  exact zRun_ag gd_ok.P hB (show dc_Model_isName.all (fun x => x.1.all (okF gDet fp_Model_isName)) = true by decide +kernel) as
set_option maxHeartbeats 4000000 in
theorem he_Model_isName (s : qSg) : ∀ as r a v, CtBeg gAll d330 as s r a → Typed gAll s → dm_Model_isName (as.map cnV) s = some v → dEv 1031 (([0] : List Nat).map a) (([(0, [(0, 1)]), (0, [(2, 1)])] : List qL).map (qe r)) = some v.2 := by
  intro as r a v hB hT e
  obtain ⟨hlen, ls, hsub, hsat⟩ := hB
  obtain ⟨hls, -, hsc, hav, -⟩ := hsat.now
  have hlen : as.length = 2 := hlen
  match as, hlen with
  | [w0, w1], _ =>
    have x0 := hsub (0, ((2 : Nat), qe r ((26909, []) : qL))) (by rw [hls]; exact List.mem_cons_self)
    cases lsArgs_hd (x0)
    have x1 := hsub (1, ((0 : Nat), qe r ((0, [(0, 1)]) : qL))) (by rw [hls]; exact List.mem_cons_of_mem _ (List.mem_cons_self))
    cases lsArgs_hd (lsArgs_tl (by decide) (by decide) (x1))
    have e1 : dm_Model_isName [((2 : Nat), qe r ((26909, []) : qL)), ((0 : Nat), qe r ((0, [(0, 1)]) : qL))] s = some v := by
      unfold dm_Model_isName at e ⊢
      rw [zRun_cn (map_cn _)] at e
      exact e
    have e2 := ag_Model_isName (s := s) (s' := dSto [(347, dF (([0] : List Nat).map a) 0)] [(231, dZ (([(0, [(0, 1)]), (0, [(2, 1)])] : List qL).map (qe r)) 1)]) (fun b hb => by
      rcases List.mem_cons.mp hb with rfl | hb
      · exact yFld (by decide +kernel) rfl rfl (hsc (231, (0, [(2, 1)])) (List.mem_cons_of_mem _ (List.mem_cons_self)))
      rcases List.mem_cons.mp hb with rfl | hb
      · exact yArr rfl (hav (347, 0) (List.mem_cons_self))
      cases hb) [((2 : Nat), qe r ((26909, []) : qL)), ((0 : Nat), qe r ((0, [(0, 1)]) : qL))]
    rw [e2] at e1
    exact congrArg (fun o => o.map (fun v => v.2)) e1
theorem hd_Model_isName : ∀ s, Typed gAll s → HC gAll t330 (dk_Model_isName s) s := by
  intro s hT j C hC
  match j, hC with
  | j + 0, hC => cases (show none = some C from hC)
set_option maxHeartbeats 4000000 in
theorem dC_Model_isName (s : qSg) (hT : Typed gAll s) : DetC gAll cq330 s (fun as => dm_Model_isName as s) := detC_of (p := 1031) (t := 0) (vs := [0]) (zi := [(0, [(0, 1)]), (0, [(2, 1)])]) (Cd := d330) rfl rfl rfl (⟨⟨_, rfl, ⟨_, rfl, (fun z hz => by
    rcases List.mem_cons.mp hz with rfl | hz
    · exact Or.inl (List.mem_cons_self)
    rcases List.mem_cons.mp hz with rfl | hz
    · exact Or.inl (List.mem_cons_of_mem _ (List.mem_cons_self))
    rcases List.mem_cons.mp hz with rfl | hz
    · exact Or.inl (List.mem_cons_of_mem _ (List.mem_cons_of_mem _ (List.mem_cons_self)))
    rcases List.mem_cons.mp hz with rfl | hz
    · exact Or.inl (List.mem_cons_of_mem _ (List.mem_cons_of_mem _ (List.mem_cons_of_mem _ (List.mem_cons_self))))
    rcases List.mem_cons.mp hz with rfl | hz
    · exact Or.inl (List.mem_cons_of_mem _ (List.mem_cons_of_mem _ (List.mem_cons_of_mem _ (List.mem_cons_of_mem _ (List.mem_cons_self)))))
    rcases List.mem_cons.mp hz with rfl | hz
    · exact Or.inr rfl
    cases hz), List.mem_cons_of_mem _ (List.mem_cons_of_mem _ (List.mem_cons_of_mem _ (List.mem_cons_of_mem _ (List.mem_cons_of_mem _ (List.mem_cons_self)))))⟩, Nat.le_of_ble_eq_true rfl, Nat.le_of_ble_eq_true rfl⟩, ⟨⟨_, rfl, ⟨_, rfl, (fun z hz => by
    rcases List.mem_cons.mp hz with rfl | hz
    · exact Or.inl (List.mem_cons_self)
    rcases List.mem_cons.mp hz with rfl | hz
    · exact Or.inl (List.mem_cons_of_mem _ (List.mem_cons_self))
    rcases List.mem_cons.mp hz with rfl | hz
    · exact Or.inl (List.mem_cons_of_mem _ (List.mem_cons_of_mem _ (List.mem_cons_self)))
    rcases List.mem_cons.mp hz with rfl | hz
    · exact Or.inl (List.mem_cons_of_mem _ (List.mem_cons_of_mem _ (List.mem_cons_of_mem _ (List.mem_cons_self))))
    rcases List.mem_cons.mp hz with rfl | hz
    · exact Or.inl (List.mem_cons_of_mem _ (List.mem_cons_of_mem _ (List.mem_cons_of_mem _ (List.mem_cons_of_mem _ (List.mem_cons_self)))))
    rcases List.mem_cons.mp hz with rfl | hz
    · exact Or.inr rfl
    rcases List.mem_cons.mp hz with rfl | hz
    · exact Or.inl (List.mem_cons_of_mem _ (List.mem_cons_of_mem _ (List.mem_cons_of_mem _ (List.mem_cons_of_mem _ (List.mem_cons_of_mem _ (List.mem_cons_self))))))
    rcases List.mem_cons.mp hz with rfl | hz
    · exact Or.inl (List.mem_cons_of_mem _ (List.mem_cons_of_mem _ (List.mem_cons_of_mem _ (List.mem_cons_of_mem _ (List.mem_cons_of_mem _ (List.mem_cons_of_mem _ (List.mem_cons_self)))))))
    cases hz), List.mem_cons_of_mem _ (List.mem_cons_of_mem _ (List.mem_cons_of_mem _ (List.mem_cons_of_mem _ (List.mem_cons_of_mem _ (List.mem_cons_self)))))⟩, Nat.le_of_ble_eq_true rfl, Nat.le_of_ble_eq_true rfl⟩, trivial⟩⟩) (by decide) (by decide +kernel) (by decide +kernel)
  (fun fs zs z h1 h2 => by
    rw [PQ_c (show fTab[1031]? = none by decide +kernel)]
    match fs, zs, h1, h2 with
    | [f0], [z0, z1], _, _ => exact Iff.rfl) (yDet_b gAll_tag z330 gd_ok (by decide +kernel) (eqCd_ok (by decide +kernel)) hd_Model_isName s) (he_Model_isName s)
theorem yr330 : yRun gAll t330 b330 cq330 := yRun_d (dc := dc_Model_isName) (cl := dk_Model_isName) gAll_tag z330 gd_ok (by decide +kernel) (eqCd_ok (by decide +kernel)) hd_Model_isName rfl rfl (fun s hT => dC_Model_isName s hT)
theorem zw330 : zwid cq330.2.1.1 cq330.1 0 2 = true := by decide +kernel
set_option maxRecDepth 100000 in
theorem yw330 : yRows gAll LAll yt12 mt330 gHo 2 3 (zby cX13_isName) p330 b330 p330 = true := by decide +kernel
set_option maxRecDepth 100000 in
theorem m330 (l : Launch) : kMet gAll LAll vwCl rFo rZs rRs rNs rTs l yX13_isName cX13_isName 2 (some .boolean) 0 0 cq330 := kmet_y2 (rt := 3) (by decide +kernel) yr330 zw330 rfl yw330 LAll_ok LAll_la yt12_ok gHo_ok rfl (fun G n Qf => yA_n) rfl (fun G n Rr => yA_n) rfl
/-! 331 Model.isNamedAs (IJ)Z -/
def mt331 : yMt := ([], ([], ([], [])))
theorem rc331 : yRc cq331 13454 2 = true := by decide +kernel
def fp_Model_isNamedAs : List Nat := [231, 347, 350]
theorem ag_Model_isNamedAs {s s' : qSg} (hB : ∀ b ∈ fp_Model_isNamedAs, AgB gDet s s' b) (as : List qV) : dm_Model_isNamedAs as s = dm_Model_isNamedAs as s' := by
  unfold dm_Model_isNamedAs
  show zRun gDet (dk_Model_isNamedAs s') s dc_Model_isNamedAs as = zRun gDet (dk_Model_isNamedAs s') s' dc_Model_isNamedAs as
  exact zRun_ag gd_ok.P hB (show dc_Model_isNamedAs.all (fun x => x.1.all (okF gDet fp_Model_isNamedAs)) = true by decide +kernel) as
set_option maxHeartbeats 4000000 in
theorem he_Model_isNamedAs (s : qSg) : ∀ as r a v, CtBeg gAll d331 as s r a → Typed gAll s → dm_Model_isNamedAs (as.map cnV) s = some v → dEv 1033 (([0, 2] : List Nat).map a) (([(0, [(0, 1)]), (0, [(1, 1)]), (0, [(3, 1)])] : List qL).map (qe r)) = some v.2 := by
  intro as r a v hB hT e
  obtain ⟨hlen, ls, hsub, hsat⟩ := hB
  obtain ⟨hls, -, hsc, hav, -⟩ := hsat.now
  have hlen : as.length = 3 := hlen
  match as, hlen with
  | [w0, w1, w2], _ =>
    have x0 := hsub (0, ((2 : Nat), qe r ((26909, []) : qL))) (by rw [hls]; exact List.mem_cons_self)
    cases lsArgs_hd (x0)
    have x1 := hsub (1, ((0 : Nat), qe r ((0, [(0, 1)]) : qL))) (by rw [hls]; exact List.mem_cons_of_mem _ (List.mem_cons_self))
    cases lsArgs_hd (lsArgs_tl (by decide) (by decide) (x1))
    have x2 := hsub (2, ((1 : Nat), qe r ((0, [(1, 1)]) : qL))) (by rw [hls]; exact List.mem_cons_of_mem _ (List.mem_cons_of_mem _ (List.mem_cons_self)))
    cases lsArgs_hd (lsArgs_tl (by decide) (by decide) (lsArgs_tl (by decide) (by decide) (x2)))
    have e1 : dm_Model_isNamedAs [((2 : Nat), qe r ((26909, []) : qL)), ((0 : Nat), qe r ((0, [(0, 1)]) : qL)), ((1 : Nat), qe r ((0, [(1, 1)]) : qL))] s = some v := by
      unfold dm_Model_isNamedAs at e ⊢
      rw [zRun_cn (map_cn _)] at e
      exact e
    have e2 := ag_Model_isNamedAs (s := s) (s' := dSto [(347, dF (([0, 2] : List Nat).map a) 0), (350, dF (([0, 2] : List Nat).map a) 1)] [(231, dZ (([(0, [(0, 1)]), (0, [(1, 1)]), (0, [(3, 1)])] : List qL).map (qe r)) 2)]) (fun b hb => by
      rcases List.mem_cons.mp hb with rfl | hb
      · exact yFld (by decide +kernel) rfl rfl (hsc (231, (0, [(3, 1)])) (List.mem_cons_of_mem _ (List.mem_cons_self)))
      rcases List.mem_cons.mp hb with rfl | hb
      · exact yArr rfl (hav (347, 0) (List.mem_cons_self))
      rcases List.mem_cons.mp hb with rfl | hb
      · exact yArr rfl (hav (350, 2) (List.mem_cons_of_mem _ (List.mem_cons_of_mem _ (List.mem_cons_self))))
      cases hb) [((2 : Nat), qe r ((26909, []) : qL)), ((0 : Nat), qe r ((0, [(0, 1)]) : qL)), ((1 : Nat), qe r ((0, [(1, 1)]) : qL))]
    rw [e2] at e1
    exact congrArg (fun o => o.map (fun v => v.2)) e1
theorem hd_Model_isNamedAs : ∀ s, Typed gAll s → HC gAll t331 (dk_Model_isNamedAs s) s := by
  intro s hT j C hC
  match j, hC with
  | j + 0, hC => cases (show none = some C from hC)
set_option maxHeartbeats 4000000 in
theorem dC_Model_isNamedAs (s : qSg) (hT : Typed gAll s) : DetC gAll cq331 s (fun as => dm_Model_isNamedAs as s) := detC_of (p := 1033) (t := 0) (vs := [0, 2]) (zi := [(0, [(0, 1)]), (0, [(1, 1)]), (0, [(3, 1)])]) (Cd := d331) rfl rfl rfl (⟨⟨_, rfl, ⟨_, rfl, (fun z hz => by
    rcases List.mem_cons.mp hz with rfl | hz
    · exact Or.inl (List.mem_cons_self)
    rcases List.mem_cons.mp hz with rfl | hz
    · exact Or.inl (List.mem_cons_of_mem _ (List.mem_cons_self))
    rcases List.mem_cons.mp hz with rfl | hz
    · exact Or.inl (List.mem_cons_of_mem _ (List.mem_cons_of_mem _ (List.mem_cons_self)))
    rcases List.mem_cons.mp hz with rfl | hz
    · exact Or.inl (List.mem_cons_of_mem _ (List.mem_cons_of_mem _ (List.mem_cons_of_mem _ (List.mem_cons_self))))
    rcases List.mem_cons.mp hz with rfl | hz
    · exact Or.inl (List.mem_cons_of_mem _ (List.mem_cons_of_mem _ (List.mem_cons_of_mem _ (List.mem_cons_of_mem _ (List.mem_cons_self)))))
    rcases List.mem_cons.mp hz with rfl | hz
    · exact Or.inr rfl
    cases hz), List.mem_cons_of_mem _ (List.mem_cons_of_mem _ (List.mem_cons_of_mem _ (List.mem_cons_of_mem _ (List.mem_cons_of_mem _ (List.mem_cons_self)))))⟩, Nat.le_of_ble_eq_true rfl, Nat.le_of_ble_eq_true rfl⟩, ⟨⟨_, rfl, ⟨_, rfl, (fun z hz => by
    rcases List.mem_cons.mp hz with rfl | hz
    · exact Or.inl (List.mem_cons_self)
    rcases List.mem_cons.mp hz with rfl | hz
    · exact Or.inl (List.mem_cons_of_mem _ (List.mem_cons_self))
    rcases List.mem_cons.mp hz with rfl | hz
    · exact Or.inl (List.mem_cons_of_mem _ (List.mem_cons_of_mem _ (List.mem_cons_self)))
    rcases List.mem_cons.mp hz with rfl | hz
    · exact Or.inl (List.mem_cons_of_mem _ (List.mem_cons_of_mem _ (List.mem_cons_of_mem _ (List.mem_cons_self))))
    rcases List.mem_cons.mp hz with rfl | hz
    · exact Or.inl (List.mem_cons_of_mem _ (List.mem_cons_of_mem _ (List.mem_cons_of_mem _ (List.mem_cons_of_mem _ (List.mem_cons_self)))))
    rcases List.mem_cons.mp hz with rfl | hz
    · exact Or.inr rfl
    cases hz), List.mem_cons_of_mem _ (List.mem_cons_of_mem _ (List.mem_cons_of_mem _ (List.mem_cons_of_mem _ (List.mem_cons_of_mem _ (List.mem_cons_self)))))⟩, Nat.le_of_ble_eq_true rfl, Nat.le_of_ble_eq_true rfl⟩, trivial⟩⟩) (by decide) (by decide +kernel) (by decide +kernel)
  (fun fs zs z h1 h2 => by
    rw [PQ_c (show fTab[1033]? = none by decide +kernel)]
    match fs, zs, h1, h2 with
    | [f0, f1], [z0, z1, z2], _, _ => exact Iff.rfl) (yDet_b gAll_tag z331 gd_ok (by decide +kernel) (eqCd_ok (by decide +kernel)) hd_Model_isNamedAs s) (he_Model_isNamedAs s)
theorem yr331 : yRun gAll t331 b331 cq331 := yRun_d (dc := dc_Model_isNamedAs) (cl := dk_Model_isNamedAs) gAll_tag z331 gd_ok (by decide +kernel) (eqCd_ok (by decide +kernel)) hd_Model_isNamedAs rfl rfl (fun s hT => dC_Model_isNamedAs s hT)
theorem zw331 : zwid cq331.2.1.1 cq331.1 0 4 = true := by decide +kernel
set_option maxRecDepth 100000 in
theorem yw331 : yRows gAll LAll yt12 mt331 gHo 4 3 (zby cX13_isNamedAs) p331 b331 p331 = true := by decide +kernel
set_option maxRecDepth 100000 in
theorem m331 (l : Launch) : kMet gAll LAll vwCl rFo rZs rRs rNs rTs l yX13_isNamedAs cX13_isNamedAs 4 (some .boolean) 0 0 cq331 := kmet_y2 (rt := 3) (by decide +kernel) yr331 zw331 rfl yw331 LAll_ok LAll_la yt12_ok gHo_ok rfl (fun G n Qf => yA_n) rfl (fun G n Rr => yA_n) rfl
