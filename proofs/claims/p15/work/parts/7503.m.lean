/-! METHODS, CALLEES FIRST (written by wip/p2/genmeth.py) -/
/-! 78 Assembler.rept (J)V -/
theorem hdV_X8_readRept : yX8_readRept.cls = RX8 ∧ yX8_readRept.cls ≠ "java/lang/invoke/MethodHandle" ∧ yX8_readRept.cls ≠ "java/lang/invoke/VarHandle" ∧ (parseMethodDescriptor yX8_readRept.desc).map (fun d => d.parameters.length) = some 1 := by decide +kernel
theorem st78 (l : Launch) {G : rGm} {cc : ByteArray} {nL n fr lo : Nat} {ret : Option FieldType} {Qf : kQf} (hf : 2 ≤ fr) (hlo : 47 ≤ lo) : ySite gAll LAll vwCl rFo rZs rRs rNs rTs G l cc nL RX0 ret fr lo n Qf 182 355 cq77 := ys_V 1 13377 10 rc77 lo_13377 kc10 (m77 l) kGood kw1392 kw1393 kw1394 kw167 kw2066 hdV_X8_readRept hf hlo
def mt78 : yMt := ([(182, (88, 0)), (182, (355, 1))], ([], ([], [])))
theorem rc78 : yRc cq78 13364 1 = true := by decide +kernel
theorem yr78 : yRun gAll t78 b78 cq78 := yRun_z gAll_tag ruI2_RtI ruJ2_RtJ rqL_ok z78
theorem zw78 : zwid cq78.2.1.1 cq78.1 0 3 = true := by decide +kernel
set_option maxRecDepth 100000 in
theorem yw78 : yRows gAll LAll yt1 mt78 gHo 3 0 (zby cX0_rept) p78 b78 p78 = true := by decide +kernel
set_option maxRecDepth 100000 in
theorem m78 (l : Launch) : kMet gAll LAll vwCl rFo rZs rRs rNs rTs l yX0_rept cX0_rept 3 none 2 47 cq78 := kmet_y2 (rt := 0) (by decide +kernel) yr78 zw78 rfl yw78 LAll_ok LAll_la yt1_ok gHo_ok rfl (fun G n Qf => List.forall_mem_cons.mpr ⟨⟨cq9, rfl, st27 l (by decide) (by decide)⟩, List.forall_mem_cons.mpr ⟨⟨cq77, rfl, st78 l (by decide) (by decide)⟩, yA_n⟩⟩) rfl (fun G n Rr => yA_n) rfl
/-! 79 Reader.readElse ()V -/
def mt79 : yMt := ([(182, (143, 0)), (182, (161, 1))], ([], ([], [])))
theorem rc79 : yRc cq79 13377 0 = true := by decide +kernel
theorem yr79 : yRun gAll t79 b79 cq79 := yRun_z gAll_tag ruI2_RtI ruJ2_RtJ rqL_ok z79
theorem zw79 : zwid cq79.2.1.1 cq79.1 0 1 = true := by decide +kernel
set_option maxRecDepth 100000 in
theorem yw79 : yRows gAll LAll yt9 mt79 gHo 1 0 (zby cX8_readElse) p79 b79 p79 = true := by decide +kernel
set_option maxRecDepth 100000 in
theorem m79 (l : Launch) : kMet gAll LAll vwCl rFo rZs rRs rNs rTs l yX8_readElse cX8_readElse 1 none 1 22 cq79 := kmet_y2 (rt := 0) (by decide +kernel) yr79 zw79 rfl yw79 LAll_ok LAll_la yt9_ok gHo_ok rfl (fun G n Qf => List.forall_mem_cons.mpr ⟨⟨cq37, rfl, st39 l (by decide) (by decide)⟩, List.forall_mem_cons.mpr ⟨⟨cq70, rfl, st75 l (by decide) (by decide)⟩, yA_n⟩⟩) rfl (fun G n Rr => yA_n) rfl
/-! 80 Reader.readEndif ()V -/
def mt80 : yMt := ([], ([], ([], [])))
theorem rc80 : yRc cq80 13377 0 = true := by decide +kernel
theorem yr80 : yRun gAll t80 b80 cq80 := yRun_z gAll_tag ruI2_RtI ruJ2_RtJ rqL_ok z80
theorem zw80 : zwid cq80.2.1.1 cq80.1 0 1 = true := by decide +kernel
set_option maxRecDepth 100000 in
theorem yw80 : yRows gAll LAll yt9 mt80 gHo 1 0 (zby cX8_readEndif) p80 b80 p80 = true := by decide +kernel
set_option maxRecDepth 100000 in
theorem m80 (l : Launch) : kMet gAll LAll vwCl rFo rZs rRs rNs rTs l yX8_readEndif cX8_readEndif 1 none 0 0 cq80 := kmet_y2 (rt := 0) (by decide +kernel) yr80 zw80 rfl yw80 LAll_ok LAll_la yt9_ok gHo_ok rfl (fun G n Qf => yA_n) rfl (fun G n Rr => yA_n) rfl
/-! 81 Reader.openIf (Z)V -/
def mt81 : yMt := ([], ([], ([], [])))
theorem rc81 : yRc cq81 13377 1 = true := by decide +kernel
theorem yr81 : yRun gAll t81 b81 cq81 := yRun_z gAll_tag ruI2_RtI ruJ2_RtJ rqL_ok z81
theorem zw81 : zwid cq81.2.1.1 cq81.1 0 2 = true := by decide +kernel
set_option maxRecDepth 100000 in
theorem yw81 : yRows gAll LAll yt9 mt81 gHo 2 0 (zby cX8_openIf) p81 b81 p81 = true := by decide +kernel
set_option maxRecDepth 100000 in
theorem m81 (l : Launch) : kMet gAll LAll vwCl rFo rZs rRs rNs rTs l yX8_openIf cX8_openIf 2 none 0 0 cq81 := kmet_y2 (rt := 0) (by decide +kernel) yr81 zw81 rfl yw81 LAll_ok LAll_la yt9_ok gHo_ok rfl (fun G n Qf => yA_n) rfl (fun G n Rr => yA_n) rfl
/-! 82 Reader.readIf (Z)V -/
theorem hdV_X8_openIf : yX8_openIf.cls = RX8 ∧ yX8_openIf.cls ≠ "java/lang/invoke/MethodHandle" ∧ yX8_openIf.cls ≠ "java/lang/invoke/VarHandle" ∧ (parseMethodDescriptor yX8_openIf.desc).map (fun d => d.parameters.length) = some 1 := by decide +kernel
theorem st79 (l : Launch) {G : rGm} {cc : ByteArray} {nL n fr lo : Nat} {ret : Option FieldType} {Qf : kQf} (hf : 1 ≤ fr) (hlo : 21 ≤ lo) : ySite gAll LAll vwCl rFo rZs rRs rNs rTs G l cc nL RX8 ret fr lo n Qf 182 154 cq81 := ys_V 1 13377 10 rc81 lo_13377 kc10 (m81 l) kGood kw2052 kw2053 kw2054 kw167 kw2038 hdV_X8_openIf hf hlo
def mt82 : yMt := ([(182, (154, 0)), (182, (143, 1)), (182, (161, 2))], ([], ([], [])))
theorem rc82 : yRc cq82 13377 1 = true := by decide +kernel
theorem yr82 : yRun gAll t82 b82 cq82 := yRun_z gAll_tag ruI2_RtI ruJ2_RtJ rqL_ok z82
theorem zw82 : zwid cq82.2.1.1 cq82.1 0 3 = true := by decide +kernel
set_option maxRecDepth 100000 in
theorem yw82 : yRows gAll LAll yt9 mt82 gHo 3 0 (zby cX8_readIf) p82 b82 p82 = true := by decide +kernel
set_option maxRecDepth 100000 in
theorem m82 (l : Launch) : kMet gAll LAll vwCl rFo rZs rRs rNs rTs l yX8_readIf cX8_readIf 3 none 1 22 cq82 := kmet_y2 (rt := 0) (by decide +kernel) yr82 zw82 rfl yw82 LAll_ok LAll_la yt9_ok gHo_ok rfl (fun G n Qf => List.forall_mem_cons.mpr ⟨⟨cq81, rfl, st79 l (by decide) (by decide)⟩, List.forall_mem_cons.mpr ⟨⟨cq37, rfl, st39 l (by decide) (by decide)⟩, List.forall_mem_cons.mpr ⟨⟨cq70, rfl, st75 l (by decide) (by decide)⟩, yA_n⟩⟩⟩) rfl (fun G n Rr => yA_n) rfl
/-! 83 Assembler.control ()V -/
theorem hdV_X0_constant : yX0_constant.cls = RX0 ∧ yX0_constant.cls ≠ "java/lang/invoke/MethodHandle" ∧ yX0_constant.cls ≠ "java/lang/invoke/VarHandle" ∧ (parseMethodDescriptor yX0_constant.desc).map (fun d => d.parameters.length) = some 0 := by decide +kernel
theorem st80 (l : Launch) {G : rGm} {cc : ByteArray} {nL n fr lo : Nat} {ret : Option FieldType} {Qf : kQf} (hf : 5 ≤ fr) (hlo : 125 ≤ lo) : ySite gAll LAll vwCl rFo rZs rRs rNs rTs G l cc nL RX0 ret fr lo n Qf 182 293 cq69 := ys_V 0 13364 2 rc69 lo_13364 kc2 (m69 l) kGood kw1272 kw1273 kw1274 kw249 kw1264 hdV_X0_constant hf hlo
theorem hdV_X8_readIf : yX8_readIf.cls = RX8 ∧ yX8_readIf.cls ≠ "java/lang/invoke/MethodHandle" ∧ yX8_readIf.cls ≠ "java/lang/invoke/VarHandle" ∧ (parseMethodDescriptor yX8_readIf.desc).map (fun d => d.parameters.length) = some 1 := by decide +kernel
theorem st81 (l : Launch) {G : rGm} {cc : ByteArray} {nL n fr lo : Nat} {ret : Option FieldType} {Qf : kQf} (hf : 2 ≤ fr) (hlo : 44 ≤ lo) : ySite gAll LAll vwCl rFo rZs rRs rNs rTs G l cc nL RX0 ret fr lo n Qf 182 339 cq82 := ys_V 1 13377 10 rc82 lo_13377 kc10 (m82 l) kGood kw1276 kw1277 kw1278 kw167 kw2051 hdV_X8_readIf hf hlo
theorem hdV_X0_rept : yX0_rept.cls = RX0 ∧ yX0_rept.cls ≠ "java/lang/invoke/MethodHandle" ∧ yX0_rept.cls ≠ "java/lang/invoke/VarHandle" ∧ (parseMethodDescriptor yX0_rept.desc).map (fun d => d.parameters.length) = some 1 := by decide +kernel
theorem st82 (l : Launch) {G : rGm} {cc : ByteArray} {nL n fr lo : Nat} {ret : Option FieldType} {Qf : kQf} (hf : 3 ≤ fr) (hlo : 69 ≤ lo) : ySite gAll LAll vwCl rFo rZs rRs rNs rTs G l cc nL RX0 ret fr lo n Qf 182 342 cq78 := ys_V 1 13364 2 rc78 lo_13364 kc2 (m78 l) kGood kw1279 kw1280 kw1281 kw249 kw1390 hdV_X0_rept hf hlo
theorem hdV_X0_defineMacro : yX0_defineMacro.cls = RX0 ∧ yX0_defineMacro.cls ≠ "java/lang/invoke/MethodHandle" ∧ yX0_defineMacro.cls ≠ "java/lang/invoke/VarHandle" ∧ (parseMethodDescriptor yX0_defineMacro.desc).map (fun d => d.parameters.length) = some 0 := by decide +kernel
theorem st83 (l : Launch) {G : rGm} {cc : ByteArray} {nL n fr lo : Nat} {ret : Option FieldType} {Qf : kQf} (hf : 5 ≤ fr) (hlo : 124 ≤ lo) : ySite gAll LAll vwCl rFo rZs rRs rNs rTs G l cc nL RX0 ret fr lo n Qf 182 346 cq75 := ys_V 0 13364 2 rc75 lo_13364 kc2 (m75 l) kGood kw1282 kw1283 kw1284 kw249 kw1298 hdV_X0_defineMacro hf hlo
theorem hdV_X8_readElse : yX8_readElse.cls = RX8 ∧ yX8_readElse.cls ≠ "java/lang/invoke/MethodHandle" ∧ yX8_readElse.cls ≠ "java/lang/invoke/VarHandle" ∧ (parseMethodDescriptor yX8_readElse.desc).map (fun d => d.parameters.length) = some 0 := by decide +kernel
theorem st84 (l : Launch) {G : rGm} {cc : ByteArray} {nL n fr lo : Nat} {ret : Option FieldType} {Qf : kQf} (hf : 2 ≤ fr) (hlo : 42 ≤ lo) : ySite gAll LAll vwCl rFo rZs rRs rNs rTs G l cc nL RX0 ret fr lo n Qf 182 349 cq79 := ys_V 0 13377 10 rc79 lo_13377 kc10 (m79 l) kGood kw1285 kw1286 kw1287 kw167 kw2046 hdV_X8_readElse hf hlo
theorem hdV_X8_readEndif : yX8_readEndif.cls = RX8 ∧ yX8_readEndif.cls ≠ "java/lang/invoke/MethodHandle" ∧ yX8_readEndif.cls ≠ "java/lang/invoke/VarHandle" ∧ (parseMethodDescriptor yX8_readEndif.desc).map (fun d => d.parameters.length) = some 0 := by decide +kernel
theorem st85 (l : Launch) {G : rGm} {cc : ByteArray} {nL n fr lo : Nat} {ret : Option FieldType} {Qf : kQf} (hf : 1 ≤ fr) (hlo : 20 ≤ lo) : ySite gAll LAll vwCl rFo rZs rRs rNs rTs G l cc nL RX0 ret fr lo n Qf 182 352 cq80 := ys_V 0 13377 10 rc80 lo_13377 kc10 (m80 l) kGood kw1288 kw1289 kw1290 kw167 kw2050 hdV_X8_readEndif hf hlo
set_option maxRecDepth 100000 in
theorem w83_0 : decode cX0_control 4 = .ok (.tableswitch 154 54 59 #[40, 106, 106, 76, 154, 99], 40) := by decide +kernel
def mt83 : yMt := ([(182, (293, 0)), (182, (339, 1)), (182, (342, 2)), (182, (346, 3)), (182, (270, 4)), (182, (88, 5)), (182, (349, 6)), (182, (352, 7))], ([], ([(4, (3, (0, (14, (0, [(54, 1), (55, 9), (56, 9), (57, 6), (58, 14), (59, 8)])))))], [])))
theorem rc83 : yRc cq83 13364 0 = true := by decide +kernel
theorem yr83 : yRun gAll t83 b83 cq83 := yRun_z gAll_tag ruI2_RtI ruJ2_RtJ rqL_ok z83
theorem zw83 : zwid cq83.2.1.1 cq83.1 0 1 = true := by decide +kernel
set_option maxRecDepth 100000 in
theorem yw83 : yRows gAll LAll yt1 mt83 gHo 1 0 (zby cX0_control) p83 b83 p83 = true := by decide +kernel
set_option maxRecDepth 100000 in
theorem m83 (l : Launch) : kMet gAll LAll vwCl rFo rZs rRs rNs rTs l yX0_control cX0_control 1 none 5 125 cq83 := kmet_y2 (rt := 0) (by decide +kernel) yr83 zw83 rfl yw83 LAll_ok LAll_la yt1_ok gHo_ok rfl (fun G n Qf => List.forall_mem_cons.mpr ⟨⟨cq69, rfl, st80 l (by decide) (by decide)⟩, List.forall_mem_cons.mpr ⟨⟨cq82, rfl, st81 l (by decide) (by decide)⟩, List.forall_mem_cons.mpr ⟨⟨cq78, rfl, st82 l (by decide) (by decide)⟩, List.forall_mem_cons.mpr ⟨⟨cq75, rfl, st83 l (by decide) (by decide)⟩, List.forall_mem_cons.mpr ⟨⟨cq66, rfl, st69 l (by decide) (by decide)⟩, List.forall_mem_cons.mpr ⟨⟨cq9, rfl, st27 l (by decide) (by decide)⟩, List.forall_mem_cons.mpr ⟨⟨cq79, rfl, st84 l (by decide) (by decide)⟩, List.forall_mem_cons.mpr ⟨⟨cq80, rfl, st85 l (by decide) (by decide)⟩, yA_n⟩⟩⟩⟩⟩⟩⟩⟩) rfl (fun G n Rr => List.forall_mem_cons.mpr ⟨k_table _ p83 (fun b t hb ls st s h => kV_at hb h) w83_0 (by decide +kernel) (by decide +kernel) rfl rfl, yA_n⟩) rfl
/-! 84 Line.letter (I)I -/
def mt84 : yMt := ([], ([], ([], [])))
theorem rc84 : yRc cq84 13365 1 = true := by decide +kernel
theorem yr84 : yRun gAll t84 b84 cq84 := yRun_z gAll_tag ruI2_RtI ruJ2_RtJ rqL_ok z84
theorem zw84 : zwid cq84.2.1.1 cq84.1 0 2 = true := by decide +kernel
set_option maxRecDepth 100000 in
theorem yw84 : yRows gAll LAll yt4 mt84 gHo 2 1 (zby cX3_letter) p84 b84 p84 = true := by decide +kernel
set_option maxRecDepth 100000 in
theorem m84 (l : Launch) : kMet gAll LAll vwCl rFo rZs rRs rNs rTs l yX3_letter cX3_letter 2 (some .int) 0 0 cq84 := kmet_y2 (rt := 1) (by decide +kernel) yr84 zw84 rfl yw84 LAll_ok LAll_la yt4_ok gHo_ok rfl (fun G n Qf => yA_n) rfl (fun G n Rr => yA_n) rfl
/-! 85 Line.meant (I)I -/
theorem hdV_X3_letter : yX3_letter.cls = RX3 ∧ yX3_letter.cls ≠ "java/lang/invoke/MethodHandle" ∧ yX3_letter.cls ≠ "java/lang/invoke/VarHandle" ∧ (parseMethodDescriptor yX3_letter.desc).map (fun d => d.parameters.length) = some 1 := by decide +kernel
theorem st86 (l : Launch) {G : rGm} {cc : ByteArray} {nL n fr lo : Nat} {ret : Option FieldType} {Qf : kQf} (hf : 1 ≤ fr) (hlo : 21 ≤ lo) : ySite gAll LAll vwCl rFo rZs rRs rNs rTs G l cc nL RX3 ret fr lo n Qf 182 140 cq84 := ys_V 1 13365 5 rc84 lo_13365 kc5 (m84 l) kGood kw1594 kw1595 kw1596 kw90 kw1633 hdV_X3_letter hf hlo
def mt85 : yMt := ([(182, (140, 0))], ([], ([], [])))
theorem rc85 : yRc cq85 13365 1 = true := by decide +kernel
theorem yr85 : yRun gAll t85 b85 cq85 := yRun_z gAll_tag ruI2_RtI ruJ2_RtJ rqL_ok z85
theorem zw85 : zwid cq85.2.1.1 cq85.1 0 3 = true := by decide +kernel
set_option maxRecDepth 100000 in
theorem yw85 : yRows gAll LAll yt4 mt85 gHo 3 1 (zby cX3_meant) p85 b85 p85 = true := by decide +kernel
set_option maxRecDepth 100000 in
theorem m85 (l : Launch) : kMet gAll LAll vwCl rFo rZs rRs rNs rTs l yX3_meant cX3_meant 3 (some .int) 1 21 cq85 := kmet_y2 (rt := 1) (by decide +kernel) yr85 zw85 rfl yw85 LAll_ok LAll_la yt4_ok gHo_ok rfl (fun G n Qf => List.forall_mem_cons.mpr ⟨⟨cq84, rfl, st86 l (by decide) (by decide)⟩, yA_n⟩) rfl (fun G n Rr => yA_n) rfl
/-! 86 Units.putNumber (JI)V -/
def mt86 : yMt := ([], ([], ([], [])))
theorem rc86 : yRc cq86 2 2 = true := by decide +kernel
theorem yr86 : yRun gAll t86 b86 cq86 := yRun_p (cuts := u86) (fuel := 300) gAll_tag ruI2_RtI ruJ2_RtJ rqL_ok ⟨zsm_e _ z86_s, List.forall_mem_cons.mpr ⟨zsm_e _ z86_0, yA_n⟩⟩
theorem zw86 : zwid cq86.2.1.1 cq86.1 0 5 = true := by decide +kernel
set_option maxRecDepth 100000 in
theorem yw86 : yRows gAll LAll yt11 mt86 gHo 5 0 (zby cX10_putNumber) p86 b86 p86 = true := by decide +kernel
set_option maxRecDepth 100000 in
theorem m86 (l : Launch) : kMet gAll LAll vwCl rFo rZs rRs rNs rTs l yX10_putNumber cX10_putNumber 5 none 0 0 cq86 := kmet_y2 (rt := 0) (by decide +kernel) yr86 zw86 rfl yw86 LAll_ok LAll_la yt11_ok gHo_ok rfl (fun G n Qf => yA_n) rfl (fun G n Rr => yA_n) rfl
/-! 87 Assembler.characters (I)I -/
theorem hdV_X3_meant : yX3_meant.cls = RX3 ∧ yX3_meant.cls ≠ "java/lang/invoke/MethodHandle" ∧ yX3_meant.cls ≠ "java/lang/invoke/VarHandle" ∧ (parseMethodDescriptor yX3_meant.desc).map (fun d => d.parameters.length) = some 1 := by decide +kernel
theorem st87 (l : Launch) {G : rGm} {cc : ByteArray} {nL n fr lo : Nat} {ret : Option FieldType} {Qf : kQf} (hf : 2 ≤ fr) (hlo : 43 ≤ lo) : ySite gAll LAll vwCl rFo rZs rRs rNs rTs G l cc nL RX0 ret fr lo n Qf 182 318 cq85 := ys_V 1 13365 5 rc85 lo_13365 kc5 (m85 l) kGood kw1236 kw1237 kw1238 kw90 kw1634 hdV_X3_meant hf hlo
theorem hdV_X10_putNumber : yX10_putNumber.cls = RX10 ∧ yX10_putNumber.cls ≠ "java/lang/invoke/MethodHandle" ∧ yX10_putNumber.cls ≠ "java/lang/invoke/VarHandle" ∧ (parseMethodDescriptor yX10_putNumber.desc).map (fun d => d.parameters.length) = some 2 := by decide +kernel
theorem st88 (l : Launch) {G : rGm} {cc : ByteArray} {nL n fr lo : Nat} {ret : Option FieldType} {Qf : kQf} (hf : 1 ≤ fr) (hlo : 24 ≤ lo) : ySite gAll LAll vwCl rFo rZs rRs rNs rTs G l cc nL RX0 ret fr lo n Qf 182 321 cq86 := ys_V 2 2 12 rc86 lo_2 kc12 (m86 l) kGood kw1239 kw1240 kw1241 kw241 kw2134 hdV_X10_putNumber hf hlo
def mt87 : yMt := ([(182, (318, 0)), (182, (321, 1))], ([], ([], [])))
theorem rc87 : yRc cq87 13364 1 = true := by decide +kernel
theorem yr87 : yRun gAll t87 b87 cq87 := yRun_p (cuts := u87) (fuel := 300) gAll_tag ruI2_RtI ruJ2_RtJ rqL_ok ⟨zsm_e _ z87_s, List.forall_mem_cons.mpr ⟨zsm_e _ z87_0, yA_n⟩⟩
theorem zw87 : zwid cq87.2.1.1 cq87.1 0 5 = true := by decide +kernel
set_option maxRecDepth 100000 in
theorem yw87 : yRows gAll LAll yt1 mt87 gHo 5 1 (zby cX0_characters) p87 b87 p87 = true := by decide +kernel
set_option maxRecDepth 100000 in
theorem m87 (l : Launch) : kMet gAll LAll vwCl rFo rZs rRs rNs rTs l yX0_characters cX0_characters 5 (some .int) 2 43 cq87 := kmet_y2 (rt := 1) (by decide +kernel) yr87 zw87 rfl yw87 LAll_ok LAll_la yt1_ok gHo_ok rfl (fun G n Qf => List.forall_mem_cons.mpr ⟨⟨cq85, rfl, st87 l (by decide) (by decide)⟩, List.forall_mem_cons.mpr ⟨⟨cq86, rfl, st88 l (by decide) (by decide)⟩, yA_n⟩⟩) rfl (fun G n Rr => yA_n) rfl
/-! 88 Units.addWait (IIZIIJ)Z -/
def mt88 : yMt := ([], ([], ([], [])))
theorem rc88 : yRc cq88 2 6 = true := by decide +kernel
theorem yr88 : yRun gAll t88 b88 cq88 := yRun_z gAll_tag ruI2_RtI ruJ2_RtJ rqL_ok z88
theorem zw88 : zwid cq88.2.1.1 cq88.1 0 9 = true := by decide +kernel
set_option maxRecDepth 100000 in
theorem yw88 : yRows gAll LAll yt11 mt88 gHo 9 3 (zby cX10_addWait) p88 b88 p88 = true := by decide +kernel
set_option maxRecDepth 100000 in
theorem m88 (l : Launch) : kMet gAll LAll vwCl rFo rZs rRs rNs rTs l yX10_addWait cX10_addWait 9 (some .boolean) 0 0 cq88 := kmet_y2 (rt := 3) (by decide +kernel) yr88 zw88 rfl yw88 LAll_ok LAll_la yt11_ok gHo_ok rfl (fun G n Qf => yA_n) rfl (fun G n Rr => yA_n) rfl
/-! 89 Assembler.item (II)V -/
theorem hdV_X10_addWait : yX10_addWait.cls = RX10 ∧ yX10_addWait.cls ≠ "java/lang/invoke/MethodHandle" ∧ yX10_addWait.cls ≠ "java/lang/invoke/VarHandle" ∧ (parseMethodDescriptor yX10_addWait.desc).map (fun d => d.parameters.length) = some 6 := by decide +kernel
theorem st89 (l : Launch) {G : rGm} {cc : ByteArray} {nL n fr lo : Nat} {ret : Option FieldType} {Qf : kQf} (hf : 1 ≤ fr) (hlo : 28 ≤ lo) : ySite gAll LAll vwCl rFo rZs rRs rNs rTs G l cc nL RX0 ret fr lo n Qf 182 331 cq88 := ys_V 6 2 12 rc88 lo_2 kc12 (m88 l) kGood kw1249 kw1250 kw1251 kw241 kw2111 hdV_X10_addWait hf hlo
def mt89 : yMt := ([(182, (290, 0)), (182, (193, 1)), (182, (321, 2)), (182, (88, 3)), (182, (331, 4))], ([], ([], [])))
theorem rc89 : yRc cq89 13364 2 = true := by decide +kernel
theorem yr89 : yRun gAll t89 b89 cq89 := yRun_z gAll_tag ruI2_RtI ruJ2_RtJ rqL_ok z89
theorem zw89 : zwid cq89.2.1.1 cq89.1 0 9 = true := by decide +kernel
set_option maxRecDepth 100000 in
theorem yw89 : yRows gAll LAll yt1 mt89 gHo 9 0 (zby cX0_item) p89 b89 p89 = true := by decide +kernel
set_option maxRecDepth 100000 in
theorem m89 (l : Launch) : kMet gAll LAll vwCl rFo rZs rRs rNs rTs l yX0_item cX0_item 9 none 3 64 cq89 := kmet_y2 (rt := 0) (by decide +kernel) yr89 zw89 rfl yw89 LAll_ok LAll_la yt1_ok gHo_ok rfl (fun G n Qf => List.forall_mem_cons.mpr ⟨⟨cq67, rfl, st70 l (by decide) (by decide)⟩, List.forall_mem_cons.mpr ⟨⟨cq25, rfl, st50 l (by decide) (by decide)⟩, List.forall_mem_cons.mpr ⟨⟨cq86, rfl, st88 l (by decide) (by decide)⟩, List.forall_mem_cons.mpr ⟨⟨cq9, rfl, st27 l (by decide) (by decide)⟩, List.forall_mem_cons.mpr ⟨⟨cq88, rfl, st89 l (by decide) (by decide)⟩, yA_n⟩⟩⟩⟩⟩) rfl (fun G n Rr => yA_n) rfl
/-! 90 Units.add (IIIII)Z -/
def mt90 : yMt := ([], ([], ([], [])))
theorem rc90 : yRc cq90 2 5 = true := by decide +kernel
theorem yr90 : yRun gAll t90 b90 cq90 := yRun_p (cuts := u90) (fuel := 300) gAll_tag ruI2_RtI ruJ2_RtJ rqL_ok ⟨zsm_e _ z90_s, List.forall_mem_cons.mpr ⟨zsm_e _ z90_0, List.forall_mem_cons.mpr ⟨zsm_e _ z90_1, List.forall_mem_cons.mpr ⟨zsm_e _ z90_2, yA_n⟩⟩⟩⟩
theorem zw90 : zwid cq90.2.1.1 cq90.1 0 7 = true := by decide +kernel
set_option maxRecDepth 100000 in
theorem yw90 : yRows gAll LAll yt11 mt90 gHo 7 3 (zby cX10_add) p90 b90 p90 = true := by decide +kernel
set_option maxRecDepth 100000 in
theorem m90 (l : Launch) : kMet gAll LAll vwCl rFo rZs rRs rNs rTs l yX10_add cX10_add 7 (some .boolean) 0 0 cq90 := kmet_y2 (rt := 3) (by decide +kernel) yr90 zw90 rfl yw90 LAll_ok LAll_la yt11_ok gHo_ok rfl (fun G n Qf => yA_n) rfl (fun G n Rr => yA_n) rfl
/-! 91 Assembler.data (I)V -/
theorem hdV_X0_characters : yX0_characters.cls = RX0 ∧ yX0_characters.cls ≠ "java/lang/invoke/MethodHandle" ∧ yX0_characters.cls ≠ "java/lang/invoke/VarHandle" ∧ (parseMethodDescriptor yX0_characters.desc).map (fun d => d.parameters.length) = some 1 := by decide +kernel
theorem st90 (l : Launch) {G : rGm} {cc : ByteArray} {nL n fr lo : Nat} {ret : Option FieldType} {Qf : kQf} (hf : 3 ≤ fr) (hlo : 67 ≤ lo) : ySite gAll LAll vwCl rFo rZs rRs rNs rTs G l cc nL RX0 ret fr lo n Qf 182 307 cq87 := ys_V 1 13364 2 rc87 lo_13364 kc2 (m87 l) kGood kw1292 kw1293 kw1294 kw249 kw1233 hdV_X0_characters hf hlo
theorem hdV_X0_item : yX0_item.cls = RX0 ∧ yX0_item.cls ≠ "java/lang/invoke/MethodHandle" ∧ yX0_item.cls ≠ "java/lang/invoke/VarHandle" ∧ (parseMethodDescriptor yX0_item.desc).map (fun d => d.parameters.length) = some 2 := by decide +kernel
theorem st91 (l : Launch) {G : rGm} {cc : ByteArray} {nL n fr lo : Nat} {ret : Option FieldType} {Qf : kQf} (hf : 4 ≤ fr) (hlo : 92 ≤ lo) : ySite gAll LAll vwCl rFo rZs rRs rNs rTs G l cc nL RX0 ret fr lo n Qf 182 310 cq89 := ys_V 2 13364 2 rc89 lo_13364 kc2 (m89 l) kGood kw1295 kw1296 kw1297 kw249 kw1343 hdV_X0_item hf hlo
theorem hdV_X10_add : yX10_add.cls = RX10 ∧ yX10_add.cls ≠ "java/lang/invoke/MethodHandle" ∧ yX10_add.cls ≠ "java/lang/invoke/VarHandle" ∧ (parseMethodDescriptor yX10_add.desc).map (fun d => d.parameters.length) = some 5 := by decide +kernel
theorem st92 (l : Launch) {G : rGm} {cc : ByteArray} {nL n fr lo : Nat} {ret : Option FieldType} {Qf : kQf} (hf : 1 ≤ fr) (hlo : 26 ≤ lo) : ySite gAll LAll vwCl rFo rZs rRs rNs rTs G l cc nL RX0 ret fr lo n Qf 182 314 cq90 := ys_V 5 2 12 rc90 lo_2 kc12 (m90 l) kGood kw1261 kw1262 kw1263 kw241 kw2112 hdV_X10_add hf hlo
def mt91 : yMt := ([(182, (307, 0)), (182, (286, 1)), (182, (310, 2)), (182, (88, 3)), (182, (270, 4)), (182, (193, 5)), (182, (96, 6)), (182, (314, 7))], ([], ([], [])))
theorem rc91 : yRc cq91 13364 1 = true := by decide +kernel
theorem yr91 : yRun gAll t91 b91 cq91 := yRun_p (cuts := u91) (fuel := 300) gAll_tag ruI2_RtI ruJ2_RtJ rqL_ok ⟨zsm_e _ z91_s, List.forall_mem_cons.mpr ⟨zsm_e _ z91_0, yA_n⟩⟩
theorem zw91 : zwid cq91.2.1.1 cq91.1 0 6 = true := by decide +kernel
set_option maxRecDepth 100000 in
theorem yw91 : yRows gAll LAll yt1 mt91 gHo 6 0 (zby cX0_data) p91 b91 p91 = true := by decide +kernel
set_option maxRecDepth 100000 in
theorem m91 (l : Launch) : kMet gAll LAll vwCl rFo rZs rRs rNs rTs l yX0_data cX0_data 6 none 4 105 cq91 := kmet_y2 (rt := 0) (by decide +kernel) yr91 zw91 rfl yw91 LAll_ok LAll_la yt1_ok gHo_ok rfl (fun G n Qf => List.forall_mem_cons.mpr ⟨⟨cq87, rfl, st90 l (by decide) (by decide)⟩, List.forall_mem_cons.mpr ⟨⟨cq20, rfl, st23 l (by decide) (by decide)⟩, List.forall_mem_cons.mpr ⟨⟨cq89, rfl, st91 l (by decide) (by decide)⟩, List.forall_mem_cons.mpr ⟨⟨cq9, rfl, st27 l (by decide) (by decide)⟩, List.forall_mem_cons.mpr ⟨⟨cq66, rfl, st69 l (by decide) (by decide)⟩, List.forall_mem_cons.mpr ⟨⟨cq25, rfl, st50 l (by decide) (by decide)⟩, List.forall_mem_cons.mpr ⟨⟨cq68, rfl, st71 l (by decide) (by decide)⟩, List.forall_mem_cons.mpr ⟨⟨cq90, rfl, st92 l (by decide) (by decide)⟩, yA_n⟩⟩⟩⟩⟩⟩⟩⟩) rfl (fun G n Rr => yA_n) rfl
/-! 92 Assembler.define ()V -/
def mt92 : yMt := ([(182, (293, 0)), (182, (180, 1)), (182, (237, 2))], ([], ([], [])))
theorem rc92 : yRc cq92 13364 0 = true := by decide +kernel
theorem yr92 : yRun gAll t92 b92 cq92 := yRun_z gAll_tag ruI2_RtI ruJ2_RtJ rqL_ok z92
theorem zw92 : zwid cq92.2.1.1 cq92.1 0 2 = true := by decide +kernel
set_option maxRecDepth 100000 in
theorem yw92 : yRows gAll LAll yt1 mt92 gHo 2 0 (zby cX0_define) p92 b92 p92 = true := by decide +kernel
set_option maxRecDepth 100000 in
theorem m92 (l : Launch) : kMet gAll LAll vwCl rFo rZs rRs rNs rTs l yX0_define cX0_define 2 none 5 125 cq92 := kmet_y2 (rt := 0) (by decide +kernel) yr92 zw92 rfl yw92 LAll_ok LAll_la yt1_ok gHo_ok rfl (fun G n Qf => List.forall_mem_cons.mpr ⟨⟨cq69, rfl, st80 l (by decide) (by decide)⟩, List.forall_mem_cons.mpr ⟨⟨cq13, rfl, st31 l (by decide) (by decide)⟩, List.forall_mem_cons.mpr ⟨⟨cq31, rfl, st35 l (by decide) (by decide)⟩, yA_n⟩⟩⟩) rfl (fun G n Rr => yA_n) rfl
/-! 93 Assembler.flag (I)V -/
def mt93 : yMt := ([(182, (88, 0)), (182, (180, 1)), (182, (237, 2)), (182, (270, 3))], ([], ([], [])))
theorem rc93 : yRc cq93 13364 1 = true := by decide +kernel
theorem yr93 : yRun gAll t93 b93 cq93 := yRun_p (cuts := u93) (fuel := 300) gAll_tag ruI2_RtI ruJ2_RtJ rqL_ok ⟨zsm_e _ z93_s, List.forall_mem_cons.mpr ⟨zsm_e _ z93_0, yA_n⟩⟩
theorem zw93 : zwid cq93.2.1.1 cq93.1 0 4 = true := by decide +kernel
set_option maxRecDepth 100000 in
theorem yw93 : yRows gAll LAll yt1 mt93 gHo 4 0 (zby cX0_flag) p93 b93 p93 = true := by decide +kernel
set_option maxRecDepth 100000 in
theorem m93 (l : Launch) : kMet gAll LAll vwCl rFo rZs rRs rNs rTs l yX0_flag cX0_flag 4 none 3 72 cq93 := kmet_y2 (rt := 0) (by decide +kernel) yr93 zw93 rfl yw93 LAll_ok LAll_la yt1_ok gHo_ok rfl (fun G n Qf => List.forall_mem_cons.mpr ⟨⟨cq9, rfl, st27 l (by decide) (by decide)⟩, List.forall_mem_cons.mpr ⟨⟨cq13, rfl, st31 l (by decide) (by decide)⟩, List.forall_mem_cons.mpr ⟨⟨cq31, rfl, st35 l (by decide) (by decide)⟩, List.forall_mem_cons.mpr ⟨⟨cq66, rfl, st69 l (by decide) (by decide)⟩, yA_n⟩⟩⟩⟩) rfl (fun G n Rr => yA_n) rfl
/-! 94 Assembler.code ()V -/
def mt94 : yMt := ([(182, (331, 0)), (182, (321, 1)), (182, (314, 2)), (182, (193, 3))], ([], ([], [])))
theorem rc94 : yRc cq94 13364 0 = true := by decide +kernel
theorem yr94 : yRun gAll t94 b94 cq94 := yRun_p (cuts := u94) (fuel := 300) gAll_tag ruI2_RtI ruJ2_RtJ rqL_ok ⟨zsm_e _ z94_s, List.forall_mem_cons.mpr ⟨zsm_e _ z94_0, yA_n⟩⟩
theorem zw94 : zwid cq94.2.1.1 cq94.1 0 5 = true := by decide +kernel
set_option maxRecDepth 100000 in
theorem yw94 : yRows gAll LAll yt1 mt94 gHo 5 0 (zby cX0_code) p94 b94 p94 = true := by decide +kernel
set_option maxRecDepth 100000 in
theorem m94 (l : Launch) : kMet gAll LAll vwCl rFo rZs rRs rNs rTs l yX0_code cX0_code 5 none 3 64 cq94 := kmet_y2 (rt := 0) (by decide +kernel) yr94 zw94 rfl yw94 LAll_ok LAll_la yt1_ok gHo_ok rfl (fun G n Qf => List.forall_mem_cons.mpr ⟨⟨cq88, rfl, st89 l (by decide) (by decide)⟩, List.forall_mem_cons.mpr ⟨⟨cq86, rfl, st88 l (by decide) (by decide)⟩, List.forall_mem_cons.mpr ⟨⟨cq90, rfl, st92 l (by decide) (by decide)⟩, List.forall_mem_cons.mpr ⟨⟨cq25, rfl, st50 l (by decide) (by decide)⟩, yA_n⟩⟩⟩⟩) rfl (fun G n Rr => yA_n) rfl
/-! 95 Assembler.jump ()V -/
def mt95 : yMt := ([(182, (331, 0)), (182, (314, 1)), (182, (193, 2))], ([], ([], [])))
theorem rc95 : yRc cq95 13364 0 = true := by decide +kernel
theorem yr95 : yRun gAll t95 b95 cq95 := yRun_z gAll_tag ruI2_RtI ruJ2_RtJ rqL_ok z95
theorem zw95 : zwid cq95.2.1.1 cq95.1 0 3 = true := by decide +kernel
set_option maxRecDepth 100000 in
theorem yw95 : yRows gAll LAll yt1 mt95 gHo 3 0 (zby cX0_jump) p95 b95 p95 = true := by decide +kernel
set_option maxRecDepth 100000 in
theorem m95 (l : Launch) : kMet gAll LAll vwCl rFo rZs rRs rNs rTs l yX0_jump cX0_jump 3 none 3 64 cq95 := kmet_y2 (rt := 0) (by decide +kernel) yr95 zw95 rfl yw95 LAll_ok LAll_la yt1_ok gHo_ok rfl (fun G n Qf => List.forall_mem_cons.mpr ⟨⟨cq88, rfl, st89 l (by decide) (by decide)⟩, List.forall_mem_cons.mpr ⟨⟨cq90, rfl, st92 l (by decide) (by decide)⟩, List.forall_mem_cons.mpr ⟨⟨cq25, rfl, st50 l (by decide) (by decide)⟩, yA_n⟩⟩⟩) rfl (fun G n Rr => yA_n) rfl
/-! 96 Assembler.settleNumber (Z)V -/
def mt96 : yMt := ([], ([], ([], [])))
theorem rc96 : yRc cq96 13364 1 = true := by decide +kernel
theorem yr96 : yRun gAll t96 b96 cq96 := yRun_p (cuts := u96) (fuel := 300) gAll_tag ruI2_RtI ruJ2_RtJ rqL_ok ⟨zsm_e _ z96_s, List.forall_mem_cons.mpr ⟨zsm_e _ z96_0, yA_n⟩⟩
theorem zw96 : zwid cq96.2.1.1 cq96.1 0 4 = true := by decide +kernel
set_option maxRecDepth 100000 in
theorem yw96 : yRows gAll LAll yt1 mt96 gHo 4 0 (zby cX0_settleNumber) p96 b96 p96 = true := by decide +kernel
set_option maxRecDepth 100000 in
theorem m96 (l : Launch) : kMet gAll LAll vwCl rFo rZs rRs rNs rTs l yX0_settleNumber cX0_settleNumber 4 none 0 0 cq96 := kmet_y2 (rt := 0) (by decide +kernel) yr96 zw96 rfl yw96 LAll_ok LAll_la yt1_ok gHo_ok rfl (fun G n Qf => yA_n) rfl (fun G n Rr => yA_n) rfl
/-! 97 Assembler.settleSize ()Z -/
def mt97 : yMt := ([], ([], ([], [])))
theorem rc97 : yRc cq97 13364 0 = true := by decide +kernel
theorem yr97 : yRun gAll t97 b97 cq97 := yRun_p (cuts := u97) (fuel := 300) gAll_tag ruI2_RtI ruJ2_RtJ rqL_ok ⟨zsm_e _ z97_s, List.forall_mem_cons.mpr ⟨zsm_e _ z97_0, List.forall_mem_cons.mpr ⟨zsm_e _ z97_1, List.forall_mem_cons.mpr ⟨zsm_e _ z97_2, yA_n⟩⟩⟩⟩
theorem zw97 : zwid cq97.2.1.1 cq97.1 0 7 = true := by decide +kernel
set_option maxRecDepth 100000 in
theorem yw97 : yRows gAll LAll yt1 mt97 gHo 7 3 (zby cX0_settleSize) p97 b97 p97 = true := by decide +kernel
set_option maxRecDepth 100000 in
theorem m97 (l : Launch) : kMet gAll LAll vwCl rFo rZs rRs rNs rTs l yX0_settleSize cX0_settleSize 7 (some .boolean) 0 0 cq97 := kmet_y2 (rt := 3) (by decide +kernel) yr97 zw97 rfl yw97 LAll_ok LAll_la yt1_ok gHo_ok rfl (fun G n Qf => yA_n) rfl (fun G n Rr => yA_n) rfl
/-! 98 Instruction.beProduct@x.assembler.instruction ()V -/
def mt98 : yMt := ([], ([], ([], [])))
theorem rc98 : yRc cq98 13414 0 = true := by decide +kernel
theorem yr98 : yRun gAll t98 b98 cq98 := yRun_z gAll_tag ruI2_RtI ruJ2_RtJ rqL_ok z98
theorem zw98 : zwid cq98.2.1.1 cq98.1 0 1 = true := by decide +kernel
set_option maxRecDepth 100000 in
theorem yw98 : yRows gAll LAll yt3 mt98 gHo 1 0 (zby cX2_beProduct) p98 b98 p98 = true := by decide +kernel
set_option maxRecDepth 100000 in
theorem m98 (l : Launch) : kMet gAll LAll vwCl rFo rZs rRs rNs rTs l yX2_beProduct cX2_beProduct 1 none 0 0 cq98 := kmet_y2 (rt := 0) (by decide +kernel) yr98 zw98 rfl yw98 LAll_ok LAll_la yt3_ok gHo_ok rfl (fun G n Qf => yA_n) rfl (fun G n Rr => yA_n) rfl
/-! 99 Instruction.put@x.assembler.instruction (I)V -/
def mt99 : yMt := ([], ([], ([], [])))
theorem rc99 : yRc cq99 13414 1 = true := by decide +kernel
theorem yr99 : yRun gAll t99 b99 cq99 := yRun_z gAll_tag ruI2_RtI ruJ2_RtJ rqL_ok z99
theorem zw99 : zwid cq99.2.1.1 cq99.1 0 2 = true := by decide +kernel
set_option maxRecDepth 100000 in
theorem yw99 : yRows gAll LAll yt3 mt99 gHo 2 0 (zby cX2_put) p99 b99 p99 = true := by decide +kernel
set_option maxRecDepth 100000 in
theorem m99 (l : Launch) : kMet gAll LAll vwCl rFo rZs rRs rNs rTs l yX2_put cX2_put 2 none 0 0 cq99 := kmet_y2 (rt := 0) (by decide +kernel) yr99 zw99 rfl yw99 LAll_ok LAll_la yt3_ok gHo_ok rfl (fun G n Qf => yA_n) rfl (fun G n Rr => yA_n) rfl
/-! 100 Instruction.putNumber@x.assembler.instruction (JI)V -/
def mt100 : yMt := ([], ([], ([], [])))
theorem rc100 : yRc cq100 13414 2 = true := by decide +kernel
theorem yr100 : yRun gAll t100 b100 cq100 := yRun_p (cuts := u100) (fuel := 300) gAll_tag ruI2_RtI ruJ2_RtJ rqL_ok ⟨zsm_e _ z100_s, List.forall_mem_cons.mpr ⟨zsm_e _ z100_0, yA_n⟩⟩
theorem zw100 : zwid cq100.2.1.1 cq100.1 0 5 = true := by decide +kernel
set_option maxRecDepth 100000 in
theorem yw100 : yRows gAll LAll yt3 mt100 gHo 5 0 (zby cX2_putNumber) p100 b100 p100 = true := by decide +kernel
set_option maxRecDepth 100000 in
theorem m100 (l : Launch) : kMet gAll LAll vwCl rFo rZs rRs rNs rTs l yX2_putNumber cX2_putNumber 5 none 0 0 cq100 := kmet_y2 (rt := 0) (by decide +kernel) yr100 zw100 rfl yw100 LAll_ok LAll_la yt3_ok gHo_ok rfl (fun G n Qf => yA_n) rfl (fun G n Rr => yA_n) rfl
/-! 101 Instruction.emitForm@x.assembler.instruction (II)V -/
theorem hdV_X2_put : yX2_put.cls = RX2 ∧ yX2_put.cls ≠ "java/lang/invoke/MethodHandle" ∧ yX2_put.cls ≠ "java/lang/invoke/VarHandle" ∧ (parseMethodDescriptor yX2_put.desc).map (fun d => d.parameters.length) = some 1 := by decide +kernel
theorem st93 (l : Launch) {G : rGm} {cc : ByteArray} {nL n fr lo : Nat} {ret : Option FieldType} {Qf : kQf} (hf : 1 ≤ fr) (hlo : 21 ≤ lo) : ySite gAll LAll vwCl rFo rZs rRs rNs rTs G l cc nL RX2 ret fr lo n Qf 182 131 cq99 := ys_V 1 13414 4 rc99 lo_13414 kc4 (m99 l) kGood kw1543 kw1544 kw1545 kw142 kw1586 hdV_X2_put hf hlo
theorem hdV_X2_putNumber : yX2_putNumber.cls = RX2 ∧ yX2_putNumber.cls ≠ "java/lang/invoke/MethodHandle" ∧ yX2_putNumber.cls ≠ "java/lang/invoke/VarHandle" ∧ (parseMethodDescriptor yX2_putNumber.desc).map (fun d => d.parameters.length) = some 2 := by decide +kernel
theorem st94 (l : Launch) {G : rGm} {cc : ByteArray} {nL n fr lo : Nat} {ret : Option FieldType} {Qf : kQf} (hf : 1 ≤ fr) (hlo : 24 ≤ lo) : ySite gAll LAll vwCl rFo rZs rRs rNs rTs G l cc nL RX2 ret fr lo n Qf 182 152 cq100 := ys_V 2 13414 4 rc100 lo_13414 kc4 (m100 l) kGood kw1548 kw1549 kw1550 kw142 kw1585 hdV_X2_putNumber hf hlo
def mt101 : yMt := ([(182, (131, 0)), (182, (152, 1))], ([], ([], [])))
theorem rc101 : yRc cq101 13414 2 = true := by decide +kernel
theorem yr101 : yRun gAll t101 b101 cq101 := yRun_p (cuts := u101) (fuel := 300) gAll_tag ruI2_RtI ruJ2_RtJ rqL_ok ⟨zsm_e _ z101_s, List.forall_mem_cons.mpr ⟨zsm_e _ z101_0, List.forall_mem_cons.mpr ⟨zsm_e _ z101_1, List.forall_mem_cons.mpr ⟨zsm_e _ z101_2, List.forall_mem_cons.mpr ⟨zsm_e _ z101_3, yA_n⟩⟩⟩⟩⟩
theorem zw101 : zwid cq101.2.1.1 cq101.1 0 7 = true := by decide +kernel
set_option maxRecDepth 100000 in
theorem yw101 : yRows gAll LAll yt3 mt101 gHo 7 0 (zby cX2_emitForm) p101 b101 p101 = true := by decide +kernel
set_option maxRecDepth 100000 in
theorem m101 (l : Launch) : kMet gAll LAll vwCl rFo rZs rRs rNs rTs l yX2_emitForm cX2_emitForm 7 none 1 24 cq101 := kmet_y2 (rt := 0) (by decide +kernel) yr101 zw101 rfl yw101 LAll_ok LAll_la yt3_ok gHo_ok rfl (fun G n Qf => List.forall_mem_cons.mpr ⟨⟨cq99, rfl, st93 l (by decide) (by decide)⟩, List.forall_mem_cons.mpr ⟨⟨cq100, rfl, st94 l (by decide) (by decide)⟩, yA_n⟩⟩) rfl (fun G n Rr => yA_n) rfl
/-! 102 Instruction.sizeOfM@x.assembler.instruction ()I -/
def mt102 : yMt := ([], ([], ([], [])))
theorem rc102 : yRc cq102 13414 0 = true := by decide +kernel
theorem yr102 : yRun gAll t102 b102 cq102 := yRun_z gAll_tag ruI2_RtI ruJ2_RtJ rqL_ok z102
theorem zw102 : zwid cq102.2.1.1 cq102.1 0 1 = true := by decide +kernel
set_option maxRecDepth 100000 in
theorem yw102 : yRows gAll LAll yt3 mt102 gHo 1 1 (zby cX2_sizeOfM) p102 b102 p102 = true := by decide +kernel
set_option maxRecDepth 100000 in
theorem m102 (l : Launch) : kMet gAll LAll vwCl rFo rZs rRs rNs rTs l yX2_sizeOfM cX2_sizeOfM 1 (some .int) 0 0 cq102 := kmet_y2 (rt := 1) (by decide +kernel) yr102 zw102 rfl yw102 LAll_ok LAll_la yt3_ok gHo_ok rfl (fun G n Qf => yA_n) rfl (fun G n Rr => yA_n) rfl
/-! 103 Instruction.emitPrefix@x.assembler.instruction (I)V -/
theorem hdV_X2_sizeOfM : yX2_sizeOfM.cls = RX2 ∧ yX2_sizeOfM.cls ≠ "java/lang/invoke/MethodHandle" ∧ yX2_sizeOfM.cls ≠ "java/lang/invoke/VarHandle" ∧ (parseMethodDescriptor yX2_sizeOfM.desc).map (fun d => d.parameters.length) = some 0 := by decide +kernel
theorem st95 (l : Launch) {G : rGm} {cc : ByteArray} {nL n fr lo : Nat} {ret : Option FieldType} {Qf : kQf} (hf : 1 ≤ fr) (hlo : 20 ≤ lo) : ySite gAll LAll vwCl rFo rZs rRs rNs rTs G l cc nL RX2 ret fr lo n Qf 182 156 cq102 := ys_V 0 13414 4 rc102 lo_13414 kc4 (m102 l) kGood kw1552 kw1553 kw1554 kw142 kw1588 hdV_X2_sizeOfM hf hlo
def mt103 : yMt := ([(182, (156, 0)), (182, (131, 1))], ([], ([], [])))
theorem rc103 : yRc cq103 13414 1 = true := by decide +kernel
theorem yr103 : yRun gAll t103 b103 cq103 := yRun_p (cuts := u103) (fuel := 300) gAll_tag ruI2_RtI ruJ2_RtJ rqL_ok ⟨zsm_e _ z103_s, List.forall_mem_cons.mpr ⟨zsm_e _ z103_0, List.forall_mem_cons.mpr ⟨zsm_e _ z103_1, List.forall_mem_cons.mpr ⟨zsm_e _ z103_2, yA_n⟩⟩⟩⟩
theorem zw103 : zwid cq103.2.1.1 cq103.1 0 9 = true := by decide +kernel
set_option maxRecDepth 100000 in
theorem yw103 : yRows gAll LAll yt3 mt103 gHo 9 0 (zby cX2_emitPrefix) p103 b103 p103 = true := by decide +kernel
set_option maxRecDepth 100000 in
theorem m103 (l : Launch) : kMet gAll LAll vwCl rFo rZs rRs rNs rTs l yX2_emitPrefix cX2_emitPrefix 9 none 1 21 cq103 := kmet_y2 (rt := 0) (by decide +kernel) yr103 zw103 rfl yw103 LAll_ok LAll_la yt3_ok gHo_ok rfl (fun G n Qf => List.forall_mem_cons.mpr ⟨⟨cq102, rfl, st95 l (by decide) (by decide)⟩, List.forall_mem_cons.mpr ⟨⟨cq99, rfl, st93 l (by decide) (by decide)⟩, yA_n⟩⟩) rfl (fun G n Rr => yA_n) rfl
/-! 104 Instruction.isConditional (I)Z -/
def mt104 : yMt := ([], ([], ([], [])))
theorem yr104 : yRun gAll t104 b104 cq104 := yRun_z gAll_tag ruI2_RtI ruJ2_RtJ rqL_ok z104
theorem zw104 : zwid cq104.2.1.1 cq104.1 0 1 = true := by decide +kernel
set_option maxRecDepth 100000 in
theorem yw104 : yRows gAll LAll yt3 mt104 gHo 1 3 (zby cX2_isConditional) p104 b104 p104 = true := by decide +kernel
set_option maxRecDepth 100000 in
theorem m104 (l : Launch) : kMet gAll LAll vwCl rFo rZs rRs rNs rTs l yX2_isConditional cX2_isConditional 1 (some .boolean) 0 0 cq104 := kmet_y2 (rt := 3) (by decide +kernel) yr104 zw104 rfl yw104 LAll_ok LAll_la yt3_ok gHo_ok rfl (fun G n Qf => yA_n) rfl (fun G n Rr => yA_n) rfl
/-! 105 java/lang/Math.max (II)I -/
def mt105 : yMt := ([], ([], ([], [])))
theorem yr105 : yRun gAll t105 b105 cq105 := yRun_z gAll_tag ruI2_RtI ruJ2_RtJ rqL_ok z105
theorem zw105 : zwid cq105.2.1.1 cq105.1 0 2 = true := by decide +kernel
set_option maxRecDepth 100000 in
theorem yw105 : yRows gAll LAll yt16 mt105 gHo 2 1 (zby cJ9_max_7cf53) p105 b105 p105 = true := by decide +kernel
set_option maxRecDepth 100000 in
theorem m105 (l : Launch) : kMet gAll LAll vwCl rFo rZs rRs rNs rTs l yJ9_max_7cf53 cJ9_max_7cf53 2 (some .int) 0 0 cq105 := kmet_y2 (rt := 1) (by decide +kernel) yr105 zw105 rfl yw105 LAll_ok LAll_la yt16_ok gHo_ok rfl (fun G n Qf => yA_n) rfl (fun G n Rr => yA_n) rfl
