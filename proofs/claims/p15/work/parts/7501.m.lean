/-! METHODS, CALLEES FIRST (written by wip/p2/genmeth.py) -/
/-! 25 Assembler.blameIf (ZI)V -/
theorem st27 (l : Launch) {G : rGm} {cc : ByteArray} {nL n fr lo : Nat} {ret : Option FieldType} {Qf : kQf} (hf : 2 ≤ fr) (hlo : 42 ≤ lo) : ySite gAll LAll vwCl rFo rZs rRs rNs rTs G l cc nL RX0 ret fr lo n Qf 182 88 cq9 := ys_V 1 13365 5 rc9 lo_13365 kc5 (m9 l) kGood kw1172 kw1173 kw1174 kw90 kw1591 hdV_X3_blame hf hlo
def mt25 : yMt := ([(182, (88, 0))], ([], ([], [])))
theorem rc25 : yRc cq25 13364 2 = true := by decide +kernel
theorem yr25 : yRun gAll t25 b25 cq25 := yRun_z gAll_tag ruI2_RtI ruJ2_RtJ rqL_ok z25
theorem zw25 : zwid cq25.2.1.1 cq25.1 0 3 = true := by decide +kernel
set_option maxRecDepth 100000 in
theorem yw25 : yRows gAll LAll yt1 mt25 gHo 3 0 (zby cX0_blameIf) p25 b25 p25 = true := by decide +kernel
set_option maxRecDepth 100000 in
theorem m25 (l : Launch) : kMet gAll LAll vwCl rFo rZs rRs rNs rTs l yX0_blameIf cX0_blameIf 3 none 2 42 cq25 := kmet_y2 (rt := 0) (by decide +kernel) yr25 zw25 rfl yw25 LAll_ok LAll_la yt1_ok gHo_ok rfl (fun G n Qf => List.forall_mem_cons.mpr ⟨⟨cq9, rfl, st27 l (by decide) (by decide)⟩, yA_n⟩) rfl (fun G n Rr => yA_n) rfl
/-! 26 Expression.known ()I -/
def mt26 : yMt := ([(182, (85, 0))], ([], ([], [])))
theorem rc26 : yRc cq26 13407 0 = true := by decide +kernel
theorem yr26 : yRun gAll t26 b26 cq26 := yRun_z gAll_tag ruI2_RtI ruJ2_RtJ rqL_ok z26
theorem zw26 : zwid cq26.2.1.1 cq26.1 0 2 = true := by decide +kernel
set_option maxRecDepth 100000 in
theorem yw26 : yRows gAll LAll yt2 mt26 gHo 2 1 (zby cX1_known) p26 b26 p26 = true := by decide +kernel
set_option maxRecDepth 100000 in
theorem m26 (l : Launch) : kMet gAll LAll vwCl rFo rZs rRs rNs rTs l yX1_known cX1_known 2 (some .int) 1 28 cq26 := kmet_y2 (rt := 1) (by decide +kernel) yr26 zw26 rfl yw26 LAll_ok LAll_la yt2_ok gHo_ok rfl (fun G n Qf => List.forall_mem_cons.mpr ⟨⟨cq15, rfl, st14 l (by decide) (by decide)⟩, yA_n⟩) rfl (fun G n Rr => yA_n) rfl
/-! 27 Assembler.isDefined (I)Z -/
theorem hdV_X1_known : yX1_known.cls = RX1 ∧ yX1_known.cls ≠ "java/lang/invoke/MethodHandle" ∧ yX1_known.cls ≠ "java/lang/invoke/VarHandle" ∧ (parseMethodDescriptor yX1_known.desc).map (fun d => d.parameters.length) = some 0 := by decide +kernel
theorem st28 (l : Launch) {G : rGm} {cc : ByteArray} {nL n fr lo : Nat} {ret : Option FieldType} {Qf : kQf} (hf : 2 ≤ fr) (hlo : 49 ≤ lo) : ySite gAll LAll vwCl rFo rZs rRs rNs rTs G l cc nL RX0 ret fr lo n Qf 182 190 cq26 := ys_V 0 13407 3 rc26 lo_13407 kc3 (m26 l) kGood kw1220 kw1221 kw1222 kw181 kw1471 hdV_X1_known hf hlo
def mt27 : yMt := ([(182, (190, 0))], ([], ([], [])))
theorem rc27 : yRc cq27 13364 1 = true := by decide +kernel
theorem yr27 : yRun gAll t27 b27 cq27 := yRun_z gAll_tag ruI2_RtI ruJ2_RtJ rqL_ok z27
theorem zw27 : zwid cq27.2.1.1 cq27.1 0 3 = true := by decide +kernel
set_option maxRecDepth 100000 in
theorem yw27 : yRows gAll LAll yt1 mt27 gHo 3 3 (zby cX0_isDefined) p27 b27 p27 = true := by decide +kernel
set_option maxRecDepth 100000 in
theorem m27 (l : Launch) : kMet gAll LAll vwCl rFo rZs rRs rNs rTs l yX0_isDefined cX0_isDefined 3 (some .boolean) 2 49 cq27 := kmet_y2 (rt := 3) (by decide +kernel) yr27 zw27 rfl yw27 LAll_ok LAll_la yt1_ok gHo_ok rfl (fun G n Qf => List.forall_mem_cons.mpr ⟨⟨cq26, rfl, st28 l (by decide) (by decide)⟩, yA_n⟩) rfl (fun G n Rr => yA_n) rfl
/-! 28 Names.find/name@x.assembler.reader.source.macros ([BIII)I -/
def mt28 : yMt := ([], ([], ([], [])))
theorem rc28 : yRc cq28 13384 4 = true := by decide +kernel
theorem yr28 : yRun gAll t28 b28 cq28 := yRun_p (cuts := u28) (fuel := 300) gAll_tag ruI2_RtI ruJ2_RtJ rqL_ok ⟨zsm_e _ z28_s, List.forall_mem_cons.mpr ⟨zsm_e _ z28_0, List.forall_mem_cons.mpr ⟨zsm_e _ z28_1, List.forall_mem_cons.mpr ⟨zsm_e _ z28_2, yA_n⟩⟩⟩⟩
theorem zw28 : zwid cq28.2.1.1 cq28.1 0 9 = true := by decide +kernel
set_option maxRecDepth 100000 in
theorem yw28 : yRows gAll LAll yt8 mt28 gHo 9 1 (zby cX7_find) p28 b28 p28 = true := by decide +kernel
set_option maxRecDepth 100000 in
theorem m28 (l : Launch) : kMet gAll LAll vwCl rFo rZs rRs rNs rTs l yX7_find cX7_find 9 (some .int) 0 0 cq28 := kmet_y2 (rt := 1) (by decide +kernel) yr28 zw28 rfl yw28 LAll_ok LAll_la yt8_ok gHo_ok rfl (fun G n Qf => yA_n) rfl (fun G n Rr => yA_n) rfl
/-! 29 Assembler.isMacro ()Z -/
theorem st29 (l : Launch) {G : rGm} {cc : ByteArray} {nL n fr lo : Nat} {ret : Option FieldType} {Qf : kQf} (hf : 1 ≤ fr) (hlo : 28 ≤ lo) : ySite gAll LAll vwCl rFo rZs rRs rNs rTs G l cc nL RX0 ret fr lo n Qf 182 223 cq28 := ys_V 4 13384 9 rc28 lo_13384 kc9 (m28 l) kGood kw1342 kw734 kw735 kw18 kw732 hdV_X7_find hf hlo
def mt29 : yMt := ([(182, (223, 0))], ([], ([], [])))
theorem rc29 : yRc cq29 13364 0 = true := by decide +kernel
theorem yr29 : yRun gAll t29 b29 cq29 := yRun_z gAll_tag ruI2_RtI ruJ2_RtJ rqL_ok z29
theorem zw29 : zwid cq29.2.1.1 cq29.1 0 2 = true := by decide +kernel
set_option maxRecDepth 100000 in
theorem yw29 : yRows gAll LAll yt1 mt29 gHo 2 3 (zby cX0_isMacro) p29 b29 p29 = true := by decide +kernel
set_option maxRecDepth 100000 in
theorem m29 (l : Launch) : kMet gAll LAll vwCl rFo rZs rRs rNs rTs l yX0_isMacro cX0_isMacro 2 (some .boolean) 1 28 cq29 := kmet_y2 (rt := 3) (by decide +kernel) yr29 zw29 rfl yw29 LAll_ok LAll_la yt1_ok gHo_ok rfl (fun G n Qf => List.forall_mem_cons.mpr ⟨⟨cq28, rfl, st29 l (by decide) (by decide)⟩, yA_n⟩) rfl (fun G n Rr => yA_n) rfl
/-! 30 Expression.beLatest (I)V -/
theorem cA3_e : cA3 = cpC 26733 1 1024 (2 * ((13413 : Nat) : Int) + 1) 1 64 96 := by rfl
theorem sA3 {own : String} {ix : Nat} (l : Launch) {G : rGm} {cc : ByteArray} {nL n fr lo : Nat} {ret : Option FieldType} {Qf : kQf} (w1 : Cond.methodLink own ix arraycopyName ∈ rTs) (hf : 1 ≤ fr) (hlo : 26 ≤ lo) : ySite gAll LAll vwCl rFo rZs rRs rNs rTs G l cc nL own ret fr lo n Qf 184 ix cA3 := by
  rw [cA3_e]
  exact ys_A (t := 2) (c1 := ((-128), 127)) (c2 := ((-128), 127)) LAll_ok (Or.inl ⟨13366, _, List.mem_of_getElem? (i := 16) rfl, rfl⟩) rfl (List.mem_of_getElem? (i := 58) rfl) rfl (by decide) (fun z h1 h2 => y_fb ⟨Int.le_trans (by decide) h1, Int.le_trans h2 (by decide)⟩) w1 kw62 kw63 kw64 hf (Nat.le_trans (by decide +kernel) hlo)
def mt30 : yMt := ([(184, (52, 0)), (184, (65, 1))], ([], ([], [])))
theorem rc30 : yRc cq30 13407 1 = true := by decide +kernel
theorem yr30 : yRun gAll t30 b30 cq30 := yRun_z gAll_tag ruI2_RtI ruJ2_RtJ rqL_ok z30
theorem zw30 : zwid cq30.2.1.1 cq30.1 0 2 = true := by decide +kernel
set_option maxRecDepth 100000 in
theorem yw30 : yRows gAll LAll yt2 mt30 gHo 2 0 (zby cX1_beLatest) p30 b30 p30 = true := by decide +kernel
set_option maxRecDepth 100000 in
theorem m30 (l : Launch) : kMet gAll LAll vwCl rFo rZs rRs rNs rTs l yX1_beLatest cX1_beLatest 2 none 1 26 cq30 := kmet_y2 (rt := 0) (by decide +kernel) yr30 zw30 rfl yw30 LAll_ok LAll_la yt2_ok gHo_ok rfl (fun G n Qf => List.forall_mem_cons.mpr ⟨⟨cq8, rfl, st10 l (by decide) (by decide)⟩, List.forall_mem_cons.mpr ⟨⟨cA3, rfl, sA3 l kw1462 (by decide) (by decide)⟩, yA_n⟩⟩) rfl (fun G n Rr => yA_n) rfl
/-! 31 Expression.made ()I -/
theorem st30 (l : Launch) {G : rGm} {cc : ByteArray} {nL n fr lo : Nat} {ret : Option FieldType} {Qf : kQf} (hf : 2 ≤ fr) (hlo : 49 ≤ lo) : ySite gAll LAll vwCl rFo rZs rRs rNs rTs G l cc nL RX1 ret fr lo n Qf 182 92 cq26 := ys_V 0 13407 3 rc26 lo_13407 kc3 (m26 l) kGood kw1478 kw1221 kw1222 kw181 kw1471 hdV_X1_known hf hlo
def mt31 : yMt := ([(182, (92, 0)), (182, (96, 1)), (182, (100, 2)), (182, (104, 3))], ([], ([], [])))
theorem rc31 : yRc cq31 13407 0 = true := by decide +kernel
theorem yr31 : yRun gAll t31 b31 cq31 := yRun_z gAll_tag ruI2_RtI ruJ2_RtJ rqL_ok z31
theorem zw31 : zwid cq31.2.1.1 cq31.1 0 2 = true := by decide +kernel
set_option maxRecDepth 100000 in
theorem yw31 : yRows gAll LAll yt2 mt31 gHo 2 1 (zby cX1_made) p31 b31 p31 = true := by decide +kernel
set_option maxRecDepth 100000 in
theorem m31 (l : Launch) : kMet gAll LAll vwCl rFo rZs rRs rNs rTs l yX1_made cX1_made 2 (some .int) 2 51 cq31 := kmet_y2 (rt := 1) (by decide +kernel) yr31 zw31 rfl yw31 LAll_ok LAll_la yt2_ok gHo_ok rfl (fun G n Qf => List.forall_mem_cons.mpr ⟨⟨cq26, rfl, st30 l (by decide) (by decide)⟩, List.forall_mem_cons.mpr ⟨⟨cq14, rfl, st15 l (by decide) (by decide)⟩, List.forall_mem_cons.mpr ⟨⟨cq9, rfl, st9 l (by decide) (by decide)⟩, List.forall_mem_cons.mpr ⟨⟨cq17, rfl, st16 l (by decide) (by decide)⟩, yA_n⟩⟩⟩⟩) rfl (fun G n Rr => yA_n) rfl
/-! 32 Line.isWord (I)Z -/
def mt32 : yMt := ([], ([], ([], [])))
theorem rc32 : yRc cq32 13365 1 = true := by decide +kernel
theorem yr32 : yRun gAll t32 b32 cq32 := yRun_z gAll_tag ruI2_RtI ruJ2_RtJ rqL_ok z32
theorem zw32 : zwid cq32.2.1.1 cq32.1 0 2 = true := by decide +kernel
set_option maxRecDepth 100000 in
theorem yw32 : yRows gAll LAll yt4 mt32 gHo 2 3 (zby cX3_isWord) p32 b32 p32 = true := by decide +kernel
set_option maxRecDepth 100000 in
theorem m32 (l : Launch) : kMet gAll LAll vwCl rFo rZs rRs rNs rTs l yX3_isWord cX3_isWord 2 (some .boolean) 0 0 cq32 := kmet_y2 (rt := 3) (by decide +kernel) yr32 zw32 rfl yw32 LAll_ok LAll_la yt4_ok gHo_ok rfl (fun G n Qf => yA_n) rfl (fun G n Rr => yA_n) rfl
/-! 33 Units.beLabel (III)V -/
def mt33 : yMt := ([], ([], ([], [])))
theorem rc33 : yRc cq33 2 3 = true := by decide +kernel
theorem yr33 : yRun gAll t33 b33 cq33 := yRun_z gAll_tag ruI2_RtI ruJ2_RtJ rqL_ok z33
theorem zw33 : zwid cq33.2.1.1 cq33.1 0 5 = true := by decide +kernel
set_option maxRecDepth 100000 in
theorem yw33 : yRows gAll LAll yt11 mt33 gHo 5 0 (zby cX10_beLabel) p33 b33 p33 = true := by decide +kernel
set_option maxRecDepth 100000 in
theorem m33 (l : Launch) : kMet gAll LAll vwCl rFo rZs rRs rNs rTs l yX10_beLabel cX10_beLabel 5 none 0 0 cq33 := kmet_y2 (rt := 0) (by decide +kernel) yr33 zw33 rfl yw33 LAll_ok LAll_la yt11_ok gHo_ok rfl (fun G n Qf => yA_n) rfl (fun G n Rr => yA_n) rfl
/-! 34 Assembler.label (I)V -/
theorem st31 (l : Launch) {G : rGm} {cc : ByteArray} {nL n fr lo : Nat} {ret : Option FieldType} {Qf : kQf} (hf : 2 ≤ fr) (hlo : 50 ≤ lo) : ySite gAll LAll vwCl rFo rZs rRs rNs rTs G l cc nL RX0 ret fr lo n Qf 182 180 cq13 := ys_V 2 13407 3 rc13 lo_13407 kc3 (m13 l) kGood kw1211 kw1212 kw1213 kw181 kw1503 hdV_X1_spell hf hlo
theorem hdV_X3_isWord : yX3_isWord.cls = RX3 ∧ yX3_isWord.cls ≠ "java/lang/invoke/MethodHandle" ∧ yX3_isWord.cls ≠ "java/lang/invoke/VarHandle" ∧ (parseMethodDescriptor yX3_isWord.desc).map (fun d => d.parameters.length) = some 1 := by decide +kernel
theorem st32 (l : Launch) {G : rGm} {cc : ByteArray} {nL n fr lo : Nat} {ret : Option FieldType} {Qf : kQf} (hf : 1 ≤ fr) (hlo : 21 ≤ lo) : ySite gAll LAll vwCl rFo rZs rRs rNs rTs G l cc nL RX0 ret fr lo n Qf 182 184 cq32 := ys_V 1 13365 5 rc32 lo_13365 kc5 (m32 l) kGood kw1214 kw1215 kw1216 kw90 kw1631 hdV_X3_isWord hf hlo
theorem hdV_X0_isMacro : yX0_isMacro.cls = RX0 ∧ yX0_isMacro.cls ≠ "java/lang/invoke/MethodHandle" ∧ yX0_isMacro.cls ≠ "java/lang/invoke/VarHandle" ∧ (parseMethodDescriptor yX0_isMacro.desc).map (fun d => d.parameters.length) = some 0 := by decide +kernel
theorem st33 (l : Launch) {G : rGm} {cc : ByteArray} {nL n fr lo : Nat} {ret : Option FieldType} {Qf : kQf} (hf : 2 ≤ fr) (hlo : 49 ≤ lo) : ySite gAll LAll vwCl rFo rZs rRs rNs rTs G l cc nL RX0 ret fr lo n Qf 182 187 cq29 := ys_V 0 13364 2 rc29 lo_13364 kc2 (m29 l) kGood kw1217 kw1218 kw1219 kw249 kw1337 hdV_X0_isMacro hf hlo
theorem hdV_X0_isDefined : yX0_isDefined.cls = RX0 ∧ yX0_isDefined.cls ≠ "java/lang/invoke/MethodHandle" ∧ yX0_isDefined.cls ≠ "java/lang/invoke/VarHandle" ∧ (parseMethodDescriptor yX0_isDefined.desc).map (fun d => d.parameters.length) = some 1 := by decide +kernel
theorem st34 (l : Launch) {G : rGm} {cc : ByteArray} {nL n fr lo : Nat} {ret : Option FieldType} {Qf : kQf} (hf : 3 ≤ fr) (hlo : 71 ≤ lo) : ySite gAll LAll vwCl rFo rZs rRs rNs rTs G l cc nL RX0 ret fr lo n Qf 182 197 cq27 := ys_V 1 13364 2 rc27 lo_13364 kc2 (m27 l) kGood kw1226 kw1227 kw1228 kw249 kw1336 hdV_X0_isDefined hf hlo
theorem hdV_X1_made : yX1_made.cls = RX1 ∧ yX1_made.cls ≠ "java/lang/invoke/MethodHandle" ∧ yX1_made.cls ≠ "java/lang/invoke/VarHandle" ∧ (parseMethodDescriptor yX1_made.desc).map (fun d => d.parameters.length) = some 0 := by decide +kernel
theorem st35 (l : Launch) {G : rGm} {cc : ByteArray} {nL n fr lo : Nat} {ret : Option FieldType} {Qf : kQf} (hf : 3 ≤ fr) (hlo : 72 ≤ lo) : ySite gAll LAll vwCl rFo rZs rRs rNs rTs G l cc nL RX0 ret fr lo n Qf 182 237 cq31 := ys_V 0 13407 3 rc31 lo_13407 kc3 (m31 l) kGood kw1303 kw1304 kw1305 kw181 kw1477 hdV_X1_made hf hlo
theorem hdV_X10_beLabel : yX10_beLabel.cls = RX10 ∧ yX10_beLabel.cls ≠ "java/lang/invoke/MethodHandle" ∧ yX10_beLabel.cls ≠ "java/lang/invoke/VarHandle" ∧ (parseMethodDescriptor yX10_beLabel.desc).map (fun d => d.parameters.length) = some 3 := by decide +kernel
theorem st36 (l : Launch) {G : rGm} {cc : ByteArray} {nL n fr lo : Nat} {ret : Option FieldType} {Qf : kQf} (hf : 1 ≤ fr) (hlo : 24 ≤ lo) : ySite gAll LAll vwCl rFo rZs rRs rNs rTs G l cc nL RX0 ret fr lo n Qf 182 240 cq33 := ys_V 3 2 12 rc33 lo_2 kc12 (m33 l) kGood kw1349 kw1350 kw1351 kw241 kw2113 hdV_X10_beLabel hf hlo
theorem hdV_X1_beLatest : yX1_beLatest.cls = RX1 ∧ yX1_beLatest.cls ≠ "java/lang/invoke/MethodHandle" ∧ yX1_beLatest.cls ≠ "java/lang/invoke/VarHandle" ∧ (parseMethodDescriptor yX1_beLatest.desc).map (fun d => d.parameters.length) = some 1 := by decide +kernel
theorem st37 (l : Launch) {G : rGm} {cc : ByteArray} {nL n fr lo : Nat} {ret : Option FieldType} {Qf : kQf} (hf : 2 ≤ fr) (hlo : 47 ≤ lo) : ySite gAll LAll vwCl rFo rZs rRs rNs rTs G l cc nL RX0 ret fr lo n Qf 182 244 cq30 := ys_V 1 13407 3 rc30 lo_13407 kc3 (m30 l) kGood kw1352 kw1353 kw1354 kw181 kw1456 hdV_X1_beLatest hf hlo
def mt34 : yMt := ([(182, (180, 0)), (182, (184, 1)), (182, (187, 2)), (182, (197, 3)), (182, (88, 4)), (182, (237, 5)), (182, (240, 6)), (182, (244, 7))], ([], ([], [])))
theorem rc34 : yRc cq34 13364 1 = true := by decide +kernel
theorem yr34 : yRun gAll t34 b34 cq34 := yRun_z gAll_tag ruI2_RtI ruJ2_RtJ rqL_ok z34
theorem zw34 : zwid cq34.2.1.1 cq34.1 0 3 = true := by decide +kernel
set_option maxRecDepth 100000 in
theorem yw34 : yRows gAll LAll yt1 mt34 gHo 3 0 (zby cX0_label) p34 b34 p34 = true := by decide +kernel
set_option maxRecDepth 100000 in
theorem m34 (l : Launch) : kMet gAll LAll vwCl rFo rZs rRs rNs rTs l yX0_label cX0_label 3 none 3 72 cq34 := kmet_y2 (rt := 0) (by decide +kernel) yr34 zw34 rfl yw34 LAll_ok LAll_la yt1_ok gHo_ok rfl (fun G n Qf => List.forall_mem_cons.mpr ⟨⟨cq13, rfl, st31 l (by decide) (by decide)⟩, List.forall_mem_cons.mpr ⟨⟨cq32, rfl, st32 l (by decide) (by decide)⟩, List.forall_mem_cons.mpr ⟨⟨cq29, rfl, st33 l (by decide) (by decide)⟩, List.forall_mem_cons.mpr ⟨⟨cq27, rfl, st34 l (by decide) (by decide)⟩, List.forall_mem_cons.mpr ⟨⟨cq9, rfl, st27 l (by decide) (by decide)⟩, List.forall_mem_cons.mpr ⟨⟨cq31, rfl, st35 l (by decide) (by decide)⟩, List.forall_mem_cons.mpr ⟨⟨cq33, rfl, st36 l (by decide) (by decide)⟩, List.forall_mem_cons.mpr ⟨⟨cq30, rfl, st37 l (by decide) (by decide)⟩, yA_n⟩⟩⟩⟩⟩⟩⟩⟩) rfl (fun G n Rr => yA_n) rfl
/-! 35 Names.find/text@x.assembler.reader.source.macros ([BIII)I -/
def mt35 : yMt := ([], ([], ([], [])))
theorem rc35 : yRc cq35 13384 4 = true := by decide +kernel
theorem yr35 : yRun gAll t35 b35 cq35 := yRun_p (cuts := u35) (fuel := 300) gAll_tag ruI2_RtI ruJ2_RtJ rqL_ok ⟨zsm_e _ z35_s, List.forall_mem_cons.mpr ⟨zsm_e _ z35_0, List.forall_mem_cons.mpr ⟨zsm_e _ z35_1, List.forall_mem_cons.mpr ⟨zsm_e _ z35_2, yA_n⟩⟩⟩⟩
theorem zw35 : zwid cq35.2.1.1 cq35.1 0 9 = true := by decide +kernel
set_option maxRecDepth 100000 in
theorem yw35 : yRows gAll LAll yt8 mt35 gHo 9 1 (zby cX7_find) p35 b35 p35 = true := by decide +kernel
set_option maxRecDepth 100000 in
theorem m35 (l : Launch) : kMet gAll LAll vwCl rFo rZs rRs rNs rTs l yX7_find cX7_find 9 (some .int) 0 0 cq35 := kmet_y2 (rt := 1) (by decide +kernel) yr35 zw35 rfl yw35 LAll_ok LAll_la yt8_ok gHo_ok rfl (fun G n Qf => yA_n) rfl (fun G n Rr => yA_n) rfl
/-! 36 Assembler.wordAt (I)I -/
theorem st38 (l : Launch) {G : rGm} {cc : ByteArray} {nL n fr lo : Nat} {ret : Option FieldType} {Qf : kQf} (hf : 1 ≤ fr) (hlo : 28 ≤ lo) : ySite gAll LAll vwCl rFo rZs rRs rNs rTs G l cc nL RX0 ret fr lo n Qf 182 223 cq35 := ys_V 4 13384 9 rc35 lo_13384 kc9 (m35 l) kGood kw1342 kw734 kw735 kw18 kw732 hdV_X7_find hf hlo
def mt36 : yMt := ([(182, (200, 0)), (182, (223, 1))], ([], ([], [])))
theorem rc36 : yRc cq36 13364 1 = true := by decide +kernel
theorem yr36 : yRun gAll t36 b36 cq36 := yRun_z gAll_tag ruI2_RtI ruJ2_RtJ rqL_ok z36
theorem zw36 : zwid cq36.2.1.1 cq36.1 0 4 = true := by decide +kernel
set_option maxRecDepth 100000 in
theorem yw36 : yRows gAll LAll yt1 mt36 gHo 4 1 (zby cX0_wordAt) p36 b36 p36 = true := by decide +kernel
set_option maxRecDepth 100000 in
theorem m36 (l : Launch) : kMet gAll LAll vwCl rFo rZs rRs rNs rTs l yX0_wordAt cX0_wordAt 4 (some .int) 1 28 cq36 := kmet_y2 (rt := 1) (by decide +kernel) yr36 zw36 rfl yw36 LAll_ok LAll_la yt1_ok gHo_ok rfl (fun G n Qf => List.forall_mem_cons.mpr ⟨⟨cq22, rfl, st22 l (by decide) (by decide)⟩, List.forall_mem_cons.mpr ⟨⟨cq35, rfl, st38 l (by decide) (by decide)⟩, yA_n⟩⟩) rfl (fun G n Rr => yA_n) rfl
/-! 37 Reader.current ()I -/
def mt37 : yMt := ([], ([], ([], [])))
theorem rc37 : yRc cq37 13377 0 = true := by decide +kernel
theorem yr37 : yRun gAll t37 b37 cq37 := yRun_z gAll_tag ruI2_RtI ruJ2_RtJ rqL_ok z37
theorem zw37 : zwid cq37.2.1.1 cq37.1 0 1 = true := by decide +kernel
set_option maxRecDepth 100000 in
theorem yw37 : yRows gAll LAll yt9 mt37 gHo 1 1 (zby cX8_current) p37 b37 p37 = true := by decide +kernel
set_option maxRecDepth 100000 in
theorem m37 (l : Launch) : kMet gAll LAll vwCl rFo rZs rRs rNs rTs l yX8_current cX8_current 1 (some .int) 0 0 cq37 := kmet_y2 (rt := 1) (by decide +kernel) yr37 zw37 rfl yw37 LAll_ok LAll_la yt9_ok gHo_ok rfl (fun G n Qf => yA_n) rfl (fun G n Rr => yA_n) rfl
/-! 38 Reader.full ()Z -/
def mt38 : yMt := ([], ([], ([], [])))
theorem rc38 : yRc cq38 13377 0 = true := by decide +kernel
theorem yr38 : yRun gAll t38 b38 cq38 := yRun_z gAll_tag ruI2_RtI ruJ2_RtJ rqL_ok z38
theorem zw38 : zwid cq38.2.1.1 cq38.1 0 1 = true := by decide +kernel
set_option maxRecDepth 100000 in
theorem yw38 : yRows gAll LAll yt9 mt38 gHo 1 3 (zby cX8_full) p38 b38 p38 = true := by decide +kernel
set_option maxRecDepth 100000 in
theorem m38 (l : Launch) : kMet gAll LAll vwCl rFo rZs rRs rNs rTs l yX8_full cX8_full 1 (some .boolean) 0 0 cq38 := kmet_y2 (rt := 3) (by decide +kernel) yr38 zw38 rfl yw38 LAll_ok LAll_la yt9_ok gHo_ok rfl (fun G n Qf => yA_n) rfl (fun G n Rr => yA_n) rfl
/-! 39 Reader.misplaced (I)Z -/
theorem hdV_X8_current : yX8_current.cls = RX8 ∧ yX8_current.cls ≠ "java/lang/invoke/MethodHandle" ∧ yX8_current.cls ≠ "java/lang/invoke/VarHandle" ∧ (parseMethodDescriptor yX8_current.desc).map (fun d => d.parameters.length) = some 0 := by decide +kernel
theorem st39 (l : Launch) {G : rGm} {cc : ByteArray} {nL n fr lo : Nat} {ret : Option FieldType} {Qf : kQf} (hf : 1 ≤ fr) (hlo : 20 ≤ lo) : ySite gAll LAll vwCl rFo rZs rRs rNs rTs G l cc nL RX8 ret fr lo n Qf 182 143 cq37 := ys_V 0 13377 10 rc37 lo_13377 kc10 (m37 l) kGood kw2031 kw2032 kw2033 kw167 kw2026 hdV_X8_current hf hlo
theorem hdV_X8_full : yX8_full.cls = RX8 ∧ yX8_full.cls ≠ "java/lang/invoke/MethodHandle" ∧ yX8_full.cls ≠ "java/lang/invoke/VarHandle" ∧ (parseMethodDescriptor yX8_full.desc).map (fun d => d.parameters.length) = some 0 := by decide +kernel
theorem st40 (l : Launch) {G : rGm} {cc : ByteArray} {nL n fr lo : Nat} {ret : Option FieldType} {Qf : kQf} (hf : 1 ≤ fr) (hlo : 20 ≤ lo) : ySite gAll LAll vwCl rFo rZs rRs rNs rTs G l cc nL RX8 ret fr lo n Qf 182 147 cq38 := ys_V 0 13377 10 rc38 lo_13377 kc10 (m38 l) kGood kw2034 kw2035 kw2036 kw167 kw2027 hdV_X8_full hf hlo
set_option maxRecDepth 100000 in
theorem w39_0 : decode cX8_misplaced 73 = .ok (.tableswitch 141 54 59 #[39, 57, 86, 96, 141, 139], 39) := by decide +kernel
def mt39 : yMt := ([(182, (143, 0)), (182, (147, 1))], ([], ([(73, (3, (0, (33, (0, [(54, 11), (55, 16), (56, 22), (57, 26), (58, 33), (59, 32)])))))], [])))
theorem rc39 : yRc cq39 13377 1 = true := by decide +kernel
theorem yr39 : yRun gAll t39 b39 cq39 := yRun_z gAll_tag ruI2_RtI ruJ2_RtJ rqL_ok z39
theorem zw39 : zwid cq39.2.1.1 cq39.1 0 5 = true := by decide +kernel
set_option maxRecDepth 100000 in
theorem yw39 : yRows gAll LAll yt9 mt39 gHo 5 3 (zby cX8_misplaced) p39 b39 p39 = true := by decide +kernel
set_option maxRecDepth 100000 in
theorem m39 (l : Launch) : kMet gAll LAll vwCl rFo rZs rRs rNs rTs l yX8_misplaced cX8_misplaced 5 (some .boolean) 1 20 cq39 := kmet_y2 (rt := 3) (by decide +kernel) yr39 zw39 rfl yw39 LAll_ok LAll_la yt9_ok gHo_ok rfl (fun G n Qf => List.forall_mem_cons.mpr ⟨⟨cq37, rfl, st39 l (by decide) (by decide)⟩, List.forall_mem_cons.mpr ⟨⟨cq38, rfl, st40 l (by decide) (by decide)⟩, yA_n⟩⟩) rfl (fun G n Rr => List.forall_mem_cons.mpr ⟨k_table _ p39 (fun b t hb ls st s h => kV_at hb h) w39_0 (by decide +kernel) (by decide +kernel) rfl rfl, yA_n⟩) rfl
/-! 40 java/util/Arrays.rangeCheck (III)V -/
def mt40 : yMt := ([], ([], ([], [])))
theorem yr40 : yRun gAll t40 b40 cq40 := yRun_z gAll_tag ruI2_RtI ruJ2_RtJ rqL_ok z40
theorem zw40 : zwid cq40.2.1.1 cq40.1 0 3 = true := by decide +kernel
set_option maxRecDepth 100000 in
theorem yw40 : yRows gAll LAll yt17 mt40 gHo 3 0 (zby cJ7_rangeCheck_23922) p40 b40 p40 = true := by decide +kernel
set_option maxRecDepth 100000 in
theorem m40 (l : Launch) : kMet gAll LAll vwCl rFo rZs rRs rNs rTs l yJ7_rangeCheck_23922 cJ7_rangeCheck_23922 3 none 0 0 cq40 := kmet_y2 (rt := 0) (by decide +kernel) yr40 zw40 rfl yw40 LAll_ok LAll_la yt17_ok gHo_ok rfl (fun G n Qf => yA_n) rfl (fun G n Rr => yA_n) rfl
/-! 41 java/util/Arrays.fill/argumentFrom ([IIII)V -/
theorem hdS_J7_rangeCheck_23922 : yJ7_rangeCheck_23922.cls ≠ "java/lang/invoke/MethodHandle" ∧ yJ7_rangeCheck_23922.cls ≠ "java/lang/invoke/VarHandle" ∧ (parseMethodDescriptor yJ7_rangeCheck_23922.desc).map (fun d => d.parameters.length) = some 3 := by decide +kernel
theorem st41 (l : Launch) {G : rGm} {cc : ByteArray} {nL n fr lo : Nat} {ret : Option FieldType} {Qf : kQf} (hf : 1 ≤ fr) (hlo : 22 ≤ lo) : ySite gAll LAll vwCl rFo rZs rRs rNs rTs G l cc nL RJ7 ret fr lo n Qf 184 13 cq40 := ys_S 3 rfl (m40 l) kGood kw645 kw646 kw13 kw644 hdS_J7_rangeCheck_23922 hf hlo
def mt41 : yMt := ([(184, (13, 0))], ([], ([], [])))
theorem yr41 : yRun gAll t41 b41 cq41 := yRun_p (cuts := u41) (fuel := 300) gAll_tag ruI2_RtI ruJ2_RtJ rqL_ok ⟨zsm_e _ z41_s, List.forall_mem_cons.mpr ⟨zsm_e _ z41_0, yA_n⟩⟩
theorem zw41 : zwid cq41.2.1.1 cq41.1 0 5 = true := by decide +kernel
set_option maxRecDepth 100000 in
theorem yw41 : yRows gAll LAll yt17 mt41 gHo 5 0 (zby cJ7_fill_fda19) p41 b41 p41 = true := by decide +kernel
set_option maxRecDepth 100000 in
theorem m41 (l : Launch) : kMet gAll LAll vwCl rFo rZs rRs rNs rTs l yJ7_fill_fda19 cJ7_fill_fda19 5 none 1 22 cq41 := kmet_y2 (rt := 0) (by decide +kernel) yr41 zw41 rfl yw41 LAll_ok LAll_la yt17_ok gHo_ok rfl (fun G n Qf => List.forall_mem_cons.mpr ⟨⟨cq40, rfl, st41 l (by decide) (by decide)⟩, yA_n⟩) rfl (fun G n Rr => yA_n) rfl
/-! 42 java/util/Arrays.fill/argumentTo ([IIII)V -/
def mt42 : yMt := ([(184, (13, 0))], ([], ([], [])))
theorem yr42 : yRun gAll t42 b42 cq42 := yRun_p (cuts := u42) (fuel := 300) gAll_tag ruI2_RtI ruJ2_RtJ rqL_ok ⟨zsm_e _ z42_s, List.forall_mem_cons.mpr ⟨zsm_e _ z42_0, yA_n⟩⟩
theorem zw42 : zwid cq42.2.1.1 cq42.1 0 5 = true := by decide +kernel
set_option maxRecDepth 100000 in
theorem yw42 : yRows gAll LAll yt17 mt42 gHo 5 0 (zby cJ7_fill_fda19) p42 b42 p42 = true := by decide +kernel
set_option maxRecDepth 100000 in
theorem m42 (l : Launch) : kMet gAll LAll vwCl rFo rZs rRs rNs rTs l yJ7_fill_fda19 cJ7_fill_fda19 5 none 1 22 cq42 := kmet_y2 (rt := 0) (by decide +kernel) yr42 zw42 rfl yw42 LAll_ok LAll_la yt17_ok gHo_ok rfl (fun G n Qf => List.forall_mem_cons.mpr ⟨⟨cq40, rfl, st41 l (by decide) (by decide)⟩, yA_n⟩) rfl (fun G n Rr => yA_n) rfl
/-! 43 Reader.split (III)I -/
theorem cA4_e : cA4 = cpC 26733 1 1024 (2 * ((13403 : Nat) : Int) + 1) 1 21504 84 := by rfl
theorem sA4 {own : String} {ix : Nat} (l : Launch) {G : rGm} {cc : ByteArray} {nL n fr lo : Nat} {ret : Option FieldType} {Qf : kQf} (w1 : Cond.methodLink own ix arraycopyName ∈ rTs) (hf : 1 ≤ fr) (hlo : 26 ≤ lo) : ySite gAll LAll vwCl rFo rZs rRs rNs rTs G l cc nL own ret fr lo n Qf 184 ix cA4 := by
  rw [cA4_e]
  exact ys_A (t := 2) (c1 := ((-128), 127)) (c2 := ((-128), 127)) LAll_ok (Or.inl ⟨13366, _, List.mem_of_getElem? (i := 16) rfl, rfl⟩) rfl (List.mem_of_getElem? (i := 49) rfl) rfl (by decide) (fun z h1 h2 => y_fb ⟨Int.le_trans (by decide) h1, Int.le_trans h2 (by decide)⟩) w1 kw62 kw63 kw64 hf (Nat.le_trans (by decide +kernel) hlo)
theorem hdS_J7_fill_fda19 : yJ7_fill_fda19.cls ≠ "java/lang/invoke/MethodHandle" ∧ yJ7_fill_fda19.cls ≠ "java/lang/invoke/VarHandle" ∧ (parseMethodDescriptor yJ7_fill_fda19.desc).map (fun d => d.parameters.length) = some 4 := by decide +kernel
theorem st42 (l : Launch) {G : rGm} {cc : ByteArray} {nL n fr lo : Nat} {ret : Option FieldType} {Qf : kQf} (hf : 2 ≤ fr) (hlo : 46 ≤ lo) : ySite gAll LAll vwCl rFo rZs rRs rNs rTs G l cc nL RX8 ret fr lo n Qf 184 194 cq41 := ys_S 4 rfl (m41 l) kGood kw2083 kw1744 kw13 kw1745 hdS_J7_fill_fda19 hf hlo
theorem st43 (l : Launch) {G : rGm} {cc : ByteArray} {nL n fr lo : Nat} {ret : Option FieldType} {Qf : kQf} (hf : 2 ≤ fr) (hlo : 46 ≤ lo) : ySite gAll LAll vwCl rFo rZs rRs rNs rTs G l cc nL RX8 ret fr lo n Qf 184 194 cq42 := ys_S 4 rfl (m42 l) kGood kw2083 kw1744 kw13 kw1745 hdS_J7_fill_fda19 hf hlo
def mt43 : yMt := ([(184, (194, 0)), (184, (194, 1)), (184, (109, 2))], ([], ([], [])))
theorem rc43 : yRc cq43 13377 3 = true := by decide +kernel
theorem yr43 : yRun gAll t43 b43 cq43 := yRun_p (cuts := u43) (fuel := 300) gAll_tag ruI2_RtI ruJ2_RtJ rqL_ok ⟨zsm_e _ z43_s, List.forall_mem_cons.mpr ⟨zsm_e _ z43_0, yA_n⟩⟩
theorem zw43 : zwid cq43.2.1.1 cq43.1 0 11 = true := by decide +kernel
set_option maxRecDepth 100000 in
theorem yw43 : yRows gAll LAll yt9 mt43 gHo 11 1 (zby cX8_split) p43 b43 p43 = true := by decide +kernel
set_option maxRecDepth 100000 in
theorem m43 (l : Launch) : kMet gAll LAll vwCl rFo rZs rRs rNs rTs l yX8_split cX8_split 11 (some .int) 2 46 cq43 := kmet_y2 (rt := 1) (by decide +kernel) yr43 zw43 rfl yw43 LAll_ok LAll_la yt9_ok gHo_ok rfl (fun G n Qf => List.forall_mem_cons.mpr ⟨⟨cq41, rfl, st42 l (by decide) (by decide)⟩, List.forall_mem_cons.mpr ⟨⟨cq42, rfl, st43 l (by decide) (by decide)⟩, List.forall_mem_cons.mpr ⟨⟨cA4, rfl, sA4 l kw2025 (by decide) (by decide)⟩, yA_n⟩⟩⟩) rfl (fun G n Rr => yA_n) rfl
/-! 44 Reader.overused (II)Z -/
theorem st44 (l : Launch) {G : rGm} {cc : ByteArray} {nL n fr lo : Nat} {ret : Option FieldType} {Qf : kQf} (hf : 1 ≤ fr) (hlo : 21 ≤ lo) : ySite gAll LAll vwCl rFo rZs rRs rNs rTs G l cc nL RX8 ret fr lo n Qf 184 186 cq8 := ys_S 2 rfl (m8 l) kGood kw2041 kw285 kw286 kw287 hdS_J9_min_7cf53 hf hlo
theorem hdV_X8_split : yX8_split.cls = RX8 ∧ yX8_split.cls ≠ "java/lang/invoke/MethodHandle" ∧ yX8_split.cls ≠ "java/lang/invoke/VarHandle" ∧ (parseMethodDescriptor yX8_split.desc).map (fun d => d.parameters.length) = some 3 := by decide +kernel
theorem st45 (l : Launch) {G : rGm} {cc : ByteArray} {nL n fr lo : Nat} {ret : Option FieldType} {Qf : kQf} (hf : 3 ≤ fr) (hlo : 76 ≤ lo) : ySite gAll LAll vwCl rFo rZs rRs rNs rTs G l cc nL RX8 ret fr lo n Qf 182 192 cq43 := ys_V 3 13377 10 rc43 lo_13377 kc10 (m43 l) kGood kw2042 kw2043 kw2044 kw167 kw2082 hdV_X8_split hf hlo
def mt44 : yMt := ([(182, (147, 0)), (184, (186, 1)), (182, (192, 2))], ([], ([], [])))
theorem rc44 : yRc cq44 13377 2 = true := by decide +kernel
theorem yr44 : yRun gAll t44 b44 cq44 := yRun_z gAll_tag ruI2_RtI ruJ2_RtJ rqL_ok z44
theorem zw44 : zwid cq44.2.1.1 cq44.1 0 4 = true := by decide +kernel
set_option maxRecDepth 100000 in
theorem yw44 : yRows gAll LAll yt9 mt44 gHo 4 3 (zby cX8_overused) p44 b44 p44 = true := by decide +kernel
set_option maxRecDepth 100000 in
theorem m44 (l : Launch) : kMet gAll LAll vwCl rFo rZs rRs rNs rTs l yX8_overused cX8_overused 4 (some .boolean) 3 76 cq44 := kmet_y2 (rt := 3) (by decide +kernel) yr44 zw44 rfl yw44 LAll_ok LAll_la yt9_ok gHo_ok rfl (fun G n Qf => List.forall_mem_cons.mpr ⟨⟨cq38, rfl, st40 l (by decide) (by decide)⟩, List.forall_mem_cons.mpr ⟨⟨cq8, rfl, st44 l (by decide) (by decide)⟩, List.forall_mem_cons.mpr ⟨⟨cq43, rfl, st45 l (by decide) (by decide)⟩, yA_n⟩⟩⟩) rfl (fun G n Rr => yA_n) rfl
/-! 45 Assembler.begin ()V -/
theorem hdV_X0_wordAt : yX0_wordAt.cls = RX0 ∧ yX0_wordAt.cls ≠ "java/lang/invoke/MethodHandle" ∧ yX0_wordAt.cls ≠ "java/lang/invoke/VarHandle" ∧ (parseMethodDescriptor yX0_wordAt.desc).map (fun d => d.parameters.length) = some 1 := by decide +kernel
theorem st46 (l : Launch) {G : rGm} {cc : ByteArray} {nL n fr lo : Nat} {ret : Option FieldType} {Qf : kQf} (hf : 2 ≤ fr) (hlo : 51 ≤ lo) : ySite gAll LAll vwCl rFo rZs rRs rNs rTs G l cc nL RX0 ret fr lo n Qf 182 160 cq36 := ys_V 1 13364 2 rc36 lo_13364 kc2 (m36 l) kGood kw1197 kw1198 kw1199 kw249 kw1437 hdV_X0_wordAt hf hlo
theorem hdV_X8_misplaced : yX8_misplaced.cls = RX8 ∧ yX8_misplaced.cls ≠ "java/lang/invoke/MethodHandle" ∧ yX8_misplaced.cls ≠ "java/lang/invoke/VarHandle" ∧ (parseMethodDescriptor yX8_misplaced.desc).map (fun d => d.parameters.length) = some 1 := by decide +kernel
theorem st47 (l : Launch) {G : rGm} {cc : ByteArray} {nL n fr lo : Nat} {ret : Option FieldType} {Qf : kQf} (hf : 2 ≤ fr) (hlo : 44 ≤ lo) : ySite gAll LAll vwCl rFo rZs rRs rNs rTs G l cc nL RX0 ret fr lo n Qf 182 167 cq39 := ys_V 1 13377 10 rc39 lo_13377 kc10 (m39 l) kGood kw1201 kw1202 kw1203 kw167 kw2029 hdV_X8_misplaced hf hlo
theorem hdV_X8_overused : yX8_overused.cls = RX8 ∧ yX8_overused.cls ≠ "java/lang/invoke/MethodHandle" ∧ yX8_overused.cls ≠ "java/lang/invoke/VarHandle" ∧ (parseMethodDescriptor yX8_overused.desc).map (fun d => d.parameters.length) = some 2 := by decide +kernel
theorem st48 (l : Launch) {G : rGm} {cc : ByteArray} {nL n fr lo : Nat} {ret : Option FieldType} {Qf : kQf} (hf : 4 ≤ fr) (hlo : 99 ≤ lo) : ySite gAll LAll vwCl rFo rZs rRs rNs rTs G l cc nL RX0 ret fr lo n Qf 182 173 cq44 := ys_V 2 13377 10 rc44 lo_13377 kc10 (m44 l) kGood kw1205 kw1206 kw1207 kw167 kw2039 hdV_X8_overused hf hlo
theorem hdV_X0_label : yX0_label.cls = RX0 ∧ yX0_label.cls ≠ "java/lang/invoke/MethodHandle" ∧ yX0_label.cls ≠ "java/lang/invoke/VarHandle" ∧ (parseMethodDescriptor yX0_label.desc).map (fun d => d.parameters.length) = some 1 := by decide +kernel
theorem st49 (l : Launch) {G : rGm} {cc : ByteArray} {nL n fr lo : Nat} {ret : Option FieldType} {Qf : kQf} (hf : 4 ≤ fr) (hlo : 94 ≤ lo) : ySite gAll LAll vwCl rFo rZs rRs rNs rTs G l cc nL RX0 ret fr lo n Qf 182 177 cq34 := ys_V 1 13364 2 rc34 lo_13364 kc2 (m34 l) kGood kw1208 kw1209 kw1210 kw249 kw1348 hdV_X0_label hf hlo
theorem hdV_X0_blameIf : yX0_blameIf.cls = RX0 ∧ yX0_blameIf.cls ≠ "java/lang/invoke/MethodHandle" ∧ yX0_blameIf.cls ≠ "java/lang/invoke/VarHandle" ∧ (parseMethodDescriptor yX0_blameIf.desc).map (fun d => d.parameters.length) = some 2 := by decide +kernel
theorem st50 (l : Launch) {G : rGm} {cc : ByteArray} {nL n fr lo : Nat} {ret : Option FieldType} {Qf : kQf} (hf : 3 ≤ fr) (hlo : 64 ≤ lo) : ySite gAll LAll vwCl rFo rZs rRs rNs rTs G l cc nL RX0 ret fr lo n Qf 182 193 cq25 := ys_V 2 13364 2 rc25 lo_13364 kc2 (m25 l) kGood kw1223 kw1224 kw1225 kw249 kw1229 hdV_X0_blameIf hf hlo
def mt45 : yMt := ([(182, (160, 0)), (182, (167, 1)), (182, (173, 2)), (182, (88, 3)), (182, (177, 4)), (182, (180, 5)), (182, (184, 6)), (182, (187, 7)), (182, (190, 8)), (182, (193, 9)), (182, (197, 10))], ([], ([], [])))
theorem rc45 : yRc cq45 13364 0 = true := by decide +kernel
theorem yr45 : yRun gAll t45 b45 cq45 := yRun_p (cuts := u45) (fuel := 300) gAll_tag ruI2_RtI ruJ2_RtJ rqL_ok ⟨zsm_e _ z45_s, List.forall_mem_cons.mpr ⟨zsm_e _ z45_0, List.forall_mem_cons.mpr ⟨zsm_e _ z45_1, List.forall_mem_cons.mpr ⟨zsm_e _ z45_2, List.forall_mem_cons.mpr ⟨zsm_e _ z45_3, List.forall_mem_cons.mpr ⟨zsm_e _ z45_4, yA_n⟩⟩⟩⟩⟩⟩
theorem zw45 : zwid cq45.2.1.1 cq45.1 0 3 = true := by decide +kernel
set_option maxRecDepth 100000 in
theorem yw45 : yRows gAll LAll yt1 mt45 gHo 3 0 (zby cX0_begin) p45 b45 p45 = true := by decide +kernel
set_option maxRecDepth 100000 in
theorem m45 (l : Launch) : kMet gAll LAll vwCl rFo rZs rRs rNs rTs l yX0_begin cX0_begin 3 none 4 99 cq45 := kmet_y2 (rt := 0) (by decide +kernel) yr45 zw45 rfl yw45 LAll_ok LAll_la yt1_ok gHo_ok rfl (fun G n Qf => List.forall_mem_cons.mpr ⟨⟨cq36, rfl, st46 l (by decide) (by decide)⟩, List.forall_mem_cons.mpr ⟨⟨cq39, rfl, st47 l (by decide) (by decide)⟩, List.forall_mem_cons.mpr ⟨⟨cq44, rfl, st48 l (by decide) (by decide)⟩, List.forall_mem_cons.mpr ⟨⟨cq9, rfl, st27 l (by decide) (by decide)⟩, List.forall_mem_cons.mpr ⟨⟨cq34, rfl, st49 l (by decide) (by decide)⟩, List.forall_mem_cons.mpr ⟨⟨cq13, rfl, st31 l (by decide) (by decide)⟩, List.forall_mem_cons.mpr ⟨⟨cq32, rfl, st32 l (by decide) (by decide)⟩, List.forall_mem_cons.mpr ⟨⟨cq29, rfl, st33 l (by decide) (by decide)⟩, List.forall_mem_cons.mpr ⟨⟨cq26, rfl, st28 l (by decide) (by decide)⟩, List.forall_mem_cons.mpr ⟨⟨cq25, rfl, st50 l (by decide) (by decide)⟩, List.forall_mem_cons.mpr ⟨⟨cq27, rfl, st34 l (by decide) (by decide)⟩, yA_n⟩⟩⟩⟩⟩⟩⟩⟩⟩⟩⟩) rfl (fun G n Rr => yA_n) rfl
/-! 46 Names.cut@x.units.names (I)V -/
def mt46 : yMt := ([], ([], ([], [])))
theorem rc46 : yRc cq46 3 1 = true := by decide +kernel
theorem yr46 : yRun gAll t46 b46 cq46 := yRun_p (cuts := u46) (fuel := 300) gAll_tag ruI2_RtI ruJ2_RtJ rqL_ok ⟨zsm_e _ z46_s, List.forall_mem_cons.mpr ⟨zsm_e _ z46_0, yA_n⟩⟩
theorem zw46 : zwid cq46.2.1.1 cq46.1 0 2 = true := by decide +kernel
set_option maxRecDepth 100000 in
theorem yw46 : yRows gAll LAll yt8 mt46 gHo 2 0 (zby cX7_cut) p46 b46 p46 = true := by decide +kernel
set_option maxRecDepth 100000 in
theorem m46 (l : Launch) : kMet gAll LAll vwCl rFo rZs rRs rNs rTs l yX7_cut cX7_cut 2 none 0 0 cq46 := kmet_y2 (rt := 0) (by decide +kernel) yr46 zw46 rfl yw46 LAll_ok LAll_la yt8_ok gHo_ok rfl (fun G n Qf => yA_n) rfl (fun G n Rr => yA_n) rfl
/-! 47 Units.drop ()V -/
theorem hdV_X7_cut : yX7_cut.cls = RX7 ∧ yX7_cut.cls ≠ "java/lang/invoke/MethodHandle" ∧ yX7_cut.cls ≠ "java/lang/invoke/VarHandle" ∧ (parseMethodDescriptor yX7_cut.desc).map (fun d => d.parameters.length) = some 1 := by decide +kernel
theorem st51 (l : Launch) {G : rGm} {cc : ByteArray} {nL n fr lo : Nat} {ret : Option FieldType} {Qf : kQf} (hf : 1 ≤ fr) (hlo : 21 ≤ lo) : ySite gAll LAll vwCl rFo rZs rRs rNs rTs G l cc nL RX10 ret fr lo n Qf 182 61 cq46 := ys_V 1 3 9 rc46 lo_3 kc9 (m46 l) kGood kw707 kw614 kw615 kw18 kw612 hdV_X7_cut hf hlo
def mt47 : yMt := ([(182, (61, 0))], ([], ([], [])))
theorem rc47 : yRc cq47 2 0 = true := by decide +kernel
theorem yr47 : yRun gAll t47 b47 cq47 := yRun_z gAll_tag ruI2_RtI ruJ2_RtJ rqL_ok z47
theorem zw47 : zwid cq47.2.1.1 cq47.1 0 2 = true := by decide +kernel
set_option maxRecDepth 100000 in
theorem yw47 : yRows gAll LAll yt11 mt47 gHo 2 0 (zby cX10_drop) p47 b47 p47 = true := by decide +kernel
set_option maxRecDepth 100000 in
theorem m47 (l : Launch) : kMet gAll LAll vwCl rFo rZs rRs rNs rTs l yX10_drop cX10_drop 2 none 1 21 cq47 := kmet_y2 (rt := 0) (by decide +kernel) yr47 zw47 rfl yw47 LAll_ok LAll_la yt11_ok gHo_ok rfl (fun G n Qf => List.forall_mem_cons.mpr ⟨⟨cq46, rfl, st51 l (by decide) (by decide)⟩, yA_n⟩) rfl (fun G n Rr => yA_n) rfl
/-! 48 Assembler.fail (II)I -/
theorem hdV_X10_drop : yX10_drop.cls = RX10 ∧ yX10_drop.cls ≠ "java/lang/invoke/MethodHandle" ∧ yX10_drop.cls ≠ "java/lang/invoke/VarHandle" ∧ (parseMethodDescriptor yX10_drop.desc).map (fun d => d.parameters.length) = some 0 := by decide +kernel
theorem st52 (l : Launch) {G : rGm} {cc : ByteArray} {nL n fr lo : Nat} {ret : Option FieldType} {Qf : kQf} (hf : 2 ≤ fr) (hlo : 42 ≤ lo) : ySite gAll LAll vwCl rFo rZs rRs rNs rTs G l cc nL RX0 ret fr lo n Qf 182 116 cq47 := ys_V 0 2 12 rc47 lo_2 kc12 (m47 l) kGood kw1310 kw1311 kw1312 kw241 kw2122 hdV_X10_drop hf hlo
def mt48 : yMt := ([(182, (116, 0))], ([], ([], [])))
theorem rc48 : yRc cq48 13364 2 = true := by decide +kernel
theorem yr48 : yRun gAll t48 b48 cq48 := yRun_z gAll_tag ruI2_RtI ruJ2_RtJ rqL_ok z48
theorem zw48 : zwid cq48.2.1.1 cq48.1 0 3 = true := by decide +kernel
set_option maxRecDepth 100000 in
theorem yw48 : yRows gAll LAll yt1 mt48 gHo 3 1 (zby cX0_fail) p48 b48 p48 = true := by decide +kernel
set_option maxRecDepth 100000 in
theorem m48 (l : Launch) : kMet gAll LAll vwCl rFo rZs rRs rNs rTs l yX0_fail cX0_fail 3 (some .int) 2 42 cq48 := kmet_y2 (rt := 1) (by decide +kernel) yr48 zw48 rfl yw48 LAll_ok LAll_la yt1_ok gHo_ok rfl (fun G n Qf => List.forall_mem_cons.mpr ⟨⟨cq47, rfl, st52 l (by decide) (by decide)⟩, yA_n⟩) rfl (fun G n Rr => yA_n) rfl
/-! 49 Units.sectionOf/statements[] (I[I)I -/
def mt49 : yMt := ([], ([], ([], [])))
theorem rc49 : yRc cq49 2 2 = true := by decide +kernel
theorem yr49 : yRun gAll t49 b49 cq49 := yRun_z gAll_tag ruI2_RtI ruJ2_RtJ rqL_ok z49
theorem zw49 : zwid cq49.2.1.1 cq49.1 0 3 = true := by decide +kernel
set_option maxRecDepth 100000 in
theorem yw49 : yRows gAll LAll yt11 mt49 gHo 3 1 (zby cX10_sectionOf) p49 b49 p49 = true := by decide +kernel
set_option maxRecDepth 100000 in
theorem m49 (l : Launch) : kMet gAll LAll vwCl rFo rZs rRs rNs rTs l yX10_sectionOf cX10_sectionOf 3 (some .int) 0 0 cq49 := kmet_y2 (rt := 1) (by decide +kernel) yr49 zw49 rfl yw49 LAll_ok LAll_la yt11_ok gHo_ok rfl (fun G n Qf => yA_n) rfl (fun G n Rr => yA_n) rfl
/-! 50 Units.brokenSpan ()I -/
theorem hdV_X10_sectionOf : yX10_sectionOf.cls = RX10 ∧ yX10_sectionOf.cls ≠ "java/lang/invoke/MethodHandle" ∧ yX10_sectionOf.cls ≠ "java/lang/invoke/VarHandle" ∧ (parseMethodDescriptor yX10_sectionOf.desc).map (fun d => d.parameters.length) = some 2 := by decide +kernel
theorem st53 (l : Launch) {G : rGm} {cc : ByteArray} {nL n fr lo : Nat} {ret : Option FieldType} {Qf : kQf} (hf : 1 ≤ fr) (hlo : 22 ≤ lo) : ySite gAll LAll vwCl rFo rZs rRs rNs rTs G l cc nL RX10 ret fr lo n Qf 182 95 cq49 := ys_V 2 2 12 rc49 lo_2 kc12 (m49 l) kGood kw2115 kw2116 kw2117 kw241 kw2135 hdV_X10_sectionOf hf hlo
def mt50 : yMt := ([(182, (95, 0))], ([], ([], [])))
theorem rc50 : yRc cq50 2 0 = true := by decide +kernel
theorem yr50 : yRun gAll t50 b50 cq50 := yRun_p (cuts := u50) (fuel := 300) gAll_tag ruI2_RtI ruJ2_RtJ rqL_ok ⟨zsm_e _ z50_s, List.forall_mem_cons.mpr ⟨zsm_e _ z50_0, yA_n⟩⟩
theorem zw50 : zwid cq50.2.1.1 cq50.1 0 5 = true := by decide +kernel
set_option maxRecDepth 100000 in
theorem yw50 : yRows gAll LAll yt11 mt50 gHo 5 1 (zby cX10_brokenSpan) p50 b50 p50 = true := by decide +kernel
set_option maxRecDepth 100000 in
theorem m50 (l : Launch) : kMet gAll LAll vwCl rFo rZs rRs rNs rTs l yX10_brokenSpan cX10_brokenSpan 5 (some .int) 1 22 cq50 := kmet_y2 (rt := 1) (by decide +kernel) yr50 zw50 rfl yw50 LAll_ok LAll_la yt11_ok gHo_ok rfl (fun G n Qf => List.forall_mem_cons.mpr ⟨⟨cq49, rfl, st53 l (by decide) (by decide)⟩, yA_n⟩) rfl (fun G n Rr => yA_n) rfl
/-! 51 Units.keepAll ()V -/
def mt51 : yMt := ([], ([], ([], [])))
theorem rc51 : yRc cq51 2 0 = true := by decide +kernel
theorem yr51 : yRun gAll t51 b51 cq51 := yRun_z gAll_tag ruI2_RtI ruJ2_RtJ rqL_ok z51
theorem zw51 : zwid cq51.2.1.1 cq51.1 0 2 = true := by decide +kernel
set_option maxRecDepth 100000 in
theorem yw51 : yRows gAll LAll yt11 mt51 gHo 2 0 (zby cX10_keepAll) p51 b51 p51 = true := by decide +kernel
set_option maxRecDepth 100000 in
theorem m51 (l : Launch) : kMet gAll LAll vwCl rFo rZs rRs rNs rTs l yX10_keepAll cX10_keepAll 2 none 0 0 cq51 := kmet_y2 (rt := 0) (by decide +kernel) yr51 zw51 rfl yw51 LAll_ok LAll_la yt11_ok gHo_ok rfl (fun G n Qf => yA_n) rfl (fun G n Rr => yA_n) rfl
