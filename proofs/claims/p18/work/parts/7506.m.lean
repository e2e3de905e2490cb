/-! METHODS, CALLEES FIRST (written by wip/p2/genmeth.py) -/
/-! 148 Source.split (I)V -/
theorem st149 (l : Launch) {G : rGm} {cc : ByteArray} {nL n fr lo : Nat} {ret : Option FieldType} {Qf : kQf} (hf : 1 ≤ fr) (hlo : 21 ≤ lo) : ySite gAll LAll vwCl rFo rZs rRs rNs rTs G l cc nL RX9 ret fr lo n Qf 182 66 cq141 := ys_V 1 13384 9 rc141 lo_13384 kc9 (m141 l) kGood kw613 kw614 kw615 kw18 kw612 hdV_X7_cut hf hlo
theorem hdV_X9_sortOf : yX9_sortOf.cls = RX9 ∧ yX9_sortOf.cls ≠ "java/lang/invoke/MethodHandle" ∧ yX9_sortOf.cls ≠ "java/lang/invoke/VarHandle" ∧ (parseMethodDescriptor yX9_sortOf.desc).map (fun d => d.parameters.length) = some 1 := by decide +kernel
theorem st150 (l : Launch) {G : rGm} {cc : ByteArray} {nL n fr lo : Nat} {ret : Option FieldType} {Qf : kQf} (hf : 3 ≤ fr) (hlo : 65 ≤ lo) : ySite gAll LAll vwCl rFo rZs rRs rNs rTs G l cc nL RX9 ret fr lo n Qf 182 70 cq147 := ys_V 1 13378 11 rc147 lo_13378 kc11 (m147 l) kGood kw2108 kw2109 kw2110 kw170 kw2104 hdV_X9_sortOf hf hlo
theorem hdV_X9_match : yX9_match.cls = RX9 ∧ yX9_match.cls ≠ "java/lang/invoke/MethodHandle" ∧ yX9_match.cls ≠ "java/lang/invoke/VarHandle" ∧ (parseMethodDescriptor yX9_match.desc).map (fun d => d.parameters.length) = some 0 := by decide +kernel
theorem st151 (l : Launch) {G : rGm} {cc : ByteArray} {nL n fr lo : Nat} {ret : Option FieldType} {Qf : kQf} (hf : 2 ≤ fr) (hlo : 46 ≤ lo) : ySite gAll LAll vwCl rFo rZs rRs rNs rTs G l cc nL RX9 ret fr lo n Qf 182 74 cq145 := ys_V 0 13378 11 rc145 lo_13378 kc11 (m145 l) kGood kw617 kw618 kw619 kw170 kw616 hdV_X9_match hf hlo
def mt148 : yMt := ([(182, (66, 0)), (182, (70, 1)), (182, (74, 2))], ([], ([], [])))
theorem rc148 : yRc cq148 13378 1 = true := by decide +kernel
theorem yr148 : yRun gAll t148 b148 cq148 := yRun_p (cuts := u148) (fuel := 300) gAll_tag ruI2_RtI ruJ2_RtJ rqL_ok ⟨zsm_e _ z148_s, List.forall_mem_cons.mpr ⟨zsm_e _ z148_0, List.forall_mem_cons.mpr ⟨zsm_e _ z148_1, yA_n⟩⟩⟩
theorem zw148 : zwid cq148.2.1.1 cq148.1 0 3 = true := by decide +kernel
set_option maxRecDepth 100000 in
theorem yw148 : yRows gAll LAll yt10 mt148 gHo 3 0 (zby cX9_split) p148 b148 p148 = true := by decide +kernel
set_option maxRecDepth 100000 in
theorem m148 (l : Launch) : kMet gAll LAll vwCl rFo rZs rRs rNs rTs l yX9_split cX9_split 3 none 3 65 cq148 := kmet_y2 (rt := 0) (by decide +kernel) yr148 zw148 rfl yw148 LAll_ok LAll_la yt10_ok gHo_ok rfl (fun G n Qf => List.forall_mem_cons.mpr ⟨⟨cq141, rfl, st149 l (by decide) (by decide)⟩, List.forall_mem_cons.mpr ⟨⟨cq147, rfl, st150 l (by decide) (by decide)⟩, List.forall_mem_cons.mpr ⟨⟨cq145, rfl, st151 l (by decide) (by decide)⟩, yA_n⟩⟩⟩) rfl (fun G n Rr => yA_n) rfl
/-! 149 Reader.open (I)V -/
theorem hdV_X9_split : yX9_split.cls = RX9 ∧ yX9_split.cls ≠ "java/lang/invoke/MethodHandle" ∧ yX9_split.cls ≠ "java/lang/invoke/VarHandle" ∧ (parseMethodDescriptor yX9_split.desc).map (fun d => d.parameters.length) = some 1 := by decide +kernel
theorem st152 (l : Launch) {G : rGm} {cc : ByteArray} {nL n fr lo : Nat} {ret : Option FieldType} {Qf : kQf} (hf : 4 ≤ fr) (hlo : 87 ≤ lo) : ySite gAll LAll vwCl rFo rZs rRs rNs rTs G l cc nL RX8 ret fr lo n Qf 182 60 cq148 := ys_V 1 13378 11 rc148 lo_13378 kc11 (m148 l) kGood kw621 kw622 kw623 kw170 kw620 hdV_X9_split hf hlo
def mt149 : yMt := ([(182, (60, 0))], ([], ([], [])))
theorem rc149 : yRc cq149 13377 1 = true := by decide +kernel
theorem yr149 : yRun gAll t149 b149 cq149 := yRun_z gAll_tag ruI2_RtI ruJ2_RtJ rqL_ok z149
theorem zw149 : zwid cq149.2.1.1 cq149.1 0 2 = true := by decide +kernel
set_option maxRecDepth 100000 in
theorem yw149 : yRows gAll LAll yt9 mt149 gHo 2 0 (zby cX8_open) p149 b149 p149 = true := by decide +kernel
set_option maxRecDepth 100000 in
theorem m149 (l : Launch) : kMet gAll LAll vwCl rFo rZs rRs rNs rTs l yX8_open cX8_open 2 none 4 87 cq149 := kmet_y2 (rt := 0) (by decide +kernel) yr149 zw149 rfl yw149 LAll_ok LAll_la yt9_ok gHo_ok rfl (fun G n Qf => List.forall_mem_cons.mpr ⟨⟨cq148, rfl, st152 l (by decide) (by decide)⟩, yA_n⟩) rfl (fun G n Rr => yA_n) rfl
/-! 150 Reader.tooMuch ()Z -/
def mt150 : yMt := ([], ([], ([], [])))
theorem rc150 : yRc cq150 13377 0 = true := by decide +kernel
theorem yr150 : yRun gAll t150 b150 cq150 := yRun_z gAll_tag ruI2_RtI ruJ2_RtJ rqL_ok z150
theorem zw150 : zwid cq150.2.1.1 cq150.1 0 1 = true := by decide +kernel
set_option maxRecDepth 100000 in
theorem yw150 : yRows gAll LAll yt9 mt150 gHo 1 3 (zby cX8_tooMuch) p150 b150 p150 = true := by decide +kernel
set_option maxRecDepth 100000 in
theorem m150 (l : Launch) : kMet gAll LAll vwCl rFo rZs rRs rNs rTs l yX8_tooMuch cX8_tooMuch 1 (some .boolean) 0 0 cq150 := kmet_y2 (rt := 3) (by decide +kernel) yr150 zw150 rfl yw150 LAll_ok LAll_la yt9_ok gHo_ok rfl (fun G n Qf => yA_n) rfl (fun G n Rr => yA_n) rfl
/-! 151 java/util/Arrays.fill/rows[] ([II)V -/
def mt151 : yMt := ([], ([], ([], [])))
theorem yr151 : yRun gAll t151 b151 cq151 := yRun_p (cuts := u151) (fuel := 300) gAll_tag ruI2_RtI ruJ2_RtJ rqL_ok ⟨zsm_e _ z151_s, List.forall_mem_cons.mpr ⟨zsm_e _ z151_0, yA_n⟩⟩
theorem zw151 : zwid cq151.2.1.1 cq151.1 0 4 = true := by decide +kernel
set_option maxRecDepth 100000 in
theorem yw151 : yRows gAll LAll yt17 mt151 gHo 4 0 (zby cJ7_fill_53178) p151 b151 p151 = true := by decide +kernel
set_option maxRecDepth 100000 in
theorem m151 (l : Launch) : kMet gAll LAll vwCl rFo rZs rRs rNs rTs l yJ7_fill_53178 cJ7_fill_53178 4 none 0 0 cq151 := kmet_y2 (rt := 0) (by decide +kernel) yr151 zw151 rfl yw151 LAll_ok LAll_la yt17_ok gHo_ok rfl (fun G n Qf => yA_n) rfl (fun G n Rr => yA_n) rfl
/-! 152 Units.begin (Z)V -/
theorem st153 (l : Launch) {G : rGm} {cc : ByteArray} {nL n fr lo : Nat} {ret : Option FieldType} {Qf : kQf} (hf : 1 ≤ fr) (hlo : 23 ≤ lo) : ySite gAll LAll vwCl rFo rZs rRs rNs rTs G l cc nL RX10 ret fr lo n Qf 184 77 cq151 := ys_S 2 rfl (m151 l) kGood kw605 kw12 kw13 kw10 hdS_J7_fill_53178 hf hlo
def mt152 : yMt := ([(184, (77, 0))], ([], ([], [])))
theorem rc152 : yRc cq152 2 1 = true := by decide +kernel
theorem yr152 : yRun gAll t152 b152 cq152 := yRun_z gAll_tag ruI2_RtI ruJ2_RtJ rqL_ok z152
theorem zw152 : zwid cq152.2.1.1 cq152.1 0 3 = true := by decide +kernel
set_option maxRecDepth 100000 in
theorem yw152 : yRows gAll LAll yt11 mt152 gHo 3 0 (zby cX10_begin) p152 b152 p152 = true := by decide +kernel
set_option maxRecDepth 100000 in
theorem m152 (l : Launch) : kMet gAll LAll vwCl rFo rZs rRs rNs rTs l yX10_begin cX10_begin 3 none 1 23 cq152 := kmet_y2 (rt := 0) (by decide +kernel) yr152 zw152 rfl yw152 LAll_ok LAll_la yt11_ok gHo_ok rfl (fun G n Qf => List.forall_mem_cons.mpr ⟨⟨cq151, rfl, st153 l (by decide) (by decide)⟩, yA_n⟩) rfl (fun G n Rr => yA_n) rfl
/-! 153 Assembler.assemble (IZ)I -/
theorem hdV_X10_begin : yX10_begin.cls = RX10 ∧ yX10_begin.cls ≠ "java/lang/invoke/MethodHandle" ∧ yX10_begin.cls ≠ "java/lang/invoke/VarHandle" ∧ (parseMethodDescriptor yX10_begin.desc).map (fun d => d.parameters.length) = some 1 := by decide +kernel
theorem st154 (l : Launch) {G : rGm} {cc : ByteArray} {nL n fr lo : Nat} {ret : Option FieldType} {Qf : kQf} (hf : 2 ≤ fr) (hlo : 45 ≤ lo) : ySite gAll LAll vwCl rFo rZs rRs rNs rTs G l cc nL RX0 ret fr lo n Qf 182 60 cq152 := ys_V 1 2 12 rc152 lo_2 kc12 (m152 l) kGood kw676 kw677 kw678 kw241 kw675 hdV_X10_begin hf hlo
theorem hdV_X8_open : yX8_open.cls = RX8 ∧ yX8_open.cls ≠ "java/lang/invoke/MethodHandle" ∧ yX8_open.cls ≠ "java/lang/invoke/VarHandle" ∧ (parseMethodDescriptor yX8_open.desc).map (fun d => d.parameters.length) = some 1 := by decide +kernel
theorem st155 (l : Launch) {G : rGm} {cc : ByteArray} {nL n fr lo : Nat} {ret : Option FieldType} {Qf : kQf} (hf : 5 ≤ fr) (hlo : 108 ≤ lo) : ySite gAll LAll vwCl rFo rZs rRs rNs rTs G l cc nL RX0 ret fr lo n Qf 182 66 cq149 := ys_V 1 13377 10 rc149 lo_13377 kc10 (m149 l) kGood kw680 kw681 kw682 kw167 kw679 hdV_X8_open hf hlo
theorem hdV_X8_advance : yX8_advance.cls = RX8 ∧ yX8_advance.cls ≠ "java/lang/invoke/MethodHandle" ∧ yX8_advance.cls ≠ "java/lang/invoke/VarHandle" ∧ (parseMethodDescriptor yX8_advance.desc).map (fun d => d.parameters.length) = some 0 := by decide +kernel
theorem st156 (l : Launch) {G : rGm} {cc : ByteArray} {nL n fr lo : Nat} {ret : Option FieldType} {Qf : kQf} (hf : 5 ≤ fr) (hlo : 115 ≤ lo) : ySite gAll LAll vwCl rFo rZs rRs rNs rTs G l cc nL RX0 ret fr lo n Qf 182 78 cq140 := ys_V 0 13377 10 rc140 lo_13377 kc10 (m140 l) kGood kw687 kw688 kw689 kw167 kw686 hdV_X8_advance hf hlo
theorem hdV_X8_tooMuch : yX8_tooMuch.cls = RX8 ∧ yX8_tooMuch.cls ≠ "java/lang/invoke/MethodHandle" ∧ yX8_tooMuch.cls ≠ "java/lang/invoke/VarHandle" ∧ (parseMethodDescriptor yX8_tooMuch.desc).map (fun d => d.parameters.length) = some 0 := by decide +kernel
theorem st157 (l : Launch) {G : rGm} {cc : ByteArray} {nL n fr lo : Nat} {ret : Option FieldType} {Qf : kQf} (hf : 1 ≤ fr) (hlo : 20 ≤ lo) : ySite gAll LAll vwCl rFo rZs rRs rNs rTs G l cc nL RX0 ret fr lo n Qf 182 85 cq150 := ys_V 0 13377 10 rc150 lo_13377 kc10 (m150 l) kGood kw1169 kw1170 kw1171 kw167 kw2088 hdV_X8_tooMuch hf hlo
theorem hdV_X3_cut : yX3_cut.cls = RX3 ∧ yX3_cut.cls ≠ "java/lang/invoke/MethodHandle" ∧ yX3_cut.cls ≠ "java/lang/invoke/VarHandle" ∧ (parseMethodDescriptor yX3_cut.desc).map (fun d => d.parameters.length) = some 0 := by decide +kernel
theorem st158 (l : Launch) {G : rGm} {cc : ByteArray} {nL n fr lo : Nat} {ret : Option FieldType} {Qf : kQf} (hf : 4 ≤ fr) (hlo : 91 ≤ lo) : ySite gAll LAll vwCl rFo rZs rRs rNs rTs G l cc nL RX0 ret fr lo n Qf 182 91 cq132 := ys_V 0 13365 5 rc132 lo_13365 kc5 (m132 l) kGood kw1175 kw1176 kw1177 kw90 kw1605 hdV_X3_cut hf hlo
theorem hdV_X0_begin : yX0_begin.cls = RX0 ∧ yX0_begin.cls ≠ "java/lang/invoke/MethodHandle" ∧ yX0_begin.cls ≠ "java/lang/invoke/VarHandle" ∧ (parseMethodDescriptor yX0_begin.desc).map (fun d => d.parameters.length) = some 0 := by decide +kernel
theorem st159 (l : Launch) {G : rGm} {cc : ByteArray} {nL n fr lo : Nat} {ret : Option FieldType} {Qf : kQf} (hf : 5 ≤ fr) (hlo : 121 ≤ lo) : ySite gAll LAll vwCl rFo rZs rRs rNs rTs G l cc nL RX0 ret fr lo n Qf 182 94 cq45 := ys_V 0 13364 2 rc45 lo_13364 kc2 (m45 l) kGood kw1178 kw1179 kw1180 kw249 kw1194 hdV_X0_begin hf hlo
theorem hdV_X0_statement : yX0_statement.cls = RX0 ∧ yX0_statement.cls ≠ "java/lang/invoke/MethodHandle" ∧ yX0_statement.cls ≠ "java/lang/invoke/VarHandle" ∧ (parseMethodDescriptor yX0_statement.desc).map (fun d => d.parameters.length) = some 0 := by decide +kernel
theorem st160 (l : Launch) {G : rGm} {cc : ByteArray} {nL n fr lo : Nat} {ret : Option FieldType} {Qf : kQf} (hf : 7 ≤ fr) (hlo : 171 ≤ lo) : ySite gAll LAll vwCl rFo rZs rRs rNs rTs G l cc nL RX0 ret fr lo n Qf 182 100 cq120 := ys_V 0 13364 2 rc120 lo_13364 kc2 (m120 l) kGood kw1184 kw1185 kw1186 kw249 kw1404 hdV_X0_statement hf hlo
theorem hdV_X3_faultKind : yX3_faultKind.cls = RX3 ∧ yX3_faultKind.cls ≠ "java/lang/invoke/MethodHandle" ∧ yX3_faultKind.cls ≠ "java/lang/invoke/VarHandle" ∧ (parseMethodDescriptor yX3_faultKind.desc).map (fun d => d.parameters.length) = some 0 := by decide +kernel
theorem st161 (l : Launch) {G : rGm} {cc : ByteArray} {nL n fr lo : Nat} {ret : Option FieldType} {Qf : kQf} (hf : 1 ≤ fr) (hlo : 20 ≤ lo) : ySite gAll LAll vwCl rFo rZs rRs rNs rTs G l cc nL RX0 ret fr lo n Qf 182 103 cq133 := ys_V 0 13365 5 rc133 lo_13365 kc5 (m133 l) kGood kw1187 kw1188 kw1189 kw90 kw1626 hdV_X3_faultKind hf hlo
theorem hdV_X0_finish : yX0_finish.cls = RX0 ∧ yX0_finish.cls ≠ "java/lang/invoke/MethodHandle" ∧ yX0_finish.cls ≠ "java/lang/invoke/VarHandle" ∧ (parseMethodDescriptor yX0_finish.desc).map (fun d => d.parameters.length) = some 0 := by decide +kernel
theorem st162 (l : Launch) {G : rGm} {cc : ByteArray} {nL n fr lo : Nat} {ret : Option FieldType} {Qf : kQf} (hf : 5 ≤ fr) (hlo : 116 ≤ lo) : ySite gAll LAll vwCl rFo rZs rRs rNs rTs G l cc nL RX0 ret fr lo n Qf 182 113 cq64 := ys_V 0 13364 2 rc64 lo_13364 kc2 (m64 l) kGood kw691 kw692 kw693 kw249 kw690 hdV_X0_finish hf hlo
def mt153 : yMt := ([(182, (60, 0)), (182, (66, 1)), (182, (78, 2)), (182, (85, 3)), (182, (88, 4)), (182, (91, 5)), (182, (94, 6)), (182, (96, 7)), (182, (100, 8)), (182, (103, 9)), (182, (109, 10)), (182, (113, 11))], ([], ([], [])))
theorem rc153 : yRc cq153 13364 2 = true := by decide +kernel
theorem yr153 : yRun gAll t153 b153 cq153 := yRun_p (cuts := u153) (fuel := 300) gAll_tag ruI2_RtI ruJ2_RtJ rqL_ok ⟨zsm_e _ z153_s, List.forall_mem_cons.mpr ⟨zsm_e _ z153_0, yA_n⟩⟩
theorem zw153 : zwid cq153.2.1.1 cq153.1 0 4 = true := by decide +kernel
set_option maxRecDepth 100000 in
theorem yw153 : yRows gAll LAll yt1 mt153 gHo 4 1 (zby cX0_assemble) p153 b153 p153 = true := by decide +kernel
set_option maxRecDepth 100000 in
theorem m153 (l : Launch) : kMet gAll LAll vwCl rFo rZs rRs rNs rTs l yX0_assemble cX0_assemble 4 (some .int) 7 171 cq153 := kmet_y2 (rt := 1) (by decide +kernel) yr153 zw153 rfl yw153 LAll_ok LAll_la yt1_ok gHo_ok rfl (fun G n Qf => List.forall_mem_cons.mpr ⟨⟨cq152, rfl, st154 l (by decide) (by decide)⟩, List.forall_mem_cons.mpr ⟨⟨cq149, rfl, st155 l (by decide) (by decide)⟩, List.forall_mem_cons.mpr ⟨⟨cq140, rfl, st156 l (by decide) (by decide)⟩, List.forall_mem_cons.mpr ⟨⟨cq150, rfl, st157 l (by decide) (by decide)⟩, List.forall_mem_cons.mpr ⟨⟨cq9, rfl, st27 l (by decide) (by decide)⟩, List.forall_mem_cons.mpr ⟨⟨cq132, rfl, st158 l (by decide) (by decide)⟩, List.forall_mem_cons.mpr ⟨⟨cq45, rfl, st159 l (by decide) (by decide)⟩, List.forall_mem_cons.mpr ⟨⟨cq68, rfl, st71 l (by decide) (by decide)⟩, List.forall_mem_cons.mpr ⟨⟨cq120, rfl, st160 l (by decide) (by decide)⟩, List.forall_mem_cons.mpr ⟨⟨cq133, rfl, st161 l (by decide) (by decide)⟩, List.forall_mem_cons.mpr ⟨⟨cq48, rfl, st63 l (by decide) (by decide)⟩, List.forall_mem_cons.mpr ⟨⟨cq64, rfl, st162 l (by decide) (by decide)⟩, yA_n⟩⟩⟩⟩⟩⟩⟩⟩⟩⟩⟩⟩) rfl (fun G n Rr => yA_n) rfl
/-! 154 Instruction.beginAddress@x.machine.it ()V -/
def mt154 : yMt := ([], ([], ([], [])))
theorem rc154 : yRc cq154 13443 0 = true := by decide +kernel
theorem yr154 : yRun gAll t154 b154 cq154 := yRun_z gAll_tag ruI2_RtI ruJ2_RtJ rqL_ok z154
theorem zw154 : zwid cq154.2.1.1 cq154.1 0 1 = true := by decide +kernel
set_option maxRecDepth 100000 in
theorem yw154 : yRows gAll LAll yt3 mt154 gHo 1 0 (zby cX2_beginAddress) p154 b154 p154 = true := by decide +kernel
set_option maxRecDepth 100000 in
theorem m154 (l : Launch) : kMet gAll LAll vwCl rFo rZs rRs rNs rTs l yX2_beginAddress cX2_beginAddress 1 none 0 0 cq154 := kmet_y2 (rt := 0) (by decide +kernel) yr154 zw154 rfl yw154 LAll_ok LAll_la yt3_ok gHo_ok rfl (fun G n Qf => yA_n) rfl (fun G n Rr => yA_n) rfl
/-! 155 Instruction.next/low@x.machine.it ([BI)I -/
def mt155 : yMt := ([], ([], ([], [])))
theorem rc155 : yRc cq155 13443 2 = true := by decide +kernel
theorem yr155 : yRun gAll t155 b155 cq155 := yRun_z gAll_tag ruI2_RtI ruJ2_RtJ rqL_ok z155
theorem zw155 : zwid cq155.2.1.1 cq155.1 0 4 = true := by decide +kernel
set_option maxRecDepth 100000 in
theorem yw155 : yRows gAll LAll yt3 mt155 gHo 4 1 (zby cX2_next) p155 b155 p155 = true := by decide +kernel
set_option maxRecDepth 100000 in
theorem m155 (l : Launch) : kMet gAll LAll vwCl rFo rZs rRs rNs rTs l yX2_next cX2_next 4 (some .int) 0 0 cq155 := kmet_y2 (rt := 1) (by decide +kernel) yr155 zw155 rfl yw155 LAll_ok LAll_la yt3_ok gHo_ok rfl (fun G n Qf => yA_n) rfl (fun G n Rr => yA_n) rfl
/-! 156 Instruction.nextNumber/low@x.machine.it ([BII)J -/
theorem hdV_X2_next : yX2_next.cls = RX2 ∧ yX2_next.cls ≠ "java/lang/invoke/MethodHandle" ∧ yX2_next.cls ≠ "java/lang/invoke/VarHandle" ∧ (parseMethodDescriptor yX2_next.desc).map (fun d => d.parameters.length) = some 2 := by decide +kernel
theorem st163 (l : Launch) {G : rGm} {cc : ByteArray} {nL n fr lo : Nat} {ret : Option FieldType} {Qf : kQf} (hf : 1 ≤ fr) (hlo : 23 ≤ lo) : ySite gAll LAll vwCl rFo rZs rRs rNs rTs G l cc nL RX2 ret fr lo n Qf 182 166 cq155 := ys_V 2 13443 4 rc155 lo_13443 kc4 (m155 l) kGood kw1518 kw1519 kw1520 kw142 kw1581 hdV_X2_next hf hlo
def mt156 : yMt := ([(182, (166, 0))], ([], ([], [])))
theorem rc156 : yRc cq156 13443 3 = true := by decide +kernel
theorem yr156 : yRun gAll t156 b156 cq156 := yRun_p (cuts := u156) (fuel := 300) gAll_tag ruI2_RtI ruJ2_RtJ rqL_ok ⟨zsm_e _ z156_s, List.forall_mem_cons.mpr ⟨zsm_e _ z156_0, yA_n⟩⟩
theorem zw156 : zwid cq156.2.1.1 cq156.1 0 7 = true := by decide +kernel
set_option maxRecDepth 100000 in
theorem yw156 : yRows gAll LAll yt3 mt156 gHo 7 2 (zby cX2_nextNumber) p156 b156 p156 = true := by decide +kernel
set_option maxRecDepth 100000 in
theorem m156 (l : Launch) : kMet gAll LAll vwCl rFo rZs rRs rNs rTs l yX2_nextNumber cX2_nextNumber 7 (some .long) 1 23 cq156 := kmet_y2 (rt := 2) (by decide +kernel) yr156 zw156 rfl yw156 LAll_ok LAll_la yt3_ok gHo_ok rfl (fun G n Qf => List.forall_mem_cons.mpr ⟨⟨cq155, rfl, st163 l (by decide) (by decide)⟩, yA_n⟩) rfl (fun G n Rr => yA_n) rfl
/-! 157 Instruction.decodeForm/low@x.machine.it ([BIIII)V -/
theorem st164 (l : Launch) {G : rGm} {cc : ByteArray} {nL n fr lo : Nat} {ret : Option FieldType} {Qf : kQf} (hf : 1 ≤ fr) (hlo : 20 ≤ lo) : ySite gAll LAll vwCl rFo rZs rRs rNs rTs G l cc nL RX2 ret fr lo n Qf 182 181 cq154 := ys_V 0 13443 4 rc154 lo_13443 kc4 (m154 l) kGood kw1517 kw1146 kw1147 kw142 kw1515 hdV_X2_beginAddress hf hlo
theorem hdV_X2_nextNumber : yX2_nextNumber.cls = RX2 ∧ yX2_nextNumber.cls ≠ "java/lang/invoke/MethodHandle" ∧ yX2_nextNumber.cls ≠ "java/lang/invoke/VarHandle" ∧ (parseMethodDescriptor yX2_nextNumber.desc).map (fun d => d.parameters.length) = some 3 := by decide +kernel
theorem st165 (l : Launch) {G : rGm} {cc : ByteArray} {nL n fr lo : Nat} {ret : Option FieldType} {Qf : kQf} (hf : 2 ≤ fr) (hlo : 49 ≤ lo) : ySite gAll LAll vwCl rFo rZs rRs rNs rTs G l cc nL RX2 ret fr lo n Qf 182 177 cq156 := ys_V 3 13443 4 rc156 lo_13443 kc4 (m156 l) kGood kw1521 kw1522 kw1523 kw142 kw1580 hdV_X2_nextNumber hf hlo
def mt157 : yMt := ([(182, (181, 0)), (182, (166, 1)), (182, (177, 2))], ([], ([], [])))
theorem rc157 : yRc cq157 13443 5 = true := by decide +kernel
theorem yr157 : yRun gAll t157 b157 cq157 := yRun_p (cuts := u157) (fuel := 300) gAll_tag ruI2_RtI ruJ2_RtJ rqL_ok ⟨zsm_e _ z157_s, List.forall_mem_cons.mpr ⟨zsm_e _ z157_0, List.forall_mem_cons.mpr ⟨zsm_e _ z157_1, yA_n⟩⟩⟩
theorem zw157 : zwid cq157.2.1.1 cq157.1 0 11 = true := by decide +kernel
set_option maxRecDepth 100000 in
theorem yw157 : yRows gAll LAll yt3 mt157 gHo 11 0 (zby cX2_decodeForm) p157 b157 p157 = true := by decide +kernel
set_option maxRecDepth 100000 in
theorem m157 (l : Launch) : kMet gAll LAll vwCl rFo rZs rRs rNs rTs l yX2_decodeForm cX2_decodeForm 11 none 2 49 cq157 := kmet_y2 (rt := 0) (by decide +kernel) yr157 zw157 rfl yw157 LAll_ok LAll_la yt3_ok gHo_ok rfl (fun G n Qf => List.forall_mem_cons.mpr ⟨⟨cq154, rfl, st164 l (by decide) (by decide)⟩, List.forall_mem_cons.mpr ⟨⟨cq155, rfl, st163 l (by decide) (by decide)⟩, List.forall_mem_cons.mpr ⟨⟨cq156, rfl, st165 l (by decide) (by decide)⟩, yA_n⟩⟩⟩) rfl (fun G n Rr => yA_n) rfl
/-! 158 Instruction.decodeOperands/low@x.machine.it ([BIIII)V -/
theorem hdV_X2_decodeForm : yX2_decodeForm.cls = RX2 ∧ yX2_decodeForm.cls ≠ "java/lang/invoke/MethodHandle" ∧ yX2_decodeForm.cls ≠ "java/lang/invoke/VarHandle" ∧ (parseMethodDescriptor yX2_decodeForm.desc).map (fun d => d.parameters.length) = some 5 := by decide +kernel
theorem st166 (l : Launch) {G : rGm} {cc : ByteArray} {nL n fr lo : Nat} {ret : Option FieldType} {Qf : kQf} (hf : 3 ≤ fr) (hlo : 79 ≤ lo) : ySite gAll LAll vwCl rFo rZs rRs rNs rTs G l cc nL RX2 ret fr lo n Qf 182 174 cq157 := ys_V 5 13443 4 rc157 lo_13443 kc4 (m157 l) kGood kw1529 kw1530 kw1531 kw142 kw1516 hdV_X2_decodeForm hf hlo
def mt158 : yMt := ([(182, (166, 0)), (182, (174, 1)), (182, (177, 2))], ([], ([], [])))
theorem rc158 : yRc cq158 13443 5 = true := by decide +kernel
theorem yr158 : yRun gAll t158 b158 cq158 := yRun_p (cuts := u158) (fuel := 300) gAll_tag ruI2_RtI ruJ2_RtJ rqL_ok ⟨zsm_e _ z158_s, List.forall_mem_cons.mpr ⟨zsm_e _ z158_0, yA_n⟩⟩
theorem zw158 : zwid cq158.2.1.1 cq158.1 0 8 = true := by decide +kernel
set_option maxRecDepth 100000 in
theorem yw158 : yRows gAll LAll yt3 mt158 gHo 8 0 (zby cX2_decodeOperands) p158 b158 p158 = true := by decide +kernel
set_option maxRecDepth 100000 in
theorem m158 (l : Launch) : kMet gAll LAll vwCl rFo rZs rRs rNs rTs l yX2_decodeOperands cX2_decodeOperands 8 none 3 79 cq158 := kmet_y2 (rt := 0) (by decide +kernel) yr158 zw158 rfl yw158 LAll_ok LAll_la yt3_ok gHo_ok rfl (fun G n Qf => List.forall_mem_cons.mpr ⟨⟨cq155, rfl, st163 l (by decide) (by decide)⟩, List.forall_mem_cons.mpr ⟨⟨cq157, rfl, st166 l (by decide) (by decide)⟩, List.forall_mem_cons.mpr ⟨⟨cq156, rfl, st165 l (by decide) (by decide)⟩, yA_n⟩⟩⟩) rfl (fun G n Rr => yA_n) rfl
/-! 159 Instruction.decode/low@x.machine.it ([BI)V -/
theorem hdV_X2_decodeOperands : yX2_decodeOperands.cls = RX2 ∧ yX2_decodeOperands.cls ≠ "java/lang/invoke/MethodHandle" ∧ yX2_decodeOperands.cls ≠ "java/lang/invoke/VarHandle" ∧ (parseMethodDescriptor yX2_decodeOperands.desc).map (fun d => d.parameters.length) = some 5 := by decide +kernel
theorem st167 (l : Launch) {G : rGm} {cc : ByteArray} {nL n fr lo : Nat} {ret : Option FieldType} {Qf : kQf} (hf : 4 ≤ fr) (hlo : 106 ≤ lo) : ySite gAll LAll vwCl rFo rZs rRs rNs rTs G l cc nL RX2 ret fr lo n Qf 182 170 cq158 := ys_V 5 13443 4 rc158 lo_13443 kc4 (m158 l) kGood kw1539 kw1540 kw1541 kw142 kw1525 hdV_X2_decodeOperands hf hlo
def mt159 : yMt := ([(182, (166, 0)), (182, (170, 1))], ([], ([], [])))
theorem rc159 : yRc cq159 13443 2 = true := by decide +kernel
theorem yr159 : yRun gAll t159 b159 cq159 := yRun_p (cuts := u159) (fuel := 300) gAll_tag ruI2_RtI ruJ2_RtJ rqL_ok ⟨zsm_e _ z159_s, List.forall_mem_cons.mpr ⟨zsm_e _ z159_0, yA_n⟩⟩
theorem zw159 : zwid cq159.2.1.1 cq159.1 0 10 = true := by decide +kernel
set_option maxRecDepth 100000 in
theorem yw159 : yRows gAll LAll yt3 mt159 gHo 10 0 (zby cX2_decode) p159 b159 p159 = true := by decide +kernel
set_option maxRecDepth 100000 in
theorem m159 (l : Launch) : kMet gAll LAll vwCl rFo rZs rRs rNs rTs l yX2_decode cX2_decode 10 none 4 106 cq159 := kmet_y2 (rt := 0) (by decide +kernel) yr159 zw159 rfl yw159 LAll_ok LAll_la yt3_ok gHo_ok rfl (fun G n Qf => List.forall_mem_cons.mpr ⟨⟨cq155, rfl, st163 l (by decide) (by decide)⟩, List.forall_mem_cons.mpr ⟨⟨cq158, rfl, st167 l (by decide) (by decide)⟩, yA_n⟩⟩) rfl (fun G n Rr => yA_n) rfl
/-! 160 Instruction.sizeOfM@x.machine.it ()I -/
def mt160 : yMt := ([], ([], ([], [])))
theorem rc160 : yRc cq160 13443 0 = true := by decide +kernel
theorem yr160 : yRun gAll t160 b160 cq160 := yRun_z gAll_tag ruI2_RtI ruJ2_RtJ rqL_ok z160
theorem zw160 : zwid cq160.2.1.1 cq160.1 0 1 = true := by decide +kernel
set_option maxRecDepth 100000 in
theorem yw160 : yRows gAll LAll yt3 mt160 gHo 1 1 (zby cX2_sizeOfM) p160 b160 p160 = true := by decide +kernel
set_option maxRecDepth 100000 in
theorem m160 (l : Launch) : kMet gAll LAll vwCl rFo rZs rRs rNs rTs l yX2_sizeOfM cX2_sizeOfM 1 (some .int) 0 0 cq160 := kmet_y2 (rt := 1) (by decide +kernel) yr160 zw160 rfl yw160 LAll_ok LAll_la yt3_ok gHo_ok rfl (fun G n Qf => yA_n) rfl (fun G n Rr => yA_n) rfl
/-! 161 Linker.sectionOf (I)I -/
def mt161 : yMt := ([], ([], ([], [])))
theorem rc161 : yRc cq161 13422 1 = true := by decide +kernel
theorem yr161 : yRun gAll t161 b161 cq161 := yRun_z gAll_tag ruI2_RtI ruJ2_RtJ rqL_ok z161
theorem zw161 : zwid cq161.2.1.1 cq161.1 0 2 = true := by decide +kernel
set_option maxRecDepth 100000 in
theorem yw161 : yRows gAll LAll yt5 mt161 gHo 2 1 (zby cX4_sectionOf) p161 b161 p161 = true := by decide +kernel
set_option maxRecDepth 100000 in
theorem m161 (l : Launch) : kMet gAll LAll vwCl rFo rZs rRs rNs rTs l yX4_sectionOf cX4_sectionOf 2 (some .int) 0 0 cq161 := kmet_y2 (rt := 1) (by decide +kernel) yr161 zw161 rfl yw161 LAll_ok LAll_la yt5_ok gHo_ok rfl (fun G n Qf => yA_n) rfl (fun G n Rr => yA_n) rfl
/-! 162 Linker.addressOf (I)I -/
theorem hdV_X4_sectionOf : yX4_sectionOf.cls = RX4 ∧ yX4_sectionOf.cls ≠ "java/lang/invoke/MethodHandle" ∧ yX4_sectionOf.cls ≠ "java/lang/invoke/VarHandle" ∧ (parseMethodDescriptor yX4_sectionOf.desc).map (fun d => d.parameters.length) = some 1 := by decide +kernel
theorem st168 (l : Launch) {G : rGm} {cc : ByteArray} {nL n fr lo : Nat} {ret : Option FieldType} {Qf : kQf} (hf : 1 ≤ fr) (hlo : 21 ≤ lo) : ySite gAll LAll vwCl rFo rZs rRs rNs rTs G l cc nL RX4 ret fr lo n Qf 182 173 cq161 := ys_V 1 13422 6 rc161 lo_13422 kc6 (m161 l) kGood kw1649 kw1650 kw1651 kw256 kw1729 hdV_X4_sectionOf hf hlo
def mt162 : yMt := ([(182, (173, 0))], ([], ([], [])))
theorem rc162 : yRc cq162 13422 1 = true := by decide +kernel
theorem yr162 : yRun gAll t162 b162 cq162 := yRun_z gAll_tag ruI2_RtI ruJ2_RtJ rqL_ok z162
theorem zw162 : zwid cq162.2.1.1 cq162.1 0 2 = true := by decide +kernel
set_option maxRecDepth 100000 in
theorem yw162 : yRows gAll LAll yt5 mt162 gHo 2 1 (zby cX4_addressOf) p162 b162 p162 = true := by decide +kernel
set_option maxRecDepth 100000 in
theorem m162 (l : Launch) : kMet gAll LAll vwCl rFo rZs rRs rNs rTs l yX4_addressOf cX4_addressOf 2 (some .int) 1 21 cq162 := kmet_y2 (rt := 1) (by decide +kernel) yr162 zw162 rfl yw162 LAll_ok LAll_la yt5_ok gHo_ok rfl (fun G n Qf => List.forall_mem_cons.mpr ⟨⟨cq161, rfl, st168 l (by decide) (by decide)⟩, yA_n⟩) rfl (fun G n Rr => yA_n) rfl
/-! 163 Linker.awakens/waits[] (I[I)Z -/
def mt163 : yMt := ([(182, (173, 0))], ([], ([], [])))
theorem rc163 : yRc cq163 13422 2 = true := by decide +kernel
theorem yr163 : yRun gAll t163 b163 cq163 := yRun_z gAll_tag ruI2_RtI ruJ2_RtJ rqL_ok z163
theorem zw163 : zwid cq163.2.1.1 cq163.1 0 7 = true := by decide +kernel
set_option maxRecDepth 100000 in
theorem yw163 : yRows gAll LAll yt5 mt163 gHo 7 3 (zby cX4_awakens) p163 b163 p163 = true := by decide +kernel
set_option maxRecDepth 100000 in
theorem m163 (l : Launch) : kMet gAll LAll vwCl rFo rZs rRs rNs rTs l yX4_awakens cX4_awakens 7 (some .boolean) 1 21 cq163 := kmet_y2 (rt := 3) (by decide +kernel) yr163 zw163 rfl yw163 LAll_ok LAll_la yt5_ok gHo_ok rfl (fun G n Qf => List.forall_mem_cons.mpr ⟨⟨cq161, rfl, st168 l (by decide) (by decide)⟩, yA_n⟩) rfl (fun G n Rr => yA_n) rfl
/-! 164 Linker.findNeeded (I)V -/
theorem hdV_X4_awakens : yX4_awakens.cls = RX4 ∧ yX4_awakens.cls ≠ "java/lang/invoke/MethodHandle" ∧ yX4_awakens.cls ≠ "java/lang/invoke/VarHandle" ∧ (parseMethodDescriptor yX4_awakens.desc).map (fun d => d.parameters.length) = some 2 := by decide +kernel
theorem st169 (l : Launch) {G : rGm} {cc : ByteArray} {nL n fr lo : Nat} {ret : Option FieldType} {Qf : kQf} (hf : 2 ≤ fr) (hlo : 47 ≤ lo) : ySite gAll LAll vwCl rFo rZs rRs rNs rTs G l cc nL RX4 ret fr lo n Qf 182 179 cq163 := ys_V 2 13422 6 rc163 lo_13422 kc6 (m163 l) kGood kw1658 kw1659 kw1660 kw256 kw1653 hdV_X4_awakens hf hlo
def mt164 : yMt := ([(182, (173, 0)), (182, (179, 1))], ([], ([], [])))
theorem rc164 : yRc cq164 13422 1 = true := by decide +kernel
theorem yr164 : yRun gAll t164 b164 cq164 := yRun_p (cuts := u164) (fuel := 300) gAll_tag ruI2_RtI ruJ2_RtJ rqL_ok ⟨zsm_e _ z164_s, List.forall_mem_cons.mpr ⟨zsm_e _ z164_0, List.forall_mem_cons.mpr ⟨zsm_e _ z164_1, List.forall_mem_cons.mpr ⟨zsm_e _ z164_2, List.forall_mem_cons.mpr ⟨zsm_e _ z164_3, yA_n⟩⟩⟩⟩⟩
theorem zw164 : zwid cq164.2.1.1 cq164.1 0 6 = true := by decide +kernel
set_option maxRecDepth 100000 in
theorem yw164 : yRows gAll LAll yt5 mt164 gHo 6 0 (zby cX4_findNeeded) p164 b164 p164 = true := by decide +kernel
set_option maxRecDepth 100000 in
theorem m164 (l : Launch) : kMet gAll LAll vwCl rFo rZs rRs rNs rTs l yX4_findNeeded cX4_findNeeded 6 none 2 47 cq164 := kmet_y2 (rt := 0) (by decide +kernel) yr164 zw164 rfl yw164 LAll_ok LAll_la yt5_ok gHo_ok rfl (fun G n Qf => List.forall_mem_cons.mpr ⟨⟨cq161, rfl, st168 l (by decide) (by decide)⟩, List.forall_mem_cons.mpr ⟨⟨cq163, rfl, st169 l (by decide) (by decide)⟩, yA_n⟩⟩) rfl (fun G n Rr => yA_n) rfl
/-! 165 Linker.tell (III)V -/
def mt165 : yMt := ([], ([], ([], [])))
theorem rc165 : yRc cq165 13422 3 = true := by decide +kernel
theorem yr165 : yRun gAll t165 b165 cq165 := yRun_z gAll_tag ruI2_RtI ruJ2_RtJ rqL_ok z165
theorem zw165 : zwid cq165.2.1.1 cq165.1 0 4 = true := by decide +kernel
set_option maxRecDepth 100000 in
theorem yw165 : yRows gAll LAll yt5 mt165 gHo 4 0 (zby cX4_tell) p165 b165 p165 = true := by decide +kernel
set_option maxRecDepth 100000 in
theorem m165 (l : Launch) : kMet gAll LAll vwCl rFo rZs rRs rNs rTs l yX4_tell cX4_tell 4 none 0 0 cq165 := kmet_y2 (rt := 0) (by decide +kernel) yr165 zw165 rfl yw165 LAll_ok LAll_la yt5_ok gHo_ok rfl (fun G n Qf => yA_n) rfl (fun G n Rr => yA_n) rfl
/-! 166 Linker.valueOf (II)J -/
theorem hdV_X4_addressOf : yX4_addressOf.cls = RX4 ∧ yX4_addressOf.cls ≠ "java/lang/invoke/MethodHandle" ∧ yX4_addressOf.cls ≠ "java/lang/invoke/VarHandle" ∧ (parseMethodDescriptor yX4_addressOf.desc).map (fun d => d.parameters.length) = some 1 := by decide +kernel
theorem st170 (l : Launch) {G : rGm} {cc : ByteArray} {nL n fr lo : Nat} {ret : Option FieldType} {Qf : kQf} (hf : 2 ≤ fr) (hlo : 42 ≤ lo) : ySite gAll LAll vwCl rFo rZs rRs rNs rTs G l cc nL RX4 ret fr lo n Qf 182 123 cq162 := ys_V 1 13422 6 rc162 lo_13422 kc6 (m162 l) kGood kw1719 kw1720 kw1721 kw256 kw1648 hdV_X4_addressOf hf hlo
def mt166 : yMt := ([(182, (123, 0))], ([], ([], [])))
theorem rc166 : yRc cq166 13422 2 = true := by decide +kernel
theorem yr166 : yRun gAll t166 b166 cq166 := yRun_z gAll_tag ruI2_RtI ruJ2_RtJ rqL_ok z166
theorem zw166 : zwid cq166.2.1.1 cq166.1 0 9 = true := by decide +kernel
set_option maxRecDepth 100000 in
theorem yw166 : yRows gAll LAll yt5 mt166 gHo 9 2 (zby cX4_valueOf) p166 b166 p166 = true := by decide +kernel
set_option maxRecDepth 100000 in
theorem m166 (l : Launch) : kMet gAll LAll vwCl rFo rZs rRs rNs rTs l yX4_valueOf cX4_valueOf 9 (some .long) 2 42 cq166 := kmet_y2 (rt := 2) (by decide +kernel) yr166 zw166 rfl yw166 LAll_ok LAll_la yt5_ok gHo_ok rfl (fun G n Qf => List.forall_mem_cons.mpr ⟨⟨cq162, rfl, st170 l (by decide) (by decide)⟩, yA_n⟩) rfl (fun G n Rr => yA_n) rfl
/-! 167 Linker.hasBadWait ()Z -/
theorem hdV_X4_valueOf : yX4_valueOf.cls = RX4 ∧ yX4_valueOf.cls ≠ "java/lang/invoke/MethodHandle" ∧ yX4_valueOf.cls ≠ "java/lang/invoke/VarHandle" ∧ (parseMethodDescriptor yX4_valueOf.desc).map (fun d => d.parameters.length) = some 2 := by decide +kernel
theorem st171 (l : Launch) {G : rGm} {cc : ByteArray} {nL n fr lo : Nat} {ret : Option FieldType} {Qf : kQf} (hf : 3 ≤ fr) (hlo : 70 ≤ lo) : ySite gAll LAll vwCl rFo rZs rRs rNs rTs G l cc nL RX4 ret fr lo n Qf 182 186 cq166 := ys_V 2 13422 6 rc166 lo_13422 kc6 (m166 l) kGood kw1662 kw1663 kw1664 kw256 kw1733 hdV_X4_valueOf hf hlo
theorem hdV_X4_tell : yX4_tell.cls = RX4 ∧ yX4_tell.cls ≠ "java/lang/invoke/MethodHandle" ∧ yX4_tell.cls ≠ "java/lang/invoke/VarHandle" ∧ (parseMethodDescriptor yX4_tell.desc).map (fun d => d.parameters.length) = some 3 := by decide +kernel
theorem st172 (l : Launch) {G : rGm} {cc : ByteArray} {nL n fr lo : Nat} {ret : Option FieldType} {Qf : kQf} (hf : 1 ≤ fr) (hlo : 23 ≤ lo) : ySite gAll LAll vwCl rFo rZs rRs rNs rTs G l cc nL RX4 ret fr lo n Qf 182 65 cq165 := ys_V 3 13422 6 rc165 lo_13422 kc6 (m165 l) kGood kw722 kw723 kw724 kw256 kw721 hdV_X4_tell hf hlo
def mt167 : yMt := ([(182, (186, 0)), (182, (65, 1))], ([], ([], [])))
theorem rc167 : yRc cq167 13422 0 = true := by decide +kernel
theorem yr167 : yRun gAll t167 b167 cq167 := yRun_p (cuts := u167) (fuel := 300) gAll_tag ruI2_RtI ruJ2_RtJ rqL_ok ⟨zsm_e _ z167_s, List.forall_mem_cons.mpr ⟨zsm_e _ z167_0, List.forall_mem_cons.mpr ⟨zsm_e _ z167_1, yA_n⟩⟩⟩
theorem zw167 : zwid cq167.2.1.1 cq167.1 0 9 = true := by decide +kernel
set_option maxRecDepth 100000 in
theorem yw167 : yRows gAll LAll yt5 mt167 gHo 9 3 (zby cX4_hasBadWait) p167 b167 p167 = true := by decide +kernel
set_option maxRecDepth 100000 in
theorem m167 (l : Launch) : kMet gAll LAll vwCl rFo rZs rRs rNs rTs l yX4_hasBadWait cX4_hasBadWait 9 (some .boolean) 3 70 cq167 := kmet_y2 (rt := 3) (by decide +kernel) yr167 zw167 rfl yw167 LAll_ok LAll_la yt5_ok gHo_ok rfl (fun G n Qf => List.forall_mem_cons.mpr ⟨⟨cq166, rfl, st171 l (by decide) (by decide)⟩, List.forall_mem_cons.mpr ⟨⟨cq165, rfl, st172 l (by decide) (by decide)⟩, yA_n⟩⟩) rfl (fun G n Rr => yA_n) rfl
/-! 168 Linker.hasFlags (III)Z -/
def mt168 : yMt := ([], ([], ([], [])))
theorem rc168 : yRc cq168 13422 3 = true := by decide +kernel
theorem yr168 : yRun gAll t168 b168 cq168 := yRun_z gAll_tag ruI2_RtI ruJ2_RtJ rqL_ok z168
theorem zw168 : zwid cq168.2.1.1 cq168.1 0 5 = true := by decide +kernel
set_option maxRecDepth 100000 in
theorem yw168 : yRows gAll LAll yt5 mt168 gHo 5 3 (zby cX4_hasFlags) p168 b168 p168 = true := by decide +kernel
set_option maxRecDepth 100000 in
theorem m168 (l : Launch) : kMet gAll LAll vwCl rFo rZs rRs rNs rTs l yX4_hasFlags cX4_hasFlags 5 (some .boolean) 0 0 cq168 := kmet_y2 (rt := 3) (by decide +kernel) yr168 zw168 rfl yw168 LAll_ok LAll_la yt5_ok gHo_ok rfl (fun G n Qf => yA_n) rfl (fun G n Rr => yA_n) rfl
/-! 169 Linker.isGlobal (I)Z -/
theorem hdV_X4_hasFlags : yX4_hasFlags.cls = RX4 ∧ yX4_hasFlags.cls ≠ "java/lang/invoke/MethodHandle" ∧ yX4_hasFlags.cls ≠ "java/lang/invoke/VarHandle" ∧ (parseMethodDescriptor yX4_hasFlags.desc).map (fun d => d.parameters.length) = some 3 := by decide +kernel
theorem st173 (l : Launch) {G : rGm} {cc : ByteArray} {nL n fr lo : Nat} {ret : Option FieldType} {Qf : kQf} (hf : 1 ≤ fr) (hlo : 24 ≤ lo) : ySite gAll LAll vwCl rFo rZs rRs rNs rTs G l cc nL RX4 ret fr lo n Qf 182 146 cq168 := ys_V 3 13422 6 rc168 lo_13422 kc6 (m168 l) kGood kw1674 kw1675 kw1676 kw256 kw1672 hdV_X4_hasFlags hf hlo
def mt169 : yMt := ([(182, (146, 0))], ([], ([], [])))
theorem rc169 : yRc cq169 13422 1 = true := by decide +kernel
theorem yr169 : yRun gAll t169 b169 cq169 := yRun_z gAll_tag ruI2_RtI ruJ2_RtJ rqL_ok z169
theorem zw169 : zwid cq169.2.1.1 cq169.1 0 2 = true := by decide +kernel
set_option maxRecDepth 100000 in
theorem yw169 : yRows gAll LAll yt5 mt169 gHo 2 3 (zby cX4_isGlobal) p169 b169 p169 = true := by decide +kernel
set_option maxRecDepth 100000 in
theorem m169 (l : Launch) : kMet gAll LAll vwCl rFo rZs rRs rNs rTs l yX4_isGlobal cX4_isGlobal 2 (some .boolean) 1 24 cq169 := kmet_y2 (rt := 3) (by decide +kernel) yr169 zw169 rfl yw169 LAll_ok LAll_la yt5_ok gHo_ok rfl (fun G n Qf => List.forall_mem_cons.mpr ⟨⟨cq168, rfl, st173 l (by decide) (by decide)⟩, yA_n⟩) rfl (fun G n Rr => yA_n) rfl
/-! 170 Linker.isTaken (I)Z -/
def mt170 : yMt := ([], ([], ([], [])))
theorem rc170 : yRc cq170 13422 1 = true := by decide +kernel
theorem yr170 : yRun gAll t170 b170 cq170 := yRun_z gAll_tag ruI2_RtI ruJ2_RtJ rqL_ok z170
theorem zw170 : zwid cq170.2.1.1 cq170.1 0 2 = true := by decide +kernel
set_option maxRecDepth 100000 in
theorem yw170 : yRows gAll LAll yt5 mt170 gHo 2 3 (zby cX4_isTaken) p170 b170 p170 = true := by decide +kernel
set_option maxRecDepth 100000 in
theorem m170 (l : Launch) : kMet gAll LAll vwCl rFo rZs rRs rNs rTs l yX4_isTaken cX4_isTaken 2 (some .boolean) 0 0 cq170 := kmet_y2 (rt := 3) (by decide +kernel) yr170 zw170 rfl yw170 LAll_ok LAll_la yt5_ok gHo_ok rfl (fun G n Qf => yA_n) rfl (fun G n Rr => yA_n) rfl
/-! 171 Linker.isWeakLabel (I)Z -/
def mt171 : yMt := ([(182, (146, 0))], ([], ([], [])))
theorem rc171 : yRc cq171 13422 1 = true := by decide +kernel
theorem yr171 : yRun gAll t171 b171 cq171 := yRun_z gAll_tag ruI2_RtI ruJ2_RtJ rqL_ok z171
theorem zw171 : zwid cq171.2.1.1 cq171.1 0 2 = true := by decide +kernel
set_option maxRecDepth 100000 in
theorem yw171 : yRows gAll LAll yt5 mt171 gHo 2 3 (zby cX4_isWeakLabel) p171 b171 p171 = true := by decide +kernel
set_option maxRecDepth 100000 in
theorem m171 (l : Launch) : kMet gAll LAll vwCl rFo rZs rRs rNs rTs l yX4_isWeakLabel cX4_isWeakLabel 2 (some .boolean) 1 24 cq171 := kmet_y2 (rt := 3) (by decide +kernel) yr171 zw171 rfl yw171 LAll_ok LAll_la yt5_ok gHo_ok rfl (fun G n Qf => List.forall_mem_cons.mpr ⟨⟨cq168, rfl, st173 l (by decide) (by decide)⟩, yA_n⟩) rfl (fun G n Rr => yA_n) rfl
/-! 172 Names.find/letters@x.units.names ([BIII)I -/
def mt172 : yMt := ([], ([], ([], [])))
theorem rc172 : yRc cq172 3 4 = true := by decide +kernel
theorem yr172 : yRun gAll t172 b172 cq172 := yRun_p (cuts := u172) (fuel := 300) gAll_tag ruI2_RtI ruJ2_RtJ rqL_ok ⟨zsm_e _ z172_s, List.forall_mem_cons.mpr ⟨zsm_e _ z172_0, List.forall_mem_cons.mpr ⟨zsm_e _ z172_1, List.forall_mem_cons.mpr ⟨zsm_e _ z172_2, yA_n⟩⟩⟩⟩
theorem zw172 : zwid cq172.2.1.1 cq172.1 0 9 = true := by decide +kernel
set_option maxRecDepth 100000 in
theorem yw172 : yRows gAll LAll yt8 mt172 gHo 9 1 (zby cX7_find) p172 b172 p172 = true := by decide +kernel
set_option maxRecDepth 100000 in
theorem m172 (l : Launch) : kMet gAll LAll vwCl rFo rZs rRs rNs rTs l yX7_find cX7_find 9 (some .int) 0 0 cq172 := kmet_y2 (rt := 1) (by decide +kernel) yr172 zw172 rfl yw172 LAll_ok LAll_la yt8_ok gHo_ok rfl (fun G n Qf => yA_n) rfl (fun G n Rr => yA_n) rfl
/-! 173 Linker.older (II)I -/
theorem st174 (l : Launch) {G : rGm} {cc : ByteArray} {nL n fr lo : Nat} {ret : Option FieldType} {Qf : kQf} (hf : 1 ≤ fr) (hlo : 28 ≤ lo) : ySite gAll LAll vwCl rFo rZs rRs rNs rTs G l cc nL RX4 ret fr lo n Qf 182 80 cq172 := ys_V 4 3 9 rc172 lo_3 kc9 (m172 l) kGood kw733 kw734 kw735 kw18 kw732 hdV_X7_find hf hlo
def mt173 : yMt := ([(182, (80, 0))], ([], ([], [])))
theorem rc173 : yRc cq173 13422 2 = true := by decide +kernel
theorem yr173 : yRun gAll t173 b173 cq173 := yRun_z gAll_tag ruI2_RtI ruJ2_RtJ rqL_ok z173
theorem zw173 : zwid cq173.2.1.1 cq173.1 0 4 = true := by decide +kernel
set_option maxRecDepth 100000 in
theorem yw173 : yRows gAll LAll yt5 mt173 gHo 4 1 (zby cX4_older) p173 b173 p173 = true := by decide +kernel
set_option maxRecDepth 100000 in
theorem m173 (l : Launch) : kMet gAll LAll vwCl rFo rZs rRs rNs rTs l yX4_older cX4_older 4 (some .int) 1 28 cq173 := kmet_y2 (rt := 1) (by decide +kernel) yr173 zw173 rfl yw173 LAll_ok LAll_la yt5_ok gHo_ok rfl (fun G n Qf => List.forall_mem_cons.mpr ⟨⟨cq172, rfl, st174 l (by decide) (by decide)⟩, yA_n⟩) rfl (fun G n Rr => yA_n) rfl
