/-! METHODS, CALLEES FIRST (written by wip/p2/genmeth.py) -/
/-! 174 Linker.winner (I)I -/
theorem hdV_X4_older : yX4_older.cls = RX4 ∧ yX4_older.cls ≠ "java/lang/invoke/MethodHandle" ∧ yX4_older.cls ≠ "java/lang/invoke/VarHandle" ∧ (parseMethodDescriptor yX4_older.desc).map (fun d => d.parameters.length) = some 2 := by decide +kernel
theorem st175 (l : Launch) {G : rGm} {cc : ByteArray} {nL n fr lo : Nat} {ret : Option FieldType} {Qf : kQf} (hf : 2 ≤ fr) (hlo : 51 ≤ lo) : ySite gAll LAll vwCl rFo rZs rRs rNs rTs G l cc nL RX4 ret fr lo n Qf 182 167 cq173 := ys_V 2 13422 6 rc173 lo_13422 kc6 (m173 l) kGood kw1678 kw1679 kw1680 kw256 kw1724 hdV_X4_older hf hlo
theorem hdV_X4_isTaken : yX4_isTaken.cls = RX4 ∧ yX4_isTaken.cls ≠ "java/lang/invoke/MethodHandle" ∧ yX4_isTaken.cls ≠ "java/lang/invoke/VarHandle" ∧ (parseMethodDescriptor yX4_isTaken.desc).map (fun d => d.parameters.length) = some 1 := by decide +kernel
theorem st176 (l : Launch) {G : rGm} {cc : ByteArray} {nL n fr lo : Nat} {ret : Option FieldType} {Qf : kQf} (hf : 1 ≤ fr) (hlo : 21 ≤ lo) : ySite gAll LAll vwCl rFo rZs rRs rNs rTs G l cc nL RX4 ret fr lo n Qf 182 170 cq170 := ys_V 1 13422 6 rc170 lo_13422 kc6 (m170 l) kGood kw1681 kw1682 kw1683 kw256 kw1687 hdV_X4_isTaken hf hlo
theorem hdV_X4_isGlobal : yX4_isGlobal.cls = RX4 ∧ yX4_isGlobal.cls ≠ "java/lang/invoke/MethodHandle" ∧ yX4_isGlobal.cls ≠ "java/lang/invoke/VarHandle" ∧ (parseMethodDescriptor yX4_isGlobal.desc).map (fun d => d.parameters.length) = some 1 := by decide +kernel
theorem st177 (l : Launch) {G : rGm} {cc : ByteArray} {nL n fr lo : Nat} {ret : Option FieldType} {Qf : kQf} (hf : 2 ≤ fr) (hlo : 45 ≤ lo) : ySite gAll LAll vwCl rFo rZs rRs rNs rTs G l cc nL RX4 ret fr lo n Qf 182 88 cq169 := ys_V 1 13422 6 rc169 lo_13422 kc6 (m169 l) kGood kw1666 kw1667 kw1668 kw256 kw1673 hdV_X4_isGlobal hf hlo
theorem hdV_X4_isWeakLabel : yX4_isWeakLabel.cls = RX4 ∧ yX4_isWeakLabel.cls ≠ "java/lang/invoke/MethodHandle" ∧ yX4_isWeakLabel.cls ≠ "java/lang/invoke/VarHandle" ∧ (parseMethodDescriptor yX4_isWeakLabel.desc).map (fun d => d.parameters.length) = some 1 := by decide +kernel
theorem st178 (l : Launch) {G : rGm} {cc : ByteArray} {nL n fr lo : Nat} {ret : Option FieldType} {Qf : kQf} (hf : 2 ≤ fr) (hlo : 45 ≤ lo) : ySite gAll LAll vwCl rFo rZs rRs rNs rTs G l cc nL RX4 ret fr lo n Qf 182 161 cq171 := ys_V 1 13422 6 rc171 lo_13422 kc6 (m171 l) kGood kw1684 kw1685 kw1686 kw256 kw1692 hdV_X4_isWeakLabel hf hlo
def mt174 : yMt := ([(182, (167, 0)), (182, (170, 1)), (182, (88, 2)), (182, (161, 3))], ([], ([], [])))
theorem rc174 : yRc cq174 13422 1 = true := by decide +kernel
theorem yr174 : yRun gAll t174 b174 cq174 := yRun_p (cuts := u174) (fuel := 300) gAll_tag ruI2_RtI ruJ2_RtJ rqL_ok ⟨zsm_e _ z174_s, List.forall_mem_cons.mpr ⟨zsm_e _ z174_0, yA_n⟩⟩
theorem zw174 : zwid cq174.2.1.1 cq174.1 0 6 = true := by decide +kernel
set_option maxRecDepth 100000 in
theorem yw174 : yRows gAll LAll yt5 mt174 gHo 6 1 (zby cX4_winner) p174 b174 p174 = true := by decide +kernel
set_option maxRecDepth 100000 in
theorem m174 (l : Launch) : kMet gAll LAll vwCl rFo rZs rRs rNs rTs l yX4_winner cX4_winner 6 (some .int) 2 51 cq174 := kmet_y2 (rt := 1) (by decide +kernel) yr174 zw174 rfl yw174 LAll_ok LAll_la yt5_ok gHo_ok rfl (fun G n Qf => List.forall_mem_cons.mpr ⟨⟨cq173, rfl, st175 l (by decide) (by decide)⟩, List.forall_mem_cons.mpr ⟨⟨cq170, rfl, st176 l (by decide) (by decide)⟩, List.forall_mem_cons.mpr ⟨⟨cq169, rfl, st177 l (by decide) (by decide)⟩, List.forall_mem_cons.mpr ⟨⟨cq171, rfl, st178 l (by decide) (by decide)⟩, yA_n⟩⟩⟩⟩) rfl (fun G n Rr => yA_n) rfl
/-! 175 Linker.hasDoubles ()Z -/
theorem hdV_X4_winner : yX4_winner.cls = RX4 ∧ yX4_winner.cls ≠ "java/lang/invoke/MethodHandle" ∧ yX4_winner.cls ≠ "java/lang/invoke/VarHandle" ∧ (parseMethodDescriptor yX4_winner.desc).map (fun d => d.parameters.length) = some 1 := by decide +kernel
theorem st179 (l : Launch) {G : rGm} {cc : ByteArray} {nL n fr lo : Nat} {ret : Option FieldType} {Qf : kQf} (hf : 3 ≤ fr) (hlo : 76 ≤ lo) : ySite gAll LAll vwCl rFo rZs rRs rNs rTs G l cc nL RX4 ret fr lo n Qf 182 84 cq174 := ys_V 1 13422 6 rc174 lo_13422 kc6 (m174 l) kGood kw1669 kw1670 kw1671 kw256 kw1735 hdV_X4_winner hf hlo
def mt175 : yMt := ([(182, (88, 0)), (182, (84, 1)), (182, (65, 2))], ([], ([], [])))
theorem rc175 : yRc cq175 13422 0 = true := by decide +kernel
theorem yr175 : yRun gAll t175 b175 cq175 := yRun_p (cuts := u175) (fuel := 300) gAll_tag ruI2_RtI ruJ2_RtJ rqL_ok ⟨zsm_e _ z175_s, List.forall_mem_cons.mpr ⟨zsm_e _ z175_0, List.forall_mem_cons.mpr ⟨zsm_e _ z175_1, yA_n⟩⟩⟩
theorem zw175 : zwid cq175.2.1.1 cq175.1 0 5 = true := by decide +kernel
set_option maxRecDepth 100000 in
theorem yw175 : yRows gAll LAll yt5 mt175 gHo 5 3 (zby cX4_hasDoubles) p175 b175 p175 = true := by decide +kernel
set_option maxRecDepth 100000 in
theorem m175 (l : Launch) : kMet gAll LAll vwCl rFo rZs rRs rNs rTs l yX4_hasDoubles cX4_hasDoubles 5 (some .boolean) 3 76 cq175 := kmet_y2 (rt := 3) (by decide +kernel) yr175 zw175 rfl yw175 LAll_ok LAll_la yt5_ok gHo_ok rfl (fun G n Qf => List.forall_mem_cons.mpr ⟨⟨cq169, rfl, st177 l (by decide) (by decide)⟩, List.forall_mem_cons.mpr ⟨⟨cq174, rfl, st179 l (by decide) (by decide)⟩, List.forall_mem_cons.mpr ⟨⟨cq165, rfl, st172 l (by decide) (by decide)⟩, yA_n⟩⟩⟩) rfl (fun G n Rr => yA_n) rfl
/-! 176 Linker.isMissed (I)Z -/
def mt176 : yMt := ([(182, (167, 0)), (182, (170, 1)), (182, (88, 2)), (182, (161, 3)), (182, (146, 4))], ([], ([], [])))
theorem rc176 : yRc cq176 13422 1 = true := by decide +kernel
theorem yr176 : yRun gAll t176 b176 cq176 := yRun_p (cuts := u176) (fuel := 300) gAll_tag ruI2_RtI ruJ2_RtJ rqL_ok ⟨zsm_e _ z176_s, List.forall_mem_cons.mpr ⟨zsm_e _ z176_0, yA_n⟩⟩
theorem zw176 : zwid cq176.2.1.1 cq176.1 0 5 = true := by decide +kernel
set_option maxRecDepth 100000 in
theorem yw176 : yRows gAll LAll yt5 mt176 gHo 5 3 (zby cX4_isMissed) p176 b176 p176 = true := by decide +kernel
set_option maxRecDepth 100000 in
theorem m176 (l : Launch) : kMet gAll LAll vwCl rFo rZs rRs rNs rTs l yX4_isMissed cX4_isMissed 5 (some .boolean) 2 51 cq176 := kmet_y2 (rt := 3) (by decide +kernel) yr176 zw176 rfl yw176 LAll_ok LAll_la yt5_ok gHo_ok rfl (fun G n Qf => List.forall_mem_cons.mpr ⟨⟨cq173, rfl, st175 l (by decide) (by decide)⟩, List.forall_mem_cons.mpr ⟨⟨cq170, rfl, st176 l (by decide) (by decide)⟩, List.forall_mem_cons.mpr ⟨⟨cq169, rfl, st177 l (by decide) (by decide)⟩, List.forall_mem_cons.mpr ⟨⟨cq171, rfl, st178 l (by decide) (by decide)⟩, List.forall_mem_cons.mpr ⟨⟨cq168, rfl, st173 l (by decide) (by decide)⟩, yA_n⟩⟩⟩⟩⟩) rfl (fun G n Rr => yA_n) rfl
/-! 177 Linker.isWanted (I)Z -/
theorem hdV_X4_isMissed : yX4_isMissed.cls = RX4 ∧ yX4_isMissed.cls ≠ "java/lang/invoke/MethodHandle" ∧ yX4_isMissed.cls ≠ "java/lang/invoke/VarHandle" ∧ (parseMethodDescriptor yX4_isMissed.desc).map (fun d => d.parameters.length) = some 1 := by decide +kernel
theorem st180 (l : Launch) {G : rGm} {cc : ByteArray} {nL n fr lo : Nat} {ret : Option FieldType} {Qf : kQf} (hf : 3 ≤ fr) (hlo : 75 ≤ lo) : ySite gAll LAll vwCl rFo rZs rRs rNs rTs G l cc nL RX4 ret fr lo n Qf 182 164 cq176 := ys_V 1 13422 6 rc176 lo_13422 kc6 (m176 l) kGood kw1689 kw1690 kw1691 kw256 kw1677 hdV_X4_isMissed hf hlo
def mt177 : yMt := ([(182, (88, 0)), (182, (161, 1)), (182, (164, 2))], ([], ([], [])))
theorem rc177 : yRc cq177 13422 1 = true := by decide +kernel
theorem yr177 : yRun gAll t177 b177 cq177 := yRun_p (cuts := u177) (fuel := 300) gAll_tag ruI2_RtI ruJ2_RtJ rqL_ok ⟨zsm_e _ z177_s, List.forall_mem_cons.mpr ⟨zsm_e _ z177_0, yA_n⟩⟩
theorem zw177 : zwid cq177.2.1.1 cq177.1 0 3 = true := by decide +kernel
set_option maxRecDepth 100000 in
theorem yw177 : yRows gAll LAll yt5 mt177 gHo 3 3 (zby cX4_isWanted) p177 b177 p177 = true := by decide +kernel
set_option maxRecDepth 100000 in
theorem m177 (l : Launch) : kMet gAll LAll vwCl rFo rZs rRs rNs rTs l yX4_isWanted cX4_isWanted 3 (some .boolean) 3 75 cq177 := kmet_y2 (rt := 3) (by decide +kernel) yr177 zw177 rfl yw177 LAll_ok LAll_la yt5_ok gHo_ok rfl (fun G n Qf => List.forall_mem_cons.mpr ⟨⟨cq169, rfl, st177 l (by decide) (by decide)⟩, List.forall_mem_cons.mpr ⟨⟨cq171, rfl, st178 l (by decide) (by decide)⟩, List.forall_mem_cons.mpr ⟨⟨cq176, rfl, st180 l (by decide) (by decide)⟩, yA_n⟩⟩⟩) rfl (fun G n Rr => yA_n) rfl
/-! 178 Linker.up (II)I -/
def mt178 : yMt := ([], ([], ([], [])))
theorem yr178 : yRun gAll t178 b178 cq178 := yRun_z gAll_tag ruI2_RtI ruJ2_RtJ rqL_ok z178
theorem zw178 : zwid cq178.2.1.1 cq178.1 0 2 = true := by decide +kernel
set_option maxRecDepth 100000 in
theorem yw178 : yRows gAll LAll yt5 mt178 gHo 2 1 (zby cX4_up) p178 b178 p178 = true := by decide +kernel
set_option maxRecDepth 100000 in
theorem m178 (l : Launch) : kMet gAll LAll vwCl rFo rZs rRs rNs rTs l yX4_up cX4_up 2 (some .int) 0 0 cq178 := kmet_y2 (rt := 1) (by decide +kernel) yr178 zw178 rfl yw178 LAll_ok LAll_la yt5_ok gHo_ok rfl (fun G n Qf => yA_n) rfl (fun G n Rr => yA_n) rfl
/-! 179 Linker.placeSections (II)I -/
theorem hdS_X4_up : yX4_up.cls ≠ "java/lang/invoke/MethodHandle" ∧ yX4_up.cls ≠ "java/lang/invoke/VarHandle" ∧ (parseMethodDescriptor yX4_up.desc).map (fun d => d.parameters.length) = some 2 := by decide +kernel
theorem st181 (l : Launch) {G : rGm} {cc : ByteArray} {nL n fr lo : Nat} {ret : Option FieldType} {Qf : kQf} (hf : 1 ≤ fr) (hlo : 21 ≤ lo) : ySite gAll LAll vwCl rFo rZs rRs rNs rTs G l cc nL RX4 ret fr lo n Qf 184 107 cq178 := ys_S 2 rfl (m178 l) kGood kw1704 kw1705 kw256 kw1706 hdS_X4_up hf hlo
def mt179 : yMt := ([(184, (107, 0))], ([], ([], [])))
theorem rc179 : yRc cq179 13422 2 = true := by decide +kernel
theorem yr179 : yRun gAll t179 b179 cq179 := yRun_p (cuts := u179) (fuel := 300) gAll_tag ruI2_RtI ruJ2_RtJ rqL_ok ⟨zsm_e _ z179_s, List.forall_mem_cons.mpr ⟨zsm_e _ z179_0, yA_n⟩⟩
theorem zw179 : zwid cq179.2.1.1 cq179.1 0 5 = true := by decide +kernel
set_option maxRecDepth 100000 in
theorem yw179 : yRows gAll LAll yt5 mt179 gHo 5 1 (zby cX4_placeSections) p179 b179 p179 = true := by decide +kernel
set_option maxRecDepth 100000 in
theorem m179 (l : Launch) : kMet gAll LAll vwCl rFo rZs rRs rNs rTs l yX4_placeSections cX4_placeSections 5 (some .int) 1 21 cq179 := kmet_y2 (rt := 1) (by decide +kernel) yr179 zw179 rfl yw179 LAll_ok LAll_la yt5_ok gHo_ok rfl (fun G n Qf => List.forall_mem_cons.mpr ⟨⟨cq178, rfl, st181 l (by decide) (by decide)⟩, yA_n⟩) rfl (fun G n Rr => yA_n) rfl
/-! 180 Linker.resolve ()V -/
def mt180 : yMt := ([(182, (146, 0)), (182, (84, 1))], ([], ([], [])))
theorem rc180 : yRc cq180 13422 0 = true := by decide +kernel
theorem yr180 : yRun gAll t180 b180 cq180 := yRun_p (cuts := u180) (fuel := 300) gAll_tag ruI2_RtI ruJ2_RtJ rqL_ok ⟨zsm_e _ z180_s, List.forall_mem_cons.mpr ⟨zsm_e _ z180_0, yA_n⟩⟩
theorem zw180 : zwid cq180.2.1.1 cq180.1 0 3 = true := by decide +kernel
set_option maxRecDepth 100000 in
theorem yw180 : yRows gAll LAll yt5 mt180 gHo 3 0 (zby cX4_resolve) p180 b180 p180 = true := by decide +kernel
set_option maxRecDepth 100000 in
theorem m180 (l : Launch) : kMet gAll LAll vwCl rFo rZs rRs rNs rTs l yX4_resolve cX4_resolve 3 none 3 76 cq180 := kmet_y2 (rt := 0) (by decide +kernel) yr180 zw180 rfl yw180 LAll_ok LAll_la yt5_ok gHo_ok rfl (fun G n Qf => List.forall_mem_cons.mpr ⟨⟨cq168, rfl, st173 l (by decide) (by decide)⟩, List.forall_mem_cons.mpr ⟨⟨cq174, rfl, st179 l (by decide) (by decide)⟩, yA_n⟩⟩) rfl (fun G n Rr => yA_n) rfl
/-! 181 Linker.takeUnits ()V -/
theorem hdV_X4_isWanted : yX4_isWanted.cls = RX4 ∧ yX4_isWanted.cls ≠ "java/lang/invoke/MethodHandle" ∧ yX4_isWanted.cls ≠ "java/lang/invoke/VarHandle" ∧ (parseMethodDescriptor yX4_isWanted.desc).map (fun d => d.parameters.length) = some 1 := by decide +kernel
theorem st182 (l : Launch) {G : rGm} {cc : ByteArray} {nL n fr lo : Nat} {ret : Option FieldType} {Qf : kQf} (hf : 4 ≤ fr) (hlo : 97 ≤ lo) : ySite gAll LAll vwCl rFo rZs rRs rNs rTs G l cc nL RX4 ret fr lo n Qf 182 158 cq177 := ys_V 1 13422 6 rc177 lo_13422 kc6 (m177 l) kGood kw1730 kw1731 kw1732 kw256 kw1688 hdV_X4_isWanted hf hlo
def mt181 : yMt := ([(182, (158, 0))], ([], ([], [])))
theorem rc181 : yRc cq181 13422 0 = true := by decide +kernel
theorem yr181 : yRun gAll t181 b181 cq181 := yRun_p (cuts := u181) (fuel := 300) gAll_tag ruI2_RtI ruJ2_RtJ rqL_ok ⟨zsm_e _ z181_s, List.forall_mem_cons.mpr ⟨zsm_e _ z181_0, List.forall_mem_cons.mpr ⟨zsm_e _ z181_1, List.forall_mem_cons.mpr ⟨zsm_e _ z181_2, yA_n⟩⟩⟩⟩
theorem zw181 : zwid cq181.2.1.1 cq181.1 0 3 = true := by decide +kernel
set_option maxRecDepth 100000 in
theorem yw181 : yRows gAll LAll yt5 mt181 gHo 3 0 (zby cX4_takeUnits) p181 b181 p181 = true := by decide +kernel
set_option maxRecDepth 100000 in
theorem m181 (l : Launch) : kMet gAll LAll vwCl rFo rZs rRs rNs rTs l yX4_takeUnits cX4_takeUnits 3 none 4 97 cq181 := kmet_y2 (rt := 0) (by decide +kernel) yr181 zw181 rfl yw181 LAll_ok LAll_la yt5_ok gHo_ok rfl (fun G n Qf => List.forall_mem_cons.mpr ⟨⟨cq177, rfl, st182 l (by decide) (by decide)⟩, yA_n⟩) rfl (fun G n Rr => yA_n) rfl
/-! 182 Linker.writeWait (II)V -/
def mt182 : yMt := ([(182, (186, 0))], ([], ([], [])))
theorem rc182 : yRc cq182 13422 2 = true := by decide +kernel
theorem yr182 : yRun gAll t182 b182 cq182 := yRun_p (cuts := u182) (fuel := 300) gAll_tag ruI2_RtI ruJ2_RtJ rqL_ok ⟨zsm_e _ z182_s, List.forall_mem_cons.mpr ⟨zsm_e _ z182_0, yA_n⟩⟩
theorem zw182 : zwid cq182.2.1.1 cq182.1 0 10 = true := by decide +kernel
set_option maxRecDepth 100000 in
theorem yw182 : yRows gAll LAll yt5 mt182 gHo 10 0 (zby cX4_writeWait) p182 b182 p182 = true := by decide +kernel
set_option maxRecDepth 100000 in
theorem m182 (l : Launch) : kMet gAll LAll vwCl rFo rZs rRs rNs rTs l yX4_writeWait cX4_writeWait 10 none 3 70 cq182 := kmet_y2 (rt := 0) (by decide +kernel) yr182 zw182 rfl yw182 LAll_ok LAll_la yt5_ok gHo_ok rfl (fun G n Qf => List.forall_mem_cons.mpr ⟨⟨cq166, rfl, st171 l (by decide) (by decide)⟩, yA_n⟩) rfl (fun G n Rr => yA_n) rfl
/-! 183 java/util/Arrays.fill/bytes ([BIIB)V -/
def mt183 : yMt := ([(184, (13, 0))], ([], ([], [])))
theorem yr183 : yRun gAll t183 b183 cq183 := yRun_p (cuts := u183) (fuel := 300) gAll_tag ruI2_RtI ruJ2_RtJ rqL_ok ⟨zsm_e _ z183_s, List.forall_mem_cons.mpr ⟨zsm_e _ z183_0, yA_n⟩⟩
theorem zw183 : zwid cq183.2.1.1 cq183.1 0 5 = true := by decide +kernel
set_option maxRecDepth 100000 in
theorem yw183 : yRows gAll LAll yt17 mt183 gHo 5 0 (zby cJ7_fill_eb02e) p183 b183 p183 = true := by decide +kernel
set_option maxRecDepth 100000 in
theorem m183 (l : Launch) : kMet gAll LAll vwCl rFo rZs rRs rNs rTs l yJ7_fill_eb02e cJ7_fill_eb02e 5 none 1 22 cq183 := kmet_y2 (rt := 0) (by decide +kernel) yr183 zw183 rfl yw183 LAll_ok LAll_la yt17_ok gHo_ok rfl (fun G n Qf => List.forall_mem_cons.mpr ⟨⟨cq40, rfl, st41 l (by decide) (by decide)⟩, yA_n⟩) rfl (fun G n Rr => yA_n) rfl
/-! 184 java/util/Arrays.fill/from ([II)V -/
def mt184 : yMt := ([], ([], ([], [])))
theorem yr184 : yRun gAll t184 b184 cq184 := yRun_p (cuts := u184) (fuel := 300) gAll_tag ruI2_RtI ruJ2_RtJ rqL_ok ⟨zsm_e _ z184_s, List.forall_mem_cons.mpr ⟨zsm_e _ z184_0, yA_n⟩⟩
theorem zw184 : zwid cq184.2.1.1 cq184.1 0 4 = true := by decide +kernel
set_option maxRecDepth 100000 in
theorem yw184 : yRows gAll LAll yt17 mt184 gHo 4 0 (zby cJ7_fill_53178) p184 b184 p184 = true := by decide +kernel
set_option maxRecDepth 100000 in
theorem m184 (l : Launch) : kMet gAll LAll vwCl rFo rZs rRs rNs rTs l yJ7_fill_53178 cJ7_fill_53178 4 none 0 0 cq184 := kmet_y2 (rt := 0) (by decide +kernel) yr184 zw184 rfl yw184 LAll_ok LAll_la yt17_ok gHo_ok rfl (fun G n Qf => yA_n) rfl (fun G n Rr => yA_n) rfl
/-! 185 java/util/Arrays.fill/to ([II)V -/
def mt185 : yMt := ([], ([], ([], [])))
theorem yr185 : yRun gAll t185 b185 cq185 := yRun_p (cuts := u185) (fuel := 300) gAll_tag ruI2_RtI ruJ2_RtJ rqL_ok ⟨zsm_e _ z185_s, List.forall_mem_cons.mpr ⟨zsm_e _ z185_0, yA_n⟩⟩
theorem zw185 : zwid cq185.2.1.1 cq185.1 0 4 = true := by decide +kernel
set_option maxRecDepth 100000 in
theorem yw185 : yRows gAll LAll yt17 mt185 gHo 4 0 (zby cJ7_fill_53178) p185 b185 p185 = true := by decide +kernel
set_option maxRecDepth 100000 in
theorem m185 (l : Launch) : kMet gAll LAll vwCl rFo rZs rRs rNs rTs l yJ7_fill_53178 cJ7_fill_53178 4 none 0 0 cq185 := kmet_y2 (rt := 0) (by decide +kernel) yr185 zw185 rfl yw185 LAll_ok LAll_la yt17_ok gHo_ok rfl (fun G n Qf => yA_n) rfl (fun G n Rr => yA_n) rfl
/-! 186 java/util/Arrays.fill/origins ([IIII)V -/
def mt186 : yMt := ([(184, (13, 0))], ([], ([], [])))
theorem yr186 : yRun gAll t186 b186 cq186 := yRun_p (cuts := u186) (fuel := 300) gAll_tag ruI2_RtI ruJ2_RtJ rqL_ok ⟨zsm_e _ z186_s, List.forall_mem_cons.mpr ⟨zsm_e _ z186_0, yA_n⟩⟩
theorem zw186 : zwid cq186.2.1.1 cq186.1 0 5 = true := by decide +kernel
set_option maxRecDepth 100000 in
theorem yw186 : yRows gAll LAll yt17 mt186 gHo 5 0 (zby cJ7_fill_fda19) p186 b186 p186 = true := by decide +kernel
set_option maxRecDepth 100000 in
theorem m186 (l : Launch) : kMet gAll LAll vwCl rFo rZs rRs rNs rTs l yJ7_fill_fda19 cJ7_fill_fda19 5 none 1 22 cq186 := kmet_y2 (rt := 0) (by decide +kernel) yr186 zw186 rfl yw186 LAll_ok LAll_la yt17_ok gHo_ok rfl (fun G n Qf => List.forall_mem_cons.mpr ⟨⟨cq40, rfl, st41 l (by decide) (by decide)⟩, yA_n⟩) rfl (fun G n Rr => yA_n) rfl
/-! 187 Linker.write ()V -/
theorem cA8_e : cA8 = cpC 26657 1 131072 (2 * ((13429 : Nat) : Int) + 1) 1 131072 132 := by rfl
theorem sA8 {own : String} {ix : Nat} (l : Launch) {G : rGm} {cc : ByteArray} {nL n fr lo : Nat} {ret : Option FieldType} {Qf : kQf} (w1 : Cond.methodLink own ix arraycopyName ∈ rTs) (hf : 1 ≤ fr) (hlo : 26 ≤ lo) : ySite gAll LAll vwCl rFo rZs rRs rNs rTs G l cc nL own ret fr lo n Qf 184 ix cA8 := by
  rw [cA8_e]
  exact ys_A (t := 2) (c1 := ((-128), 127)) (c2 := ((-128), 127)) LAll_ok (Or.inl ⟨13328, _, List.mem_of_getElem? (i := 13) rfl, rfl⟩) rfl (List.mem_of_getElem? (i := 72) rfl) rfl (by decide) (fun z h1 h2 => y_fb ⟨Int.le_trans (by decide) h1, Int.le_trans h2 (by decide)⟩) w1 kw62 kw63 kw64 hf (Nat.le_trans (by decide +kernel) hlo)
theorem st183 (l : Launch) {G : rGm} {cc : ByteArray} {nL n fr lo : Nat} {ret : Option FieldType} {Qf : kQf} (hf : 2 ≤ fr) (hlo : 46 ≤ lo) : ySite gAll LAll vwCl rFo rZs rRs rNs rTs G l cc nL RX4 ret fr lo n Qf 184 198 cq183 := ys_S 4 rfl (m183 l) kGood kw1742 kw650 kw13 kw648 hdS_J7_fill_eb02e hf hlo
theorem st184 (l : Launch) {G : rGm} {cc : ByteArray} {nL n fr lo : Nat} {ret : Option FieldType} {Qf : kQf} (hf : 2 ≤ fr) (hlo : 46 ≤ lo) : ySite gAll LAll vwCl rFo rZs rRs rNs rTs G l cc nL RX4 ret fr lo n Qf 184 201 cq186 := ys_S 4 rfl (m186 l) kGood kw1743 kw1744 kw13 kw1745 hdS_J7_fill_fda19 hf hlo
theorem st185 (l : Launch) {G : rGm} {cc : ByteArray} {nL n fr lo : Nat} {ret : Option FieldType} {Qf : kQf} (hf : 1 ≤ fr) (hlo : 23 ≤ lo) : ySite gAll LAll vwCl rFo rZs rRs rNs rTs G l cc nL RX4 ret fr lo n Qf 184 59 cq184 := ys_S 2 rfl (m184 l) kGood kw209 kw12 kw13 kw10 hdS_J7_fill_53178 hf hlo
theorem st186 (l : Launch) {G : rGm} {cc : ByteArray} {nL n fr lo : Nat} {ret : Option FieldType} {Qf : kQf} (hf : 1 ≤ fr) (hlo : 23 ≤ lo) : ySite gAll LAll vwCl rFo rZs rRs rNs rTs G l cc nL RX4 ret fr lo n Qf 184 59 cq185 := ys_S 2 rfl (m185 l) kGood kw209 kw12 kw13 kw10 hdS_J7_fill_53178 hf hlo
theorem hdV_X4_writeWait : yX4_writeWait.cls = RX4 ∧ yX4_writeWait.cls ≠ "java/lang/invoke/MethodHandle" ∧ yX4_writeWait.cls ≠ "java/lang/invoke/VarHandle" ∧ (parseMethodDescriptor yX4_writeWait.desc).map (fun d => d.parameters.length) = some 2 := by decide +kernel
theorem st187 (l : Launch) {G : rGm} {cc : ByteArray} {nL n fr lo : Nat} {ret : Option FieldType} {Qf : kQf} (hf : 4 ≤ fr) (hlo : 99 ≤ lo) : ySite gAll LAll vwCl rFo rZs rRs rNs rTs G l cc nL RX4 ret fr lo n Qf 182 211 cq182 := ys_V 2 13422 6 rc182 lo_13422 kc6 (m182 l) kGood kw1748 kw1749 kw1750 kw256 kw1739 hdV_X4_writeWait hf hlo
theorem st188 (l : Launch) {G : rGm} {cc : ByteArray} {nL n fr lo : Nat} {ret : Option FieldType} {Qf : kQf} (hf : 1 ≤ fr) (hlo : 21 ≤ lo) : ySite gAll LAll vwCl rFo rZs rRs rNs rTs G l cc nL RX4 ret fr lo n Qf 184 216 cq8 := ys_S 2 rfl (m8 l) kGood kw1753 kw285 kw286 kw287 hdS_J9_min_7cf53 hf hlo
def mt187 : yMt := ([(184, (198, 0)), (184, (201, 1)), (184, (59, 2)), (184, (59, 3)), (182, (211, 4)), (184, (216, 5)), (184, (205, 6))], ([], ([], [])))
theorem rc187 : yRc cq187 13422 0 = true := by decide +kernel
theorem yr187 : yRun gAll t187 b187 cq187 := yRun_p (cuts := u187) (fuel := 300) gAll_tag ruI2_RtI ruJ2_RtJ rqL_ok ⟨zsm_e _ z187_s, List.forall_mem_cons.mpr ⟨zsm_e _ z187_0, List.forall_mem_cons.mpr ⟨zsm_e _ z187_1, List.forall_mem_cons.mpr ⟨zsm_e _ z187_2, List.forall_mem_cons.mpr ⟨zsm_e _ z187_3, yA_n⟩⟩⟩⟩⟩
theorem zw187 : zwid cq187.2.1.1 cq187.1 0 4 = true := by decide +kernel
set_option maxRecDepth 100000 in
theorem yw187 : yRows gAll LAll yt5 mt187 gHo 4 0 (zby cX4_write) p187 b187 p187 = true := by decide +kernel
set_option maxRecDepth 100000 in
theorem m187 (l : Launch) : kMet gAll LAll vwCl rFo rZs rRs rNs rTs l yX4_write cX4_write 4 none 4 99 cq187 := kmet_y2 (rt := 0) (by decide +kernel) yr187 zw187 rfl yw187 LAll_ok LAll_la yt5_ok gHo_ok rfl (fun G n Qf => List.forall_mem_cons.mpr ⟨⟨cq183, rfl, st183 l (by decide) (by decide)⟩, List.forall_mem_cons.mpr ⟨⟨cq186, rfl, st184 l (by decide) (by decide)⟩, List.forall_mem_cons.mpr ⟨⟨cq184, rfl, st185 l (by decide) (by decide)⟩, List.forall_mem_cons.mpr ⟨⟨cq185, rfl, st186 l (by decide) (by decide)⟩, List.forall_mem_cons.mpr ⟨⟨cq182, rfl, st187 l (by decide) (by decide)⟩, List.forall_mem_cons.mpr ⟨⟨cq8, rfl, st188 l (by decide) (by decide)⟩, List.forall_mem_cons.mpr ⟨⟨cA8, rfl, sA8 l kw1747 (by decide) (by decide)⟩, yA_n⟩⟩⟩⟩⟩⟩⟩) rfl (fun G n Rr => yA_n) rfl
/-! 188 Names.add/letters@x.linker.names ([BII)I -/
theorem cA9_e : cA9 = cpC 9 1 129024 (2 * ((13432 : Nat) : Int) + 1) 1 129024 135 := by rfl
theorem sA9 {own : String} {ix : Nat} (l : Launch) {G : rGm} {cc : ByteArray} {nL n fr lo : Nat} {ret : Option FieldType} {Qf : kQf} (w1 : Cond.methodLink own ix arraycopyName ∈ rTs) (hf : 1 ≤ fr) (hlo : 26 ≤ lo) : ySite gAll LAll vwCl rFo rZs rRs rNs rTs G l cc nL own ret fr lo n Qf 184 ix cA9 := by
  rw [cA9_e]
  exact ys_A (t := 2) (c1 := ((-128), 127)) (c2 := ((-128), 127)) LAll_ok (Or.inl ⟨4, _, List.mem_of_getElem? (i := 1) rfl, rfl⟩) rfl (List.mem_of_getElem? (i := 74) rfl) rfl (by decide) (fun z h1 h2 => y_fb ⟨Int.le_trans (by decide) h1, Int.le_trans h2 (by decide)⟩) w1 kw62 kw63 kw64 hf (Nat.le_trans (by decide +kernel) hlo)
def mt188 : yMt := ([(184, (38, 0))], ([], ([], [])))
theorem rc188 : yRc cq188 13431 3 = true := by decide +kernel
theorem yr188 : yRun gAll t188 b188 cq188 := yRun_p (cuts := u188) (fuel := 300) gAll_tag ruI2_RtI ruJ2_RtJ rqL_ok ⟨zsm_e _ z188_s, List.forall_mem_cons.mpr ⟨zsm_e _ z188_0, yA_n⟩⟩
theorem zw188 : zwid cq188.2.1.1 cq188.1 0 6 = true := by decide +kernel
set_option maxRecDepth 100000 in
theorem yw188 : yRows gAll LAll yt8 mt188 gHo 6 1 (zby cX7_add) p188 b188 p188 = true := by decide +kernel
set_option maxRecDepth 100000 in
theorem m188 (l : Launch) : kMet gAll LAll vwCl rFo rZs rRs rNs rTs l yX7_add cX7_add 6 (some .int) 1 26 cq188 := kmet_y2 (rt := 1) (by decide +kernel) yr188 zw188 rfl yw188 LAll_ok LAll_la yt8_ok gHo_ok rfl (fun G n Qf => List.forall_mem_cons.mpr ⟨⟨cA9, rfl, sA9 l kw61 (by decide) (by decide)⟩, yA_n⟩) rfl (fun G n Rr => yA_n) rfl
/-! 189 Names.cut@x.linker.names (I)V -/
def mt189 : yMt := ([], ([], ([], [])))
theorem rc189 : yRc cq189 13431 1 = true := by decide +kernel
theorem yr189 : yRun gAll t189 b189 cq189 := yRun_p (cuts := u189) (fuel := 300) gAll_tag ruI2_RtI ruJ2_RtJ rqL_ok ⟨zsm_e _ z189_s, List.forall_mem_cons.mpr ⟨zsm_e _ z189_0, yA_n⟩⟩
theorem zw189 : zwid cq189.2.1.1 cq189.1 0 2 = true := by decide +kernel
set_option maxRecDepth 100000 in
theorem yw189 : yRows gAll LAll yt8 mt189 gHo 2 0 (zby cX7_cut) p189 b189 p189 = true := by decide +kernel
set_option maxRecDepth 100000 in
theorem m189 (l : Launch) : kMet gAll LAll vwCl rFo rZs rRs rNs rTs l yX7_cut cX7_cut 2 none 0 0 cq189 := kmet_y2 (rt := 0) (by decide +kernel) yr189 zw189 rfl yw189 LAll_ok LAll_la yt8_ok gHo_ok rfl (fun G n Qf => yA_n) rfl (fun G n Rr => yA_n) rfl
/-! 190 Linker.writeNames ()V -/
theorem st189 (l : Launch) {G : rGm} {cc : ByteArray} {nL n fr lo : Nat} {ret : Option FieldType} {Qf : kQf} (hf : 1 ≤ fr) (hlo : 21 ≤ lo) : ySite gAll LAll vwCl rFo rZs rRs rNs rTs G l cc nL RX4 ret fr lo n Qf 182 221 cq189 := ys_V 1 13431 9 rc189 lo_13431 kc9 (m189 l) kGood kw1737 kw614 kw615 kw18 kw612 hdV_X7_cut hf hlo
theorem st190 (l : Launch) {G : rGm} {cc : ByteArray} {nL n fr lo : Nat} {ret : Option FieldType} {Qf : kQf} (hf : 2 ≤ fr) (hlo : 51 ≤ lo) : ySite gAll LAll vwCl rFo rZs rRs rNs rTs G l cc nL RX4 ret fr lo n Qf 182 224 cq188 := ys_V 3 13431 9 rc188 lo_13431 kc9 (m188 l) kGood kw1738 kw77 kw78 kw18 kw75 hdV_X7_add hf hlo
def mt190 : yMt := ([(182, (221, 0)), (182, (170, 1)), (182, (88, 2)), (182, (161, 3)), (182, (84, 4)), (182, (173, 5)), (182, (224, 6)), (182, (123, 7))], ([], ([], [])))
theorem rc190 : yRc cq190 13422 0 = true := by decide +kernel
theorem yr190 : yRun gAll t190 b190 cq190 := yRun_p (cuts := u190) (fuel := 300) gAll_tag ruI2_RtI ruJ2_RtJ rqL_ok ⟨zsm_e _ z190_s, List.forall_mem_cons.mpr ⟨zsm_e _ z190_0, yA_n⟩⟩
theorem zw190 : zwid cq190.2.1.1 cq190.1 0 4 = true := by decide +kernel
set_option maxRecDepth 100000 in
theorem yw190 : yRows gAll LAll yt5 mt190 gHo 4 0 (zby cX4_writeNames) p190 b190 p190 = true := by decide +kernel
set_option maxRecDepth 100000 in
theorem m190 (l : Launch) : kMet gAll LAll vwCl rFo rZs rRs rNs rTs l yX4_writeNames cX4_writeNames 4 none 3 76 cq190 := kmet_y2 (rt := 0) (by decide +kernel) yr190 zw190 rfl yw190 LAll_ok LAll_la yt5_ok gHo_ok rfl (fun G n Qf => List.forall_mem_cons.mpr ⟨⟨cq189, rfl, st189 l (by decide) (by decide)⟩, List.forall_mem_cons.mpr ⟨⟨cq170, rfl, st176 l (by decide) (by decide)⟩, List.forall_mem_cons.mpr ⟨⟨cq169, rfl, st177 l (by decide) (by decide)⟩, List.forall_mem_cons.mpr ⟨⟨cq171, rfl, st178 l (by decide) (by decide)⟩, List.forall_mem_cons.mpr ⟨⟨cq174, rfl, st179 l (by decide) (by decide)⟩, List.forall_mem_cons.mpr ⟨⟨cq161, rfl, st168 l (by decide) (by decide)⟩, List.forall_mem_cons.mpr ⟨⟨cq188, rfl, st190 l (by decide) (by decide)⟩, List.forall_mem_cons.mpr ⟨⟨cq162, rfl, st170 l (by decide) (by decide)⟩, yA_n⟩⟩⟩⟩⟩⟩⟩⟩) rfl (fun G n Rr => yA_n) rfl
/-! 191 Names.find/START@x.units.names ([BIII)I -/
def mt191 : yMt := ([], ([], ([], [])))
theorem rc191 : yRc cq191 3 4 = true := by decide +kernel
theorem yr191 : yRun gAll t191 b191 cq191 := yRun_p (cuts := u191) (fuel := 300) gAll_tag ruI2_RtI ruJ2_RtJ rqL_ok ⟨zsm_e _ z191_s, List.forall_mem_cons.mpr ⟨zsm_e _ z191_0, List.forall_mem_cons.mpr ⟨zsm_e _ z191_1, List.forall_mem_cons.mpr ⟨zsm_e _ z191_2, yA_n⟩⟩⟩⟩
theorem zw191 : zwid cq191.2.1.1 cq191.1 0 9 = true := by decide +kernel
set_option maxRecDepth 100000 in
theorem yw191 : yRows gAll LAll yt8 mt191 gHo 9 1 (zby cX7_find) p191 b191 p191 = true := by decide +kernel
set_option maxRecDepth 100000 in
theorem m191 (l : Launch) : kMet gAll LAll vwCl rFo rZs rRs rNs rTs l yX7_find cX7_find 9 (some .int) 0 0 cq191 := kmet_y2 (rt := 1) (by decide +kernel) yr191 zw191 rfl yw191 LAll_ok LAll_la yt8_ok gHo_ok rfl (fun G n Qf => yA_n) rfl (fun G n Rr => yA_n) rfl
/-! 192 Linker.make ()Z -/
theorem hdV_X4_takeUnits : yX4_takeUnits.cls = RX4 ∧ yX4_takeUnits.cls ≠ "java/lang/invoke/MethodHandle" ∧ yX4_takeUnits.cls ≠ "java/lang/invoke/VarHandle" ∧ (parseMethodDescriptor yX4_takeUnits.desc).map (fun d => d.parameters.length) = some 0 := by decide +kernel
theorem st191 (l : Launch) {G : rGm} {cc : ByteArray} {nL n fr lo : Nat} {ret : Option FieldType} {Qf : kQf} (hf : 5 ≤ fr) (hlo : 119 ≤ lo) : ySite gAll LAll vwCl rFo rZs rRs rNs rTs G l cc nL RX4 ret fr lo n Qf 182 69 cq181 := ys_V 0 13422 6 rc181 lo_13422 kc6 (m181 l) kGood kw726 kw727 kw728 kw256 kw725 hdV_X4_takeUnits hf hlo
theorem st192 (l : Launch) {G : rGm} {cc : ByteArray} {nL n fr lo : Nat} {ret : Option FieldType} {Qf : kQf} (hf : 1 ≤ fr) (hlo : 28 ≤ lo) : ySite gAll LAll vwCl rFo rZs rRs rNs rTs G l cc nL RX4 ret fr lo n Qf 182 80 cq191 := ys_V 4 3 9 rc191 lo_3 kc9 (m191 l) kGood kw733 kw734 kw735 kw18 kw732 hdV_X7_find hf hlo
theorem hdV_X4_hasDoubles : yX4_hasDoubles.cls = RX4 ∧ yX4_hasDoubles.cls ≠ "java/lang/invoke/MethodHandle" ∧ yX4_hasDoubles.cls ≠ "java/lang/invoke/VarHandle" ∧ (parseMethodDescriptor yX4_hasDoubles.desc).map (fun d => d.parameters.length) = some 0 := by decide +kernel
theorem st193 (l : Launch) {G : rGm} {cc : ByteArray} {nL n fr lo : Nat} {ret : Option FieldType} {Qf : kQf} (hf : 4 ≤ fr) (hlo : 100 ≤ lo) : ySite gAll LAll vwCl rFo rZs rRs rNs rTs G l cc nL RX4 ret fr lo n Qf 182 92 cq175 := ys_V 0 13422 6 rc175 lo_13422 kc6 (m175 l) kGood kw1693 kw1694 kw1695 kw256 kw1665 hdV_X4_hasDoubles hf hlo
theorem hdV_X4_resolve : yX4_resolve.cls = RX4 ∧ yX4_resolve.cls ≠ "java/lang/invoke/MethodHandle" ∧ yX4_resolve.cls ≠ "java/lang/invoke/VarHandle" ∧ (parseMethodDescriptor yX4_resolve.desc).map (fun d => d.parameters.length) = some 0 := by decide +kernel
theorem st194 (l : Launch) {G : rGm} {cc : ByteArray} {nL n fr lo : Nat} {ret : Option FieldType} {Qf : kQf} (hf : 4 ≤ fr) (hlo : 98 ≤ lo) : ySite gAll LAll vwCl rFo rZs rRs rNs rTs G l cc nL RX4 ret fr lo n Qf 182 96 cq180 := ys_V 0 13422 6 rc180 lo_13422 kc6 (m180 l) kGood kw1696 kw1697 kw1698 kw256 kw1728 hdV_X4_resolve hf hlo
theorem hdV_X4_findNeeded : yX4_findNeeded.cls = RX4 ∧ yX4_findNeeded.cls ≠ "java/lang/invoke/MethodHandle" ∧ yX4_findNeeded.cls ≠ "java/lang/invoke/VarHandle" ∧ (parseMethodDescriptor yX4_findNeeded.desc).map (fun d => d.parameters.length) = some 1 := by decide +kernel
theorem st195 (l : Launch) {G : rGm} {cc : ByteArray} {nL n fr lo : Nat} {ret : Option FieldType} {Qf : kQf} (hf : 3 ≤ fr) (hlo : 72 ≤ lo) : ySite gAll LAll vwCl rFo rZs rRs rNs rTs G l cc nL RX4 ret fr lo n Qf 182 99 cq164 := ys_V 1 13422 6 rc164 lo_13422 kc6 (m164 l) kGood kw1699 kw1700 kw1701 kw256 kw1655 hdV_X4_findNeeded hf hlo
theorem hdV_X4_placeSections : yX4_placeSections.cls = RX4 ∧ yX4_placeSections.cls ≠ "java/lang/invoke/MethodHandle" ∧ yX4_placeSections.cls ≠ "java/lang/invoke/VarHandle" ∧ (parseMethodDescriptor yX4_placeSections.desc).map (fun d => d.parameters.length) = some 2 := by decide +kernel
theorem st196 (l : Launch) {G : rGm} {cc : ByteArray} {nL n fr lo : Nat} {ret : Option FieldType} {Qf : kQf} (hf : 2 ≤ fr) (hlo : 45 ≤ lo) : ySite gAll LAll vwCl rFo rZs rRs rNs rTs G l cc nL RX4 ret fr lo n Qf 182 111 cq179 := ys_V 2 13422 6 rc179 lo_13422 kc6 (m179 l) kGood kw1707 kw1708 kw1709 kw256 kw1727 hdV_X4_placeSections hf hlo
theorem hdV_X4_hasBadWait : yX4_hasBadWait.cls = RX4 ∧ yX4_hasBadWait.cls ≠ "java/lang/invoke/MethodHandle" ∧ yX4_hasBadWait.cls ≠ "java/lang/invoke/VarHandle" ∧ (parseMethodDescriptor yX4_hasBadWait.desc).map (fun d => d.parameters.length) = some 0 := by decide +kernel
theorem st197 (l : Launch) {G : rGm} {cc : ByteArray} {nL n fr lo : Nat} {ret : Option FieldType} {Qf : kQf} (hf : 4 ≤ fr) (hlo : 98 ≤ lo) : ySite gAll LAll vwCl rFo rZs rRs rNs rTs G l cc nL RX4 ret fr lo n Qf 182 114 cq167 := ys_V 0 13422 6 rc167 lo_13422 kc6 (m167 l) kGood kw1710 kw1711 kw1712 kw256 kw1661 hdV_X4_hasBadWait hf hlo
theorem hdV_X4_write : yX4_write.cls = RX4 ∧ yX4_write.cls ≠ "java/lang/invoke/MethodHandle" ∧ yX4_write.cls ≠ "java/lang/invoke/VarHandle" ∧ (parseMethodDescriptor yX4_write.desc).map (fun d => d.parameters.length) = some 0 := by decide +kernel
theorem st198 (l : Launch) {G : rGm} {cc : ByteArray} {nL n fr lo : Nat} {ret : Option FieldType} {Qf : kQf} (hf : 5 ≤ fr) (hlo : 122 ≤ lo) : ySite gAll LAll vwCl rFo rZs rRs rNs rTs G l cc nL RX4 ret fr lo n Qf 182 117 cq187 := ys_V 0 13422 6 rc187 lo_13422 kc6 (m187 l) kGood kw1713 kw1714 kw1715 kw256 kw1740 hdV_X4_write hf hlo
theorem hdV_X4_writeNames : yX4_writeNames.cls = RX4 ∧ yX4_writeNames.cls ≠ "java/lang/invoke/MethodHandle" ∧ yX4_writeNames.cls ≠ "java/lang/invoke/VarHandle" ∧ (parseMethodDescriptor yX4_writeNames.desc).map (fun d => d.parameters.length) = some 0 := by decide +kernel
theorem st199 (l : Launch) {G : rGm} {cc : ByteArray} {nL n fr lo : Nat} {ret : Option FieldType} {Qf : kQf} (hf : 4 ≤ fr) (hlo : 99 ≤ lo) : ySite gAll LAll vwCl rFo rZs rRs rNs rTs G l cc nL RX4 ret fr lo n Qf 182 120 cq190 := ys_V 0 13422 6 rc190 lo_13422 kc6 (m190 l) kGood kw1716 kw1717 kw1718 kw256 kw1736 hdV_X4_writeNames hf hlo
def mt192 : yMt := ([(182, (65, 0)), (182, (69, 1)), (182, (80, 2)), (182, (84, 3)), (182, (88, 4)), (182, (92, 5)), (182, (96, 6)), (182, (99, 7)), (184, (107, 8)), (182, (111, 9)), (182, (114, 10)), (182, (117, 11)), (182, (120, 12)), (182, (123, 13))], ([], ([], [])))
theorem rc192 : yRc cq192 13422 0 = true := by decide +kernel
theorem yr192 : yRun gAll t192 b192 cq192 := yRun_p (cuts := u192) (fuel := 300) gAll_tag ruI2_RtI ruJ2_RtJ rqL_ok ⟨zsm_e _ z192_s, List.forall_mem_cons.mpr ⟨zsm_e _ z192_0, yA_n⟩⟩
theorem zw192 : zwid cq192.2.1.1 cq192.1 0 4 = true := by decide +kernel
set_option maxRecDepth 100000 in
theorem yw192 : yRows gAll LAll yt5 mt192 gHo 4 3 (zby cX4_make) p192 b192 p192 = true := by decide +kernel
set_option maxRecDepth 100000 in
theorem m192 (l : Launch) : kMet gAll LAll vwCl rFo rZs rRs rNs rTs l yX4_make cX4_make 4 (some .boolean) 5 122 cq192 := kmet_y2 (rt := 3) (by decide +kernel) yr192 zw192 rfl yw192 LAll_ok LAll_la yt5_ok gHo_ok rfl (fun G n Qf => List.forall_mem_cons.mpr ⟨⟨cq165, rfl, st172 l (by decide) (by decide)⟩, List.forall_mem_cons.mpr ⟨⟨cq181, rfl, st191 l (by decide) (by decide)⟩, List.forall_mem_cons.mpr ⟨⟨cq191, rfl, st192 l (by decide) (by decide)⟩, List.forall_mem_cons.mpr ⟨⟨cq174, rfl, st179 l (by decide) (by decide)⟩, List.forall_mem_cons.mpr ⟨⟨cq169, rfl, st177 l (by decide) (by decide)⟩, List.forall_mem_cons.mpr ⟨⟨cq175, rfl, st193 l (by decide) (by decide)⟩, List.forall_mem_cons.mpr ⟨⟨cq180, rfl, st194 l (by decide) (by decide)⟩, List.forall_mem_cons.mpr ⟨⟨cq164, rfl, st195 l (by decide) (by decide)⟩, List.forall_mem_cons.mpr ⟨⟨cq178, rfl, st181 l (by decide) (by decide)⟩, List.forall_mem_cons.mpr ⟨⟨cq179, rfl, st196 l (by decide) (by decide)⟩, List.forall_mem_cons.mpr ⟨⟨cq167, rfl, st197 l (by decide) (by decide)⟩, List.forall_mem_cons.mpr ⟨⟨cq187, rfl, st198 l (by decide) (by decide)⟩, List.forall_mem_cons.mpr ⟨⟨cq190, rfl, st199 l (by decide) (by decide)⟩, List.forall_mem_cons.mpr ⟨⟨cq162, rfl, st170 l (by decide) (by decide)⟩, yA_n⟩⟩⟩⟩⟩⟩⟩⟩⟩⟩⟩⟩⟩⟩) rfl (fun G n Rr => yA_n) rfl
/-! 193 Machine.stopPlace (J)I -/
def mt193 : yMt := ([], ([], ([], [])))
theorem rc193 : yRc cq193 13438 1 = true := by decide +kernel
theorem yr193 : yRun gAll t193 b193 cq193 := yRun_p (cuts := u193) (fuel := 300) gAll_tag ruI2_RtI ruJ2_RtJ rqL_ok ⟨zsm_e _ z193_s, List.forall_mem_cons.mpr ⟨zsm_e _ z193_0, yA_n⟩⟩
theorem zw193 : zwid cq193.2.1.1 cq193.1 0 4 = true := by decide +kernel
set_option maxRecDepth 100000 in
theorem yw193 : yRows gAll LAll yt6 mt193 gHo 4 1 (zby cX5_stopPlace) p193 b193 p193 = true := by decide +kernel
set_option maxRecDepth 100000 in
theorem m193 (l : Launch) : kMet gAll LAll vwCl rFo rZs rRs rNs rTs l yX5_stopPlace cX5_stopPlace 4 (some .int) 0 0 cq193 := kmet_y2 (rt := 1) (by decide +kernel) yr193 zw193 rfl yw193 LAll_ok LAll_la yt6_ok gHo_ok rfl (fun G n Qf => yA_n) rfl (fun G n Rr => yA_n) rfl
/-! 194 Machine.addPlace (J)Z -/
theorem hdV_X5_stopPlace : yX5_stopPlace.cls = RX5 ∧ yX5_stopPlace.cls ≠ "java/lang/invoke/MethodHandle" ∧ yX5_stopPlace.cls ≠ "java/lang/invoke/VarHandle" ∧ (parseMethodDescriptor yX5_stopPlace.desc).map (fun d => d.parameters.length) = some 1 := by decide +kernel
theorem st200 (l : Launch) {G : rGm} {cc : ByteArray} {nL n fr lo : Nat} {ret : Option FieldType} {Qf : kQf} (hf : 1 ≤ fr) (hlo : 23 ≤ lo) : ySite gAll LAll vwCl rFo rZs rRs rNs rTs G l cc nL RX5 ret fr lo n Qf 182 94 cq193 := ys_V 1 13438 7 rc193 lo_13438 kc7 (m193 l) kGood kw779 kw780 kw781 kw263 kw778 hdV_X5_stopPlace hf hlo
def mt194 : yMt := ([(182, (94, 0))], ([], ([], [])))
theorem rc194 : yRc cq194 13438 1 = true := by decide +kernel
theorem yr194 : yRun gAll t194 b194 cq194 := yRun_z gAll_tag ruI2_RtI ruJ2_RtJ rqL_ok z194
theorem zw194 : zwid cq194.2.1.1 cq194.1 0 3 = true := by decide +kernel
set_option maxRecDepth 100000 in
theorem yw194 : yRows gAll LAll yt6 mt194 gHo 3 3 (zby cX5_addPlace) p194 b194 p194 = true := by decide +kernel
set_option maxRecDepth 100000 in
theorem m194 (l : Launch) : kMet gAll LAll vwCl rFo rZs rRs rNs rTs l yX5_addPlace cX5_addPlace 3 (some .boolean) 1 23 cq194 := kmet_y2 (rt := 3) (by decide +kernel) yr194 zw194 rfl yw194 LAll_ok LAll_la yt6_ok gHo_ok rfl (fun G n Qf => List.forall_mem_cons.mpr ⟨⟨cq193, rfl, st200 l (by decide) (by decide)⟩, yA_n⟩) rfl (fun G n Rr => yA_n) rfl
/-! 195 Machine.address ()J -/
def mt195 : yMt := ([], ([], ([], [])))
theorem rc195 : yRc cq195 13438 0 = true := by decide +kernel
theorem yr195 : yRun gAll t195 b195 cq195 := yRun_z gAll_tag ruI2_RtI ruJ2_RtJ rqL_ok z195
theorem zw195 : zwid cq195.2.1.1 cq195.1 0 3 = true := by decide +kernel
set_option maxRecDepth 100000 in
theorem yw195 : yRows gAll LAll yt6 mt195 gHo 3 2 (zby cX5_address) p195 b195 p195 = true := by decide +kernel
set_option maxRecDepth 100000 in
theorem m195 (l : Launch) : kMet gAll LAll vwCl rFo rZs rRs rNs rTs l yX5_address cX5_address 3 (some .long) 0 0 cq195 := kmet_y2 (rt := 2) (by decide +kernel) yr195 zw195 rfl yw195 LAll_ok LAll_la yt6_ok gHo_ok rfl (fun G n Qf => yA_n) rfl (fun G n Rr => yA_n) rfl
/-! 196 Machine.has (I)Z -/
def mt196 : yMt := ([], ([], ([], [])))
theorem rc196 : yRc cq196 13438 1 = true := by decide +kernel
theorem yr196 : yRun gAll t196 b196 cq196 := yRun_z gAll_tag ruI2_RtI ruJ2_RtJ rqL_ok z196
theorem zw196 : zwid cq196.2.1.1 cq196.1 0 2 = true := by decide +kernel
set_option maxRecDepth 100000 in
theorem yw196 : yRows gAll LAll yt6 mt196 gHo 2 3 (zby cX5_has) p196 b196 p196 = true := by decide +kernel
set_option maxRecDepth 100000 in
theorem m196 (l : Launch) : kMet gAll LAll vwCl rFo rZs rRs rNs rTs l yX5_has cX5_has 2 (some .boolean) 0 0 cq196 := kmet_y2 (rt := 3) (by decide +kernel) yr196 zw196 rfl yw196 LAll_ok LAll_la yt6_ok gHo_ok rfl (fun G n Qf => yA_n) rfl (fun G n Rr => yA_n) rfl
/-! 197 Machine.change (IIJ)V -/
def mt197 : yMt := ([], ([], ([], [])))
theorem rc197 : yRc cq197 13438 3 = true := by decide +kernel
theorem yr197 : yRun gAll t197 b197 cq197 := yRun_z gAll_tag ruI2_RtI ruJ2_RtJ rqL_ok z197
theorem zw197 : zwid cq197.2.1.1 cq197.1 0 5 = true := by decide +kernel
set_option maxRecDepth 100000 in
theorem yw197 : yRows gAll LAll yt6 mt197 gHo 5 0 (zby cX5_change) p197 b197 p197 = true := by decide +kernel
set_option maxRecDepth 100000 in
theorem m197 (l : Launch) : kMet gAll LAll vwCl rFo rZs rRs rNs rTs l yX5_change cX5_change 5 none 0 0 cq197 := kmet_y2 (rt := 0) (by decide +kernel) yr197 zw197 rfl yw197 LAll_ok LAll_la yt6_ok gHo_ok rfl (fun G n Qf => yA_n) rfl (fun G n Rr => yA_n) rfl
/-! 198 Machine.halt (IJ)V -/
def mt198 : yMt := ([], ([], ([], [])))
theorem rc198 : yRc cq198 13438 2 = true := by decide +kernel
theorem yr198 : yRun gAll t198 b198 cq198 := yRun_z gAll_tag ruI2_RtI ruJ2_RtJ rqL_ok z198
theorem zw198 : zwid cq198.2.1.1 cq198.1 0 4 = true := by decide +kernel
set_option maxRecDepth 100000 in
theorem yw198 : yRows gAll LAll yt6 mt198 gHo 4 0 (zby cX5_halt) p198 b198 p198 = true := by decide +kernel
set_option maxRecDepth 100000 in
theorem m198 (l : Launch) : kMet gAll LAll vwCl rFo rZs rRs rNs rTs l yX5_halt cX5_halt 4 none 0 0 cq198 := kmet_y2 (rt := 0) (by decide +kernel) yr198 zw198 rfl yw198 LAll_ok LAll_la yt6_ok gHo_ok rfl (fun G n Qf => yA_n) rfl (fun G n Rr => yA_n) rfl
