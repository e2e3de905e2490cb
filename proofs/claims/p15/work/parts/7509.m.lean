/-! METHODS, CALLEES FIRST (written by wip/p2/genmeth.py) -/
/-! 225 Machine.boot/linker (LNativeWorks$Linker;)V -/
theorem hdV_X6_fill : yX6_fill.cls = RX6 ∧ yX6_fill.cls ≠ "java/lang/invoke/MethodHandle" ∧ yX6_fill.cls ≠ "java/lang/invoke/VarHandle" ∧ (parseMethodDescriptor yX6_fill.desc).map (fun d => d.parameters.length) = some 1 := by decide +kernel
theorem st226 (l : Launch) {G : rGm} {cc : ByteArray} {nL n fr lo : Nat} {ret : Option FieldType} {Qf : kQf} (hf : 3 ≤ fr) (hlo : 70 ≤ lo) : ySite gAll LAll vwCl rFo rZs rRs rNs rTs G l cc nL RX5 ret fr lo n Qf 182 40 cq223 := ys_V 1 13439 8 rc223 lo_13439 kc8 (m223 l) kGood kw1808 kw1809 kw1810 kw224 kw1981 hdV_X6_fill hf hlo
theorem hdS_J7_fill_d0a16 : yJ7_fill_d0a16.cls ≠ "java/lang/invoke/MethodHandle" ∧ yJ7_fill_d0a16.cls ≠ "java/lang/invoke/VarHandle" ∧ (parseMethodDescriptor yJ7_fill_d0a16.desc).map (fun d => d.parameters.length) = some 2 := by decide +kernel
theorem st227 (l : Launch) {G : rGm} {cc : ByteArray} {nL n fr lo : Nat} {ret : Option FieldType} {Qf : kQf} (hf : 1 ≤ fr) (hlo : 24 ≤ lo) : ySite gAll LAll vwCl rFo rZs rRs rNs rTs G l cc nL RX5 ret fr lo n Qf 184 44 cq224 := ys_S 2 rfl (m224 l) kGood kw1811 kw1812 kw13 kw1813 hdS_J7_fill_d0a16 hf hlo
def mt225 : yMt := ([(182, (40, 0)), (184, (44, 1))], ([], ([], [])))
theorem rc225 : yRc cq225 13438 1 = true := by decide +kernel
theorem yr225 : yRun gAll t225 b225 cq225 := yRun_z gAll_tag ruI2_RtI ruJ2_RtJ rqL_ok z225
theorem zw225 : zwid cq225.2.1.1 cq225.1 0 2 = true := by decide +kernel
set_option maxRecDepth 100000 in
theorem yw225 : yRows gAll LAll yt6 mt225 gHo 2 0 (zby cX5_boot) p225 b225 p225 = true := by decide +kernel
set_option maxRecDepth 100000 in
theorem m225 (l : Launch) : kMet gAll LAll vwCl rFo rZs rRs rNs rTs l yX5_boot cX5_boot 2 none 3 70 cq225 := kmet_y2 (rt := 0) (by decide +kernel) yr225 zw225 rfl yw225 LAll_ok LAll_la yt6_ok gHo_ok rfl (fun G n Qf => List.forall_mem_cons.mpr ⟨⟨cq223, rfl, st226 l (by decide) (by decide)⟩, List.forall_mem_cons.mpr ⟨⟨cq224, rfl, st227 l (by decide) (by decide)⟩, yA_n⟩⟩) rfl (fun G n Rr => yA_n) rfl
/-! 226 Machine.copyOrFill (I)V -/
def mt226 : yMt := ([(182, (189, 0)), (182, (208, 1))], ([], ([], [])))
theorem rc226 : yRc cq226 13438 1 = true := by decide +kernel
theorem yr226 : yRun gAll t226 b226 cq226 := yRun_p (cuts := u226) (fuel := 300) gAll_tag ruI2_RtI ruJ2_RtJ rqL_ok ⟨zsm_e _ z226_s, List.forall_mem_cons.mpr ⟨zsm_e _ z226_0, List.forall_mem_cons.mpr ⟨zsm_e _ z226_1, yA_n⟩⟩⟩
theorem zw226 : zwid cq226.2.1.1 cq226.1 0 6 = true := by decide +kernel
set_option maxRecDepth 100000 in
theorem yw226 : yRows gAll LAll yt6 mt226 gHo 6 0 (zby cX5_copyOrFill) p226 b226 p226 = true := by decide +kernel
set_option maxRecDepth 100000 in
theorem m226 (l : Launch) : kMet gAll LAll vwCl rFo rZs rRs rNs rTs l yX5_copyOrFill cX5_copyOrFill 6 none 2 57 cq226 := kmet_y2 (rt := 0) (by decide +kernel) yr226 zw226 rfl yw226 LAll_ok LAll_la yt6_ok gHo_ok rfl (fun G n Qf => List.forall_mem_cons.mpr ⟨⟨cq212, rfl, st212 l (by decide) (by decide)⟩, List.forall_mem_cons.mpr ⟨⟨cq201, rfl, st205 l (by decide) (by decide)⟩, yA_n⟩⟩) rfl (fun G n Rr => yA_n) rfl
/-! 227 Machine.quotient (JJJ)J -/
theorem hdS_X5_below : yX5_below.cls ≠ "java/lang/invoke/MethodHandle" ∧ yX5_below.cls ≠ "java/lang/invoke/VarHandle" ∧ (parseMethodDescriptor yX5_below.desc).map (fun d => d.parameters.length) = some 2 := by decide +kernel
theorem st228 (l : Launch) {G : rGm} {cc : ByteArray} {nL n fr lo : Nat} {ret : Option FieldType} {Qf : kQf} (hf : 1 ≤ fr) (hlo : 23 ≤ lo) : ySite gAll LAll vwCl rFo rZs rRs rNs rTs G l cc nL RX5 ret fr lo n Qf 184 286 cq215 := ys_S 2 rfl (m215 l) kGood kw1837 kw1838 kw263 kw1784 hdS_X5_below hf hlo
def mt227 : yMt := ([(184, (286, 0))], ([], ([], [])))
theorem rc227 : yRc cq227 13438 3 = true := by decide +kernel
theorem yr227 : yRun gAll t227 b227 cq227 := yRun_p (cuts := u227) (fuel := 300) gAll_tag ruI2_RtI ruJ2_RtJ rqL_ok ⟨zsm_e _ z227_s, List.forall_mem_cons.mpr ⟨zsm_e _ z227_0, yA_n⟩⟩
theorem zw227 : zwid cq227.2.1.1 cq227.1 0 11 = true := by decide +kernel
set_option maxRecDepth 100000 in
theorem yw227 : yRows gAll LAll yt6 mt227 gHo 11 2 (zby cX5_quotient) p227 b227 p227 = true := by decide +kernel
set_option maxRecDepth 100000 in
theorem m227 (l : Launch) : kMet gAll LAll vwCl rFo rZs rRs rNs rTs l yX5_quotient cX5_quotient 11 (some .long) 1 23 cq227 := kmet_y2 (rt := 2) (by decide +kernel) yr227 zw227 rfl yw227 LAll_ok LAll_la yt6_ok gHo_ok rfl (fun G n Qf => List.forall_mem_cons.mpr ⟨⟨cq215, rfl, st228 l (by decide) (by decide)⟩, yA_n⟩) rfl (fun G n Rr => yA_n) rfl
/-! 228 Machine.signed (JI)J -/
def mt228 : yMt := ([], ([], ([], [])))
theorem yr228 : yRun gAll t228 b228 cq228 := yRun_z gAll_tag ruI2_RtI ruJ2_RtJ rqL_ok z228
theorem zw228 : zwid cq228.2.1.1 cq228.1 0 3 = true := by decide +kernel
set_option maxRecDepth 100000 in
theorem yw228 : yRows gAll LAll yt6 mt228 gHo 3 2 (zby cX5_signed) p228 b228 p228 = true := by decide +kernel
set_option maxRecDepth 100000 in
theorem m228 (l : Launch) : kMet gAll LAll vwCl rFo rZs rRs rNs rTs l yX5_signed cX5_signed 3 (some .long) 0 0 cq228 := kmet_y2 (rt := 2) (by decide +kernel) yr228 zw228 rfl yw228 LAll_ok LAll_la yt6_ok gHo_ok rfl (fun G n Qf => yA_n) rfl (fun G n Rr => yA_n) rfl
/-! 229 Machine.divide (JIZ)V -/
theorem hdS_X5_signed : yX5_signed.cls ≠ "java/lang/invoke/MethodHandle" ∧ yX5_signed.cls ≠ "java/lang/invoke/VarHandle" ∧ (parseMethodDescriptor yX5_signed.desc).map (fun d => d.parameters.length) = some 2 := by decide +kernel
theorem st229 (l : Launch) {G : rGm} {cc : ByteArray} {nL n fr lo : Nat} {ret : Option FieldType} {Qf : kQf} (hf : 1 ≤ fr) (hlo : 22 ≤ lo) : ySite gAll LAll vwCl rFo rZs rRs rNs rTs G l cc nL RX5 ret fr lo n Qf 184 265 cq228 := ys_S 2 rfl (m228 l) kGood kw1833 kw1834 kw263 kw1835 hdS_X5_signed hf hlo
theorem hdV_X5_quotient : yX5_quotient.cls = RX5 ∧ yX5_quotient.cls ≠ "java/lang/invoke/MethodHandle" ∧ yX5_quotient.cls ≠ "java/lang/invoke/VarHandle" ∧ (parseMethodDescriptor yX5_quotient.desc).map (fun d => d.parameters.length) = some 3 := by decide +kernel
theorem st230 (l : Launch) {G : rGm} {cc : ByteArray} {nL n fr lo : Nat} {ret : Option FieldType} {Qf : kQf} (hf : 2 ≤ fr) (hlo : 53 ≤ lo) : ySite gAll LAll vwCl rFo rZs rRs rNs rTs G l cc nL RX5 ret fr lo n Qf 182 290 cq227 := ys_V 3 13438 7 rc227 lo_13438 kc7 (m227 l) kGood kw1842 kw1843 kw1844 kw263 kw1924 hdV_X5_quotient hf hlo
def mt229 : yMt := ([(184, (265, 0)), (184, (286, 1)), (182, (98, 2)), (182, (290, 3)), (184, (185, 4)), (184, (223, 5)), (182, (204, 6))], ([], ([], [])))
theorem rc229 : yRc cq229 13438 3 = true := by decide +kernel
theorem yr229 : yRun gAll t229 b229 cq229 := yRun_p (cuts := u229) (fuel := 300) gAll_tag ruI2_RtI ruJ2_RtJ rqL_ok ⟨zsm_e _ z229_s, List.forall_mem_cons.mpr ⟨zsm_e _ z229_0, List.forall_mem_cons.mpr ⟨zsm_e _ z229_1, List.forall_mem_cons.mpr ⟨zsm_e _ z229_2, List.forall_mem_cons.mpr ⟨zsm_e _ z229_3, List.forall_mem_cons.mpr ⟨zsm_e _ z229_4, yA_n⟩⟩⟩⟩⟩⟩
theorem zw229 : zwid cq229.2.1.1 cq229.1 0 17 = true := by decide +kernel
set_option maxRecDepth 100000 in
theorem yw229 : yRows gAll LAll yt6 mt229 gHo 17 0 (zby cX5_divide) p229 b229 p229 = true := by decide +kernel
set_option maxRecDepth 100000 in
theorem m229 (l : Launch) : kMet gAll LAll vwCl rFo rZs rRs rNs rTs l yX5_divide cX5_divide 17 none 2 53 cq229 := kmet_y2 (rt := 0) (by decide +kernel) yr229 zw229 rfl yw229 LAll_ok LAll_la yt6_ok gHo_ok rfl (fun G n Qf => List.forall_mem_cons.mpr ⟨⟨cq228, rfl, st229 l (by decide) (by decide)⟩, List.forall_mem_cons.mpr ⟨⟨cq215, rfl, st228 l (by decide) (by decide)⟩, List.forall_mem_cons.mpr ⟨⟨cq198, rfl, st202 l (by decide) (by decide)⟩, List.forall_mem_cons.mpr ⟨⟨cq227, rfl, st230 l (by decide) (by decide)⟩, List.forall_mem_cons.mpr ⟨⟨cq204, rfl, st206 l (by decide) (by decide)⟩, List.forall_mem_cons.mpr ⟨⟨cq205, rfl, st208 l (by decide) (by decide)⟩, List.forall_mem_cons.mpr ⟨⟨cq197, rfl, st204 l (by decide) (by decide)⟩, yA_n⟩⟩⟩⟩⟩⟩⟩) rfl (fun G n Rr => yA_n) rfl
/-! 230 Machine.dropPlace (J)Z -/
def mt230 : yMt := ([(182, (94, 0))], ([], ([], [])))
theorem rc230 : yRc cq230 13438 1 = true := by decide +kernel
theorem yr230 : yRun gAll t230 b230 cq230 := yRun_z gAll_tag ruI2_RtI ruJ2_RtJ rqL_ok z230
theorem zw230 : zwid cq230.2.1.1 cq230.1 0 4 = true := by decide +kernel
set_option maxRecDepth 100000 in
theorem yw230 : yRows gAll LAll yt6 mt230 gHo 4 3 (zby cX5_dropPlace) p230 b230 p230 = true := by decide +kernel
set_option maxRecDepth 100000 in
theorem m230 (l : Launch) : kMet gAll LAll vwCl rFo rZs rRs rNs rTs l yX5_dropPlace cX5_dropPlace 4 (some .boolean) 1 23 cq230 := kmet_y2 (rt := 3) (by decide +kernel) yr230 zw230 rfl yw230 LAll_ok LAll_la yt6_ok gHo_ok rfl (fun G n Qf => List.forall_mem_cons.mpr ⟨⟨cq193, rfl, st200 l (by decide) (by decide)⟩, yA_n⟩) rfl (fun G n Rr => yA_n) rfl
/-! 231 Machine.holds ()Z -/
set_option maxRecDepth 100000 in
theorem w231_0 : decode cX5_holds 9 = .ok (.tableswitch 145 0 6 #[43, 54, 63, 73, 99, 110, 119], 43) := by decide +kernel
def mt231 : yMt := ([(182, (242, 0))], ([], ([(9, (3, (0, (15, (0, [(0, 1), (1, 2), (2, 3), (3, 4), (4, 9), (5, 10), (6, 11)])))))], [])))
theorem rc231 : yRc cq231 13438 0 = true := by decide +kernel
theorem yr231 : yRun gAll t231 b231 cq231 := yRun_p (cuts := u231) (fuel := 300) gAll_tag ruI2_RtI ruJ2_RtJ rqL_ok ⟨zsm_e _ z231_s, List.forall_mem_cons.mpr ⟨zsm_e _ z231_0, yA_n⟩⟩
theorem zw231 : zwid cq231.2.1.1 cq231.1 0 2 = true := by decide +kernel
set_option maxRecDepth 100000 in
theorem yw231 : yRows gAll LAll yt6 mt231 gHo 2 3 (zby cX5_holds) p231 b231 p231 = true := by decide +kernel
set_option maxRecDepth 100000 in
theorem m231 (l : Launch) : kMet gAll LAll vwCl rFo rZs rRs rNs rTs l yX5_holds cX5_holds 2 (some .boolean) 1 21 cq231 := kmet_y2 (rt := 3) (by decide +kernel) yr231 zw231 rfl yw231 LAll_ok LAll_la yt6_ok gHo_ok rfl (fun G n Qf => List.forall_mem_cons.mpr ⟨⟨cq196, rfl, st214 l (by decide) (by decide)⟩, yA_n⟩) rfl (fun G n Rr => List.forall_mem_cons.mpr ⟨k_table _ p231 (fun b t hb ls st s h => kV_at hb h) w231_0 (by decide +kernel) (by decide +kernel) rfl rfl, yA_n⟩) rfl
/-! 232 Machine.push (J)Z -/
def mt232 : yMt := ([(182, (208, 0))], ([], ([], [])))
theorem rc232 : yRc cq232 13438 1 = true := by decide +kernel
theorem yr232 : yRun gAll t232 b232 cq232 := yRun_z gAll_tag ruI2_RtI ruJ2_RtJ rqL_ok z232
theorem zw232 : zwid cq232.2.1.1 cq232.1 0 3 = true := by decide +kernel
set_option maxRecDepth 100000 in
theorem yw232 : yRows gAll LAll yt6 mt232 gHo 3 3 (zby cX5_push) p232 b232 p232 = true := by decide +kernel
set_option maxRecDepth 100000 in
theorem m232 (l : Launch) : kMet gAll LAll vwCl rFo rZs rRs rNs rTs l yX5_push cX5_push 3 (some .boolean) 2 57 cq232 := kmet_y2 (rt := 3) (by decide +kernel) yr232 zw232 rfl yw232 LAll_ok LAll_la yt6_ok gHo_ok rfl (fun G n Qf => List.forall_mem_cons.mpr ⟨⟨cq201, rfl, st205 l (by decide) (by decide)⟩, yA_n⟩) rfl (fun G n Rr => yA_n) rfl
/-! 233 Machine.flow (I)V -/
theorem hdV_X5_push : yX5_push.cls = RX5 ∧ yX5_push.cls ≠ "java/lang/invoke/MethodHandle" ∧ yX5_push.cls ≠ "java/lang/invoke/VarHandle" ∧ (parseMethodDescriptor yX5_push.desc).map (fun d => d.parameters.length) = some 1 := by decide +kernel
theorem st231 (l : Launch) {G : rGm} {cc : ByteArray} {nL n fr lo : Nat} {ret : Option FieldType} {Qf : kQf} (hf : 3 ≤ fr) (hlo : 79 ≤ lo) : ySite gAll LAll vwCl rFo rZs rRs rNs rTs G l cc nL RX5 ret fr lo n Qf 182 301 cq232 := ys_V 1 13438 7 rc232 lo_13438 kc7 (m232 l) kGood kw1890 kw1891 kw1892 kw263 kw1921 hdV_X5_push hf hlo
theorem hdV_X5_holds : yX5_holds.cls = RX5 ∧ yX5_holds.cls ≠ "java/lang/invoke/MethodHandle" ∧ yX5_holds.cls ≠ "java/lang/invoke/VarHandle" ∧ (parseMethodDescriptor yX5_holds.desc).map (fun d => d.parameters.length) = some 0 := by decide +kernel
theorem st232 (l : Launch) {G : rGm} {cc : ByteArray} {nL n fr lo : Nat} {ret : Option FieldType} {Qf : kQf} (hf : 2 ≤ fr) (hlo : 42 ≤ lo) : ySite gAll LAll vwCl rFo rZs rRs rNs rTs G l cc nL RX5 ret fr lo n Qf 182 308 cq231 := ys_V 0 13438 7 rc231 lo_13438 kc7 (m231 l) kGood kw1894 kw1895 kw1896 kw263 kw1904 hdV_X5_holds hf hlo
set_option maxRecDepth 100000 in
theorem w233_0 : decode cX5_flow 139 = .ok (.tableswitch 140 31 35 #[33, 41, 60, 96, 118], 33) := by decide +kernel
def mt233 : yMt := ([(182, (189, 0)), (182, (238, 1)), (182, (301, 2)), (182, (308, 3)), (182, (246, 4))], ([], ([(139, (3, (0, (33, (0, [(31, 18), (32, 19), (33, 21), (34, 25), (35, 29)])))))], [])))
theorem rc233 : yRc cq233 13438 1 = true := by decide +kernel
theorem yr233 : yRun gAll t233 b233 cq233 := yRun_p (cuts := u233) (fuel := 300) gAll_tag ruI2_RtI ruJ2_RtJ rqL_ok ⟨zsm_e _ z233_s, List.forall_mem_cons.mpr ⟨zsm_e _ z233_0, yA_n⟩⟩
theorem zw233 : zwid cq233.2.1.1 cq233.1 0 5 = true := by decide +kernel
set_option maxRecDepth 100000 in
theorem yw233 : yRows gAll LAll yt6 mt233 gHo 5 0 (zby cX5_flow) p233 b233 p233 = true := by decide +kernel
set_option maxRecDepth 100000 in
theorem m233 (l : Launch) : kMet gAll LAll vwCl rFo rZs rRs rNs rTs l yX5_flow cX5_flow 5 none 3 81 cq233 := kmet_y2 (rt := 0) (by decide +kernel) yr233 zw233 rfl yw233 LAll_ok LAll_la yt6_ok gHo_ok rfl (fun G n Qf => List.forall_mem_cons.mpr ⟨⟨cq212, rfl, st212 l (by decide) (by decide)⟩, List.forall_mem_cons.mpr ⟨⟨cq213, rfl, st213 l (by decide) (by decide)⟩, List.forall_mem_cons.mpr ⟨⟨cq232, rfl, st231 l (by decide) (by decide)⟩, List.forall_mem_cons.mpr ⟨⟨cq231, rfl, st232 l (by decide) (by decide)⟩, List.forall_mem_cons.mpr ⟨⟨cq202, rfl, st215 l (by decide) (by decide)⟩, yA_n⟩⟩⟩⟩⟩) rfl (fun G n Rr => List.forall_mem_cons.mpr ⟨k_table _ p233 (fun b t hb ls st s h => kV_at hb h) w233_0 (by decide +kernel) (by decide +kernel) rfl rfl, yA_n⟩) rfl
/-! 234 Machine.move (I)V -/
theorem st233 (l : Launch) {G : rGm} {cc : ByteArray} {nL n fr lo : Nat} {ret : Option FieldType} {Qf : kQf} (hf : 1 ≤ fr) (hlo : 20 ≤ lo) : ySite gAll LAll vwCl rFo rZs rRs rNs rTs G l cc nL RX5 ret fr lo n Qf 182 261 cq160 := ys_V 0 13443 4 rc160 lo_13443 kc4 (m160 l) kGood kw1908 kw1553 kw1554 kw142 kw1588 hdV_X2_sizeOfM hf hlo
def mt234 : yMt := ([(182, (246, 0)), (182, (261, 1)), (182, (238, 2)), (184, (265, 3)), (182, (257, 4)), (182, (231, 5))], ([], ([], [])))
theorem rc234 : yRc cq234 13438 1 = true := by decide +kernel
theorem yr234 : yRun gAll t234 b234 cq234 := yRun_z gAll_tag ruI2_RtI ruJ2_RtJ rqL_ok z234
theorem zw234 : zwid cq234.2.1.1 cq234.1 0 7 = true := by decide +kernel
set_option maxRecDepth 100000 in
theorem yw234 : yRows gAll LAll yt6 mt234 gHo 7 0 (zby cX5_move) p234 b234 p234 = true := by decide +kernel
set_option maxRecDepth 100000 in
theorem m234 (l : Launch) : kMet gAll LAll vwCl rFo rZs rRs rNs rTs l yX5_move cX5_move 7 none 3 81 cq234 := kmet_y2 (rt := 0) (by decide +kernel) yr234 zw234 rfl yw234 LAll_ok LAll_la yt6_ok gHo_ok rfl (fun G n Qf => List.forall_mem_cons.mpr ⟨⟨cq202, rfl, st215 l (by decide) (by decide)⟩, List.forall_mem_cons.mpr ⟨⟨cq160, rfl, st233 l (by decide) (by decide)⟩, List.forall_mem_cons.mpr ⟨⟨cq213, rfl, st213 l (by decide) (by decide)⟩, List.forall_mem_cons.mpr ⟨⟨cq228, rfl, st229 l (by decide) (by decide)⟩, List.forall_mem_cons.mpr ⟨⟨cq209, rfl, st218 l (by decide) (by decide)⟩, List.forall_mem_cons.mpr ⟨⟨cq207, rfl, st210 l (by decide) (by decide)⟩, yA_n⟩⟩⟩⟩⟩⟩) rfl (fun G n Rr => yA_n) rfl
/-! 235 Machine.readInput ()J -/
theorem cA11_e : cA11 = cpC 26903 1 65536 (2 * ((13451 : Nat) : Int) + 1) 1 65536 186 := by rfl
theorem sA11 {own : String} {ix : Nat} (l : Launch) {G : rGm} {cc : ByteArray} {nL n fr lo : Nat} {ret : Option FieldType} {Qf : kQf} (w1 : Cond.methodLink own ix arraycopyName ∈ rTs) (hf : 1 ≤ fr) (hlo : 26 ≤ lo) : ySite gAll LAll vwCl rFo rZs rRs rNs rTs G l cc nL own ret fr lo n Qf 184 ix cA11 := by
  rw [cA11_e]
  exact ys_A (t := 2) (c1 := ((-128), 127)) (c2 := ((-128), 127)) LAll_ok (Or.inl ⟨13451, _, List.mem_of_getElem? (i := 90) rfl, rfl⟩) rfl (List.mem_of_getElem? (i := 90) rfl) rfl (by decide) (fun z h1 h2 => y_fb ⟨Int.le_trans (by decide) h1, Int.le_trans h2 (by decide)⟩) w1 kw62 kw63 kw64 hf (Nat.le_trans (by decide +kernel) hlo)
def mt235 : yMt := ([(182, (198, 0)), (182, (212, 1)), (184, (85, 2))], ([], ([], [])))
theorem rc235 : yRc cq235 13438 0 = true := by decide +kernel
theorem yr235 : yRun gAll t235 b235 cq235 := yRun_p (cuts := u235) (fuel := 300) gAll_tag ruI2_RtI ruJ2_RtJ rqL_ok ⟨zsm_e _ z235_s, List.forall_mem_cons.mpr ⟨zsm_e _ z235_0, yA_n⟩⟩
theorem zw235 : zwid cq235.2.1.1 cq235.1 0 3 = true := by decide +kernel
set_option maxRecDepth 100000 in
theorem yw235 : yRows gAll LAll yt6 mt235 gHo 3 2 (zby cX5_readInput) p235 b235 p235 = true := by decide +kernel
set_option maxRecDepth 100000 in
theorem m235 (l : Launch) : kMet gAll LAll vwCl rFo rZs rRs rNs rTs l yX5_readInput cX5_readInput 3 (some .long) 1 32 cq235 := kmet_y2 (rt := 2) (by decide +kernel) yr235 zw235 rfl yw235 LAll_ok LAll_la yt6_ok gHo_ok rfl (fun G n Qf => List.forall_mem_cons.mpr ⟨⟨cq200, rfl, st201 l (by decide) (by decide)⟩, List.forall_mem_cons.mpr ⟨⟨cq199, rfl, st203 l (by decide) (by decide)⟩, List.forall_mem_cons.mpr ⟨⟨cA11, rfl, sA11 l kw753 (by decide) (by decide)⟩, yA_n⟩⟩⟩) rfl (fun G n Rr => yA_n) rfl
/-! 236 Machine.told ()I -/
def mt236 : yMt := ([], ([], ([], [])))
theorem rc236 : yRc cq236 13438 0 = true := by decide +kernel
theorem yr236 : yRun gAll t236 b236 cq236 := yRun_z gAll_tag ruI2_RtI ruJ2_RtJ rqL_ok z236
theorem zw236 : zwid cq236.2.1.1 cq236.1 0 1 = true := by decide +kernel
set_option maxRecDepth 100000 in
theorem yw236 : yRows gAll LAll yt6 mt236 gHo 1 1 (zby cX5_told) p236 b236 p236 = true := by decide +kernel
set_option maxRecDepth 100000 in
theorem m236 (l : Launch) : kMet gAll LAll vwCl rFo rZs rRs rNs rTs l yX5_told cX5_told 1 (some .int) 0 0 cq236 := kmet_y2 (rt := 1) (by decide +kernel) yr236 zw236 rfl yw236 LAll_ok LAll_la yt6_ok gHo_ok rfl (fun G n Qf => yA_n) rfl (fun G n Rr => yA_n) rfl
/-! 237 Machine.writeOutput ()J -/
def mt237 : yMt := ([(182, (198, 0)), (182, (202, 1))], ([], ([], [])))
theorem rc237 : yRc cq237 13438 0 = true := by decide +kernel
theorem yr237 : yRun gAll t237 b237 cq237 := yRun_p (cuts := u237) (fuel := 300) gAll_tag ruI2_RtI ruJ2_RtJ rqL_ok ⟨zsm_e _ z237_s, List.forall_mem_cons.mpr ⟨zsm_e _ z237_0, yA_n⟩⟩
theorem zw237 : zwid cq237.2.1.1 cq237.1 0 3 = true := by decide +kernel
set_option maxRecDepth 100000 in
theorem yw237 : yRows gAll LAll yt6 mt237 gHo 3 2 (zby cX5_writeOutput) p237 b237 p237 = true := by decide +kernel
set_option maxRecDepth 100000 in
theorem m237 (l : Launch) : kMet gAll LAll vwCl rFo rZs rRs rNs rTs l yX5_writeOutput cX5_writeOutput 3 (some .long) 1 32 cq237 := kmet_y2 (rt := 2) (by decide +kernel) yr237 zw237 rfl yw237 LAll_ok LAll_la yt6_ok gHo_ok rfl (fun G n Qf => List.forall_mem_cons.mpr ⟨⟨cq200, rfl, st201 l (by decide) (by decide)⟩, List.forall_mem_cons.mpr ⟨⟨cq211, rfl, st211 l (by decide) (by decide)⟩, yA_n⟩⟩) rfl (fun G n Rr => yA_n) rfl
/-! 238 Memory.moveEnd (J)V -/
theorem st234 (l : Launch) {G : rGm} {cc : ByteArray} {nL n fr lo : Nat} {ret : Option FieldType} {Qf : kQf} (hf : 1 ≤ fr) (hlo : 30 ≤ lo) : ySite gAll LAll vwCl rFo rZs rRs rNs rTs G l cc nL RX6 ret fr lo n Qf 182 108 cq199 := ys_V 3 13439 8 rc199 lo_13439 kc8 (m199 l) kGood kw2005 kw1928 kw1929 kw224 kw1977 hdV_X6_change hf hlo
def mt238 : yMt := ([(182, (108, 0))], ([], ([], [])))
theorem rc238 : yRc cq238 13439 1 = true := by decide +kernel
theorem yr238 : yRun gAll t238 b238 cq238 := yRun_p (cuts := u238) (fuel := 300) gAll_tag ruI2_RtI ruJ2_RtJ rqL_ok ⟨zsm_e _ z238_s, List.forall_mem_cons.mpr ⟨zsm_e _ z238_0, yA_n⟩⟩
theorem zw238 : zwid cq238.2.1.1 cq238.1 0 5 = true := by decide +kernel
set_option maxRecDepth 100000 in
theorem yw238 : yRows gAll LAll yt7 mt238 gHo 5 0 (zby cX6_moveEnd) p238 b238 p238 = true := by decide +kernel
set_option maxRecDepth 100000 in
theorem m238 (l : Launch) : kMet gAll LAll vwCl rFo rZs rRs rNs rTs l yX6_moveEnd cX6_moveEnd 5 none 1 30 cq238 := kmet_y2 (rt := 0) (by decide +kernel) yr238 zw238 rfl yw238 LAll_ok LAll_la yt7_ok gHo_ok rfl (fun G n Qf => List.forall_mem_cons.mpr ⟨⟨cq199, rfl, st234 l (by decide) (by decide)⟩, yA_n⟩) rfl (fun G n Rr => yA_n) rfl
/-! 239 Machine.serve ()V -/
theorem hdV_X5_told : yX5_told.cls = RX5 ∧ yX5_told.cls ≠ "java/lang/invoke/MethodHandle" ∧ yX5_told.cls ≠ "java/lang/invoke/VarHandle" ∧ (parseMethodDescriptor yX5_told.desc).map (fun d => d.parameters.length) = some 0 := by decide +kernel
theorem st235 (l : Launch) {G : rGm} {cc : ByteArray} {nL n fr lo : Nat} {ret : Option FieldType} {Qf : kQf} (hf : 1 ≤ fr) (hlo : 20 ≤ lo) : ySite gAll LAll vwCl rFo rZs rRs rNs rTs G l cc nL RX5 ret fr lo n Qf 182 315 cq236 := ys_V 0 13438 7 rc236 lo_13438 kc7 (m236 l) kGood kw1931 kw769 kw770 kw263 kw767 hdV_X5_told hf hlo
theorem hdV_X5_readInput : yX5_readInput.cls = RX5 ∧ yX5_readInput.cls ≠ "java/lang/invoke/MethodHandle" ∧ yX5_readInput.cls ≠ "java/lang/invoke/VarHandle" ∧ (parseMethodDescriptor yX5_readInput.desc).map (fun d => d.parameters.length) = some 0 := by decide +kernel
theorem st236 (l : Launch) {G : rGm} {cc : ByteArray} {nL n fr lo : Nat} {ret : Option FieldType} {Qf : kQf} (hf : 2 ≤ fr) (hlo : 54 ≤ lo) : ySite gAll LAll vwCl rFo rZs rRs rNs rTs G l cc nL RX5 ret fr lo n Qf 182 318 cq235 := ys_V 0 13438 7 rc235 lo_13438 kc7 (m235 l) kGood kw1932 kw1933 kw1934 kw263 kw1925 hdV_X5_readInput hf hlo
theorem hdV_X5_writeOutput : yX5_writeOutput.cls = RX5 ∧ yX5_writeOutput.cls ≠ "java/lang/invoke/MethodHandle" ∧ yX5_writeOutput.cls ≠ "java/lang/invoke/VarHandle" ∧ (parseMethodDescriptor yX5_writeOutput.desc).map (fun d => d.parameters.length) = some 0 := by decide +kernel
theorem st237 (l : Launch) {G : rGm} {cc : ByteArray} {nL n fr lo : Nat} {ret : Option FieldType} {Qf : kQf} (hf : 2 ≤ fr) (hlo : 54 ≤ lo) : ySite gAll LAll vwCl rFo rZs rRs rNs rTs G l cc nL RX5 ret fr lo n Qf 182 321 cq237 := ys_V 0 13438 7 rc237 lo_13438 kc7 (m237 l) kGood kw1935 kw1936 kw1937 kw263 kw1975 hdV_X5_writeOutput hf hlo
theorem hdV_X6_moveEnd : yX6_moveEnd.cls = RX6 ∧ yX6_moveEnd.cls ≠ "java/lang/invoke/MethodHandle" ∧ yX6_moveEnd.cls ≠ "java/lang/invoke/VarHandle" ∧ (parseMethodDescriptor yX6_moveEnd.desc).map (fun d => d.parameters.length) = some 1 := by decide +kernel
theorem st238 (l : Launch) {G : rGm} {cc : ByteArray} {nL n fr lo : Nat} {ret : Option FieldType} {Qf : kQf} (hf : 2 ≤ fr) (hlo : 54 ≤ lo) : ySite gAll LAll vwCl rFo rZs rRs rNs rTs G l cc nL RX5 ret fr lo n Qf 182 326 cq238 := ys_V 1 13439 8 rc238 lo_13439 kc8 (m238 l) kGood kw1939 kw1940 kw1941 kw224 kw2004 hdV_X6_moveEnd hf hlo
def mt239 : yMt := ([(182, (315, 0)), (182, (318, 1)), (182, (321, 2)), (182, (326, 3)), (182, (98, 4))], ([], ([], [])))
theorem rc239 : yRc cq239 13438 0 = true := by decide +kernel
theorem yr239 : yRun gAll t239 b239 cq239 := yRun_z gAll_tag ruI2_RtI ruJ2_RtJ rqL_ok z239
theorem zw239 : zwid cq239.2.1.1 cq239.1 0 1 = true := by decide +kernel
set_option maxRecDepth 100000 in
theorem yw239 : yRows gAll LAll yt6 mt239 gHo 1 0 (zby cX5_serve) p239 b239 p239 = true := by decide +kernel
set_option maxRecDepth 100000 in
theorem m239 (l : Launch) : kMet gAll LAll vwCl rFo rZs rRs rNs rTs l yX5_serve cX5_serve 1 none 2 54 cq239 := kmet_y2 (rt := 0) (by decide +kernel) yr239 zw239 rfl yw239 LAll_ok LAll_la yt6_ok gHo_ok rfl (fun G n Qf => List.forall_mem_cons.mpr ⟨⟨cq236, rfl, st235 l (by decide) (by decide)⟩, List.forall_mem_cons.mpr ⟨⟨cq235, rfl, st236 l (by decide) (by decide)⟩, List.forall_mem_cons.mpr ⟨⟨cq237, rfl, st237 l (by decide) (by decide)⟩, List.forall_mem_cons.mpr ⟨⟨cq238, rfl, st238 l (by decide) (by decide)⟩, List.forall_mem_cons.mpr ⟨⟨cq198, rfl, st202 l (by decide) (by decide)⟩, yA_n⟩⟩⟩⟩⟩) rfl (fun G n Rr => yA_n) rfl
/-! 240 Machine.plain (I)V -/
theorem hdV_X5_serve : yX5_serve.cls = RX5 ∧ yX5_serve.cls ≠ "java/lang/invoke/MethodHandle" ∧ yX5_serve.cls ≠ "java/lang/invoke/VarHandle" ∧ (parseMethodDescriptor yX5_serve.desc).map (fun d => d.parameters.length) = some 0 := by decide +kernel
theorem st239 (l : Launch) {G : rGm} {cc : ByteArray} {nL n fr lo : Nat} {ret : Option FieldType} {Qf : kQf} (hf : 3 ≤ fr) (hlo : 74 ≤ lo) : ySite gAll LAll vwCl rFo rZs rRs rNs rTs G l cc nL RX5 ret fr lo n Qf 182 312 cq239 := ys_V 0 13438 7 rc239 lo_13438 kc7 (m239 l) kGood kw1913 kw1914 kw1915 kw263 kw1930 hdV_X5_serve hf hlo
set_option maxRecDepth 100000 in
theorem w240_0 : decode cX5_plain 1 = .ok (.tableswitch 205 37 43 #[43, 87, 205, 133, 143, 152, 159], 43) := by decide +kernel
def mt240 : yMt := ([(184, (223, 0)), (182, (204, 1)), (182, (98, 2)), (182, (312, 3)), (182, (189, 4))], ([], ([(1, (3, (0, (14, (0, [(37, 1), (38, 5), (39, 14), (40, 9), (41, 10), (42, 11), (43, 12)])))))], [])))
theorem rc240 : yRc cq240 13438 1 = true := by decide +kernel
theorem yr240 : yRun gAll t240 b240 cq240 := yRun_z gAll_tag ruI2_RtI ruJ2_RtJ rqL_ok z240
theorem zw240 : zwid cq240.2.1.1 cq240.1 0 4 = true := by decide +kernel
set_option maxRecDepth 100000 in
theorem yw240 : yRows gAll LAll yt6 mt240 gHo 4 0 (zby cX5_plain) p240 b240 p240 = true := by decide +kernel
set_option maxRecDepth 100000 in
theorem m240 (l : Launch) : kMet gAll LAll vwCl rFo rZs rRs rNs rTs l yX5_plain cX5_plain 4 none 3 74 cq240 := kmet_y2 (rt := 0) (by decide +kernel) yr240 zw240 rfl yw240 LAll_ok LAll_la yt6_ok gHo_ok rfl (fun G n Qf => List.forall_mem_cons.mpr ⟨⟨cq205, rfl, st208 l (by decide) (by decide)⟩, List.forall_mem_cons.mpr ⟨⟨cq197, rfl, st204 l (by decide) (by decide)⟩, List.forall_mem_cons.mpr ⟨⟨cq198, rfl, st202 l (by decide) (by decide)⟩, List.forall_mem_cons.mpr ⟨⟨cq239, rfl, st239 l (by decide) (by decide)⟩, List.forall_mem_cons.mpr ⟨⟨cq212, rfl, st212 l (by decide) (by decide)⟩, yA_n⟩⟩⟩⟩⟩) rfl (fun G n Rr => List.forall_mem_cons.mpr ⟨k_table _ p240 (fun b t hb ls st s h => kV_at hb h) w240_0 (by decide +kernel) (by decide +kernel) rfl rfl, yA_n⟩) rfl
/-! 241 Machine.high (JJZ)J -/
def mt241 : yMt := ([], ([], ([], [])))
theorem yr241 : yRun gAll t241 b241 cq241 := yRun_z gAll_tag ruI2_RtI ruJ2_RtJ rqL_ok z241
theorem zw241 : zwid cq241.2.1.1 cq241.1 0 19 = true := by decide +kernel
set_option maxRecDepth 100000 in
theorem yw241 : yRows gAll LAll yt6 mt241 gHo 19 2 (zby cX5_high) p241 b241 p241 = true := by decide +kernel
set_option maxRecDepth 100000 in
theorem m241 (l : Launch) : kMet gAll LAll vwCl rFo rZs rRs rNs rTs l yX5_high cX5_high 19 (some .long) 0 0 cq241 := kmet_y2 (rt := 2) (by decide +kernel) yr241 zw241 rfl yw241 LAll_ok LAll_la yt6_ok gHo_ok rfl (fun G n Qf => yA_n) rfl (fun G n Rr => yA_n) rfl
/-! 242 Machine.product ()V -/
theorem hdS_X5_high : yX5_high.cls ≠ "java/lang/invoke/MethodHandle" ∧ yX5_high.cls ≠ "java/lang/invoke/VarHandle" ∧ (parseMethodDescriptor yX5_high.desc).map (fun d => d.parameters.length) = some 3 := by decide +kernel
theorem st240 (l : Launch) {G : rGm} {cc : ByteArray} {nL n fr lo : Nat} {ret : Option FieldType} {Qf : kQf} (hf : 1 ≤ fr) (hlo : 38 ≤ lo) : ySite gAll LAll vwCl rFo rZs rRs rNs rTs G l cc nL RX5 ret fr lo n Qf 184 279 cq241 := ys_S 3 rfl (m241 l) kGood kw1910 kw1911 kw263 kw1903 hdS_X5_high hf hlo
def mt242 : yMt := ([(182, (238, 0)), (184, (265, 1)), (182, (246, 2)), (184, (279, 3)), (182, (257, 4))], ([], ([], [])))
theorem rc242 : yRc cq242 13438 0 = true := by decide +kernel
theorem yr242 : yRun gAll t242 b242 cq242 := yRun_z gAll_tag ruI2_RtI ruJ2_RtJ rqL_ok z242
theorem zw242 : zwid cq242.2.1.1 cq242.1 0 10 = true := by decide +kernel
set_option maxRecDepth 100000 in
theorem yw242 : yRows gAll LAll yt6 mt242 gHo 10 0 (zby cX5_product) p242 b242 p242 = true := by decide +kernel
set_option maxRecDepth 100000 in
theorem m242 (l : Launch) : kMet gAll LAll vwCl rFo rZs rRs rNs rTs l yX5_product cX5_product 10 none 3 81 cq242 := kmet_y2 (rt := 0) (by decide +kernel) yr242 zw242 rfl yw242 LAll_ok LAll_la yt6_ok gHo_ok rfl (fun G n Qf => List.forall_mem_cons.mpr ⟨⟨cq213, rfl, st213 l (by decide) (by decide)⟩, List.forall_mem_cons.mpr ⟨⟨cq228, rfl, st229 l (by decide) (by decide)⟩, List.forall_mem_cons.mpr ⟨⟨cq202, rfl, st215 l (by decide) (by decide)⟩, List.forall_mem_cons.mpr ⟨⟨cq241, rfl, st240 l (by decide) (by decide)⟩, List.forall_mem_cons.mpr ⟨⟨cq209, rfl, st218 l (by decide) (by decide)⟩, yA_n⟩⟩⟩⟩⟩) rfl (fun G n Rr => yA_n) rfl
/-! 243 Machine.pushOrPop (I)V -/
theorem hdV_X5_address : yX5_address.cls = RX5 ∧ yX5_address.cls ≠ "java/lang/invoke/MethodHandle" ∧ yX5_address.cls ≠ "java/lang/invoke/VarHandle" ∧ (parseMethodDescriptor yX5_address.desc).map (fun d => d.parameters.length) = some 0 := by decide +kernel
theorem st241 (l : Launch) {G : rGm} {cc : ByteArray} {nL n fr lo : Nat} {ret : Option FieldType} {Qf : kQf} (hf : 1 ≤ fr) (hlo : 22 ≤ lo) : ySite gAll LAll vwCl rFo rZs rRs rNs rTs G l cc nL RX5 ret fr lo n Qf 182 121 cq195 := ys_V 0 13438 7 rc195 lo_13438 kc7 (m195 l) kGood kw1918 kw1919 kw1920 kw263 kw1754 hdV_X5_address hf hlo
def mt243 : yMt := ([(182, (238, 0)), (182, (301, 1)), (182, (189, 2)), (182, (121, 3)), (182, (246, 4))], ([], ([], [])))
theorem rc243 : yRc cq243 13438 1 = true := by decide +kernel
theorem yr243 : yRun gAll t243 b243 cq243 := yRun_z gAll_tag ruI2_RtI ruJ2_RtJ rqL_ok z243
theorem zw243 : zwid cq243.2.1.1 cq243.1 0 4 = true := by decide +kernel
set_option maxRecDepth 100000 in
theorem yw243 : yRows gAll LAll yt6 mt243 gHo 4 0 (zby cX5_pushOrPop) p243 b243 p243 = true := by decide +kernel
set_option maxRecDepth 100000 in
theorem m243 (l : Launch) : kMet gAll LAll vwCl rFo rZs rRs rNs rTs l yX5_pushOrPop cX5_pushOrPop 4 none 3 81 cq243 := kmet_y2 (rt := 0) (by decide +kernel) yr243 zw243 rfl yw243 LAll_ok LAll_la yt6_ok gHo_ok rfl (fun G n Qf => List.forall_mem_cons.mpr ⟨⟨cq213, rfl, st213 l (by decide) (by decide)⟩, List.forall_mem_cons.mpr ⟨⟨cq232, rfl, st231 l (by decide) (by decide)⟩, List.forall_mem_cons.mpr ⟨⟨cq212, rfl, st212 l (by decide) (by decide)⟩, List.forall_mem_cons.mpr ⟨⟨cq195, rfl, st241 l (by decide) (by decide)⟩, List.forall_mem_cons.mpr ⟨⟨cq202, rfl, st215 l (by decide) (by decide)⟩, yA_n⟩⟩⟩⟩⟩) rfl (fun G n Rr => yA_n) rfl
/-! 244 Machine.shift (I)V -/
def mt244 : yMt := ([(182, (238, 0)), (184, (223, 1)), (184, (185, 2)), (182, (246, 3)), (182, (219, 4)), (182, (231, 5))], ([], ([], [])))
theorem rc244 : yRc cq244 13438 1 = true := by decide +kernel
theorem yr244 : yRun gAll t244 b244 cq244 := yRun_p (cuts := u244) (fuel := 300) gAll_tag ruI2_RtI ruJ2_RtJ rqL_ok ⟨zsm_e _ z244_s, List.forall_mem_cons.mpr ⟨zsm_e _ z244_0, List.forall_mem_cons.mpr ⟨zsm_e _ z244_1, List.forall_mem_cons.mpr ⟨zsm_e _ z244_2, yA_n⟩⟩⟩⟩
theorem zw244 : zwid cq244.2.1.1 cq244.1 0 15 = true := by decide +kernel
set_option maxRecDepth 100000 in
theorem yw244 : yRows gAll LAll yt6 mt244 gHo 15 0 (zby cX5_shift) p244 b244 p244 = true := by decide +kernel
set_option maxRecDepth 100000 in
theorem m244 (l : Launch) : kMet gAll LAll vwCl rFo rZs rRs rNs rTs l yX5_shift cX5_shift 15 none 3 81 cq244 := kmet_y2 (rt := 0) (by decide +kernel) yr244 zw244 rfl yw244 LAll_ok LAll_la yt6_ok gHo_ok rfl (fun G n Qf => List.forall_mem_cons.mpr ⟨⟨cq213, rfl, st213 l (by decide) (by decide)⟩, List.forall_mem_cons.mpr ⟨⟨cq205, rfl, st208 l (by decide) (by decide)⟩, List.forall_mem_cons.mpr ⟨⟨cq204, rfl, st206 l (by decide) (by decide)⟩, List.forall_mem_cons.mpr ⟨⟨cq202, rfl, st215 l (by decide) (by decide)⟩, List.forall_mem_cons.mpr ⟨⟨cq203, rfl, st207 l (by decide) (by decide)⟩, List.forall_mem_cons.mpr ⟨⟨cq207, rfl, st210 l (by decide) (by decide)⟩, yA_n⟩⟩⟩⟩⟩⟩) rfl (fun G n Rr => yA_n) rfl
/-! 245 Machine.multiply (JIZ)V -/
def mt245 : yMt := ([(184, (185, 0)), (184, (265, 1)), (182, (257, 2)), (184, (279, 3))], ([], ([], [])))
theorem rc245 : yRc cq245 13438 3 = true := by decide +kernel
theorem yr245 : yRun gAll t245 b245 cq245 := yRun_p (cuts := u245) (fuel := 300) gAll_tag ruI2_RtI ruJ2_RtJ rqL_ok ⟨zsm_e _ z245_s, List.forall_mem_cons.mpr ⟨zsm_e _ z245_0, yA_n⟩⟩
theorem zw245 : zwid cq245.2.1.1 cq245.1 0 15 = true := by decide +kernel
set_option maxRecDepth 100000 in
theorem yw245 : yRows gAll LAll yt6 mt245 gHo 15 0 (zby cX5_multiply) p245 b245 p245 = true := by decide +kernel
set_option maxRecDepth 100000 in
theorem m245 (l : Launch) : kMet gAll LAll vwCl rFo rZs rRs rNs rTs l yX5_multiply cX5_multiply 15 none 2 43 cq245 := kmet_y2 (rt := 0) (by decide +kernel) yr245 zw245 rfl yw245 LAll_ok LAll_la yt6_ok gHo_ok rfl (fun G n Qf => List.forall_mem_cons.mpr ⟨⟨cq204, rfl, st206 l (by decide) (by decide)⟩, List.forall_mem_cons.mpr ⟨⟨cq228, rfl, st229 l (by decide) (by decide)⟩, List.forall_mem_cons.mpr ⟨⟨cq209, rfl, st218 l (by decide) (by decide)⟩, List.forall_mem_cons.mpr ⟨⟨cq241, rfl, st240 l (by decide) (by decide)⟩, yA_n⟩⟩⟩⟩) rfl (fun G n Rr => yA_n) rfl
/-! 246 Machine.single (I)V -/
theorem hdV_X5_multiply : yX5_multiply.cls = RX5 ∧ yX5_multiply.cls ≠ "java/lang/invoke/MethodHandle" ∧ yX5_multiply.cls ≠ "java/lang/invoke/VarHandle" ∧ (parseMethodDescriptor yX5_multiply.desc).map (fun d => d.parameters.length) = some 3 := by decide +kernel
theorem st242 (l : Launch) {G : rGm} {cc : ByteArray} {nL n fr lo : Nat} {ret : Option FieldType} {Qf : kQf} (hf : 3 ≤ fr) (hlo : 77 ≤ lo) : ySite gAll LAll vwCl rFo rZs rRs rNs rTs G l cc nL RX5 ret fr lo n Qf 182 268 cq245 := ys_V 3 13438 7 rc245 lo_13438 kc7 (m245 l) kGood kw1955 kw1956 kw1957 kw263 kw1909 hdV_X5_multiply hf hlo
theorem hdV_X5_divide : yX5_divide.cls = RX5 ∧ yX5_divide.cls ≠ "java/lang/invoke/MethodHandle" ∧ yX5_divide.cls ≠ "java/lang/invoke/VarHandle" ∧ (parseMethodDescriptor yX5_divide.desc).map (fun d => d.parameters.length) = some 3 := by decide +kernel
theorem st243 (l : Launch) {G : rGm} {cc : ByteArray} {nL n fr lo : Nat} {ret : Option FieldType} {Qf : kQf} (hf : 3 ≤ fr) (hlo : 89 ≤ lo) : ySite gAll LAll vwCl rFo rZs rRs rNs rTs G l cc nL RX5 ret fr lo n Qf 182 272 cq229 := ys_V 3 13438 7 rc229 lo_13438 kc7 (m229 l) kGood kw1958 kw1959 kw1960 kw263 kw1831 hdV_X5_divide hf hlo
def mt246 : yMt := ([(182, (238, 0)), (182, (246, 1)), (182, (254, 2)), (182, (268, 3)), (182, (272, 4)), (182, (242, 5)), (182, (250, 6)), (182, (219, 7))], ([], ([], [])))
theorem rc246 : yRc cq246 13438 1 = true := by decide +kernel
theorem yr246 : yRun gAll t246 b246 cq246 := yRun_p (cuts := u246) (fuel := 300) gAll_tag ruI2_RtI ruJ2_RtJ rqL_ok ⟨zsm_e _ z246_s, List.forall_mem_cons.mpr ⟨zsm_e _ z246_0, yA_n⟩⟩
theorem zw246 : zwid cq246.2.1.1 cq246.1 0 8 = true := by decide +kernel
set_option maxRecDepth 100000 in
theorem yw246 : yRows gAll LAll yt6 mt246 gHo 8 0 (zby cX5_single) p246 b246 p246 = true := by decide +kernel
set_option maxRecDepth 100000 in
theorem m246 (l : Launch) : kMet gAll LAll vwCl rFo rZs rRs rNs rTs l yX5_single cX5_single 8 none 3 89 cq246 := kmet_y2 (rt := 0) (by decide +kernel) yr246 zw246 rfl yw246 LAll_ok LAll_la yt6_ok gHo_ok rfl (fun G n Qf => List.forall_mem_cons.mpr ⟨⟨cq213, rfl, st213 l (by decide) (by decide)⟩, List.forall_mem_cons.mpr ⟨⟨cq202, rfl, st215 l (by decide) (by decide)⟩, List.forall_mem_cons.mpr ⟨⟨cq208, rfl, st217 l (by decide) (by decide)⟩, List.forall_mem_cons.mpr ⟨⟨cq245, rfl, st242 l (by decide) (by decide)⟩, List.forall_mem_cons.mpr ⟨⟨cq229, rfl, st243 l (by decide) (by decide)⟩, List.forall_mem_cons.mpr ⟨⟨cq196, rfl, st214 l (by decide) (by decide)⟩, List.forall_mem_cons.mpr ⟨⟨cq210, rfl, st216 l (by decide) (by decide)⟩, List.forall_mem_cons.mpr ⟨⟨cq203, rfl, st207 l (by decide) (by decide)⟩, yA_n⟩⟩⟩⟩⟩⟩⟩⟩) rfl (fun G n Rr => yA_n) rfl
