/-! METHODS, CALLEES FIRST (written by wip/p2/genmeth.py) -/
/-! 419 Model.findTwice ()V -/
theorem hdV_X13_linkFault : yX13_linkFault.cls = RX13 ∧ yX13_linkFault.cls ≠ "java/lang/invoke/MethodHandle" ∧ yX13_linkFault.cls ≠ "java/lang/invoke/VarHandle" ∧ (parseMethodDescriptor yX13_linkFault.desc).map (fun d => d.parameters.length) = some 3 := by decide +kernel
theorem st403 (l : Launch) {G : rGm} {cc : ByteArray} {nL n fr lo : Nat} {ret : Option FieldType} {Qf : kQf} (hf : 1 ≤ fr) (hlo : 23 ≤ lo) : ySite gAll LAll vwCl rFo rZs rRs rNs rTs G l cc nL RX13 ret fr lo n Qf 182 1222 cq418 := ys_V 3 13454 15 rc418 lo_13454 kc15 (m418 l) kGood kw857 kw858 kw859 kw315 kw856 hdV_X13_linkFault hf hlo
def mt419 : yMt := ([(182, (1189, 0)), (182, (1192, 1)), (182, (1222, 2))], ([], ([], [])))
theorem rc419 : yRc cq419 13454 0 = true := by decide +kernel
theorem yr419 : yRun gAll t419 b419 cq419 := yRun_p (cuts := u419) (fuel := 300) gAll_tag ruI2_RtI ruJ2_RtJ rqL_ok ⟨zsm_e _ z419_s, List.forall_mem_cons.mpr ⟨zsm_e _ z419_0, List.forall_mem_cons.mpr ⟨zsm_e _ z419_1, List.forall_mem_cons.mpr ⟨zsm_e _ z419_2, yA_n⟩⟩⟩⟩
theorem zw419 : zwid cq419.2.1.1 cq419.1 0 6 = true := by decide +kernel
set_option maxRecDepth 100000 in
theorem yw419 : yRows gAll LAll yt12 mt419 gHo 6 0 (zby cX13_findTwice) p419 b419 p419 = true := by decide +kernel
set_option maxRecDepth 100000 in
theorem m419 (l : Launch) : kMet gAll LAll vwCl rFo rZs rRs rNs rTs l yX13_findTwice cX13_findTwice 6 none 1 24 cq419 := kmet_y2 (rt := 0) (by decide +kernel) yr419 zw419 rfl yw419 LAll_ok LAll_la yt12_ok gHo_ok rfl (fun G n Qf => List.forall_mem_cons.mpr ⟨⟨cq389, rfl, st381 l (by decide) (by decide)⟩, List.forall_mem_cons.mpr ⟨⟨cq388, rfl, st382 l (by decide) (by decide)⟩, List.forall_mem_cons.mpr ⟨⟨cq418, rfl, st403 l (by decide) (by decide)⟩, yA_n⟩⟩⟩) rfl (fun G n Rr => yA_n) rfl
/-! 420 Model.linesOfSource ()I -/
def mt420 : yMt := ([(182, (652, 0))], ([], ([], [])))
theorem rc420 : yRc cq420 13454 0 = true := by decide +kernel
theorem yr420 : yRun gAll t420 b420 cq420 := yRun_p (cuts := u420) (fuel := 300) gAll_tag ruI2_RtI ruJ2_RtJ rqL_ok ⟨zsm_e _ z420_s, List.forall_mem_cons.mpr ⟨zsm_e _ z420_0, yA_n⟩⟩
theorem zw420 : zwid cq420.2.1.1 cq420.1 0 3 = true := by decide +kernel
set_option maxRecDepth 100000 in
theorem yw420 : yRows gAll LAll yt12 mt420 gHo 3 1 (zby cX13_linesOfSource) p420 b420 p420 = true := by decide +kernel
set_option maxRecDepth 100000 in
theorem m420 (l : Launch) : kMet gAll LAll vwCl rFo rZs rRs rNs rTs l yX13_linesOfSource cX13_linesOfSource 3 (some .int) 1 22 cq420 := kmet_y2 (rt := 1) (by decide +kernel) yr420 zw420 rfl yw420 LAll_ok LAll_la yt12_ok gHo_ok rfl (fun G n Qf => List.forall_mem_cons.mpr ⟨⟨cq340, rfl, st336 l (by decide) (by decide)⟩, yA_n⟩) rfl (fun G n Rr => yA_n) rfl
/-! 421 Model.isNear (I)Z -/
def mt421 : yMt := ([(182, (1137, 0))], ([], ([], [])))
theorem rc421 : yRc cq421 13454 1 = true := by decide +kernel
theorem yr421 : yRun gAll t421 b421 cq421 := yRun_z gAll_tag ruI2_RtI ruJ2_RtJ rqL_ok z421
theorem zw421 : zwid cq421.2.1.1 cq421.1 0 4 = true := by decide +kernel
set_option maxRecDepth 100000 in
theorem yw421 : yRows gAll LAll yt12 mt421 gHo 4 3 (zby cX13_isNear) p421 b421 p421 = true := by decide +kernel
set_option maxRecDepth 100000 in
theorem m421 (l : Launch) : kMet gAll LAll vwCl rFo rZs rRs rNs rTs l yX13_isNear cX13_isNear 4 (some .boolean) 1 21 cq421 := kmet_y2 (rt := 3) (by decide +kernel) yr421 zw421 rfl yw421 LAll_ok LAll_la yt12_ok gHo_ok rfl (fun G n Qf => List.forall_mem_cons.mpr ⟨⟨cq383, rfl, st378 l (by decide) (by decide)⟩, yA_n⟩) rfl (fun G n Rr => yA_n) rfl
/-! 422 Model.layOut ()V -/
def mt422 : yMt := ([], ([], ([], [])))
theorem rc422 : yRc cq422 13454 0 = true := by decide +kernel
theorem yr422 : yRun gAll t422 b422 cq422 := yRun_p (cuts := u422) (fuel := 300) gAll_tag ruI2_RtI ruJ2_RtJ rqL_ok ⟨zsm_e _ z422_s, List.forall_mem_cons.mpr ⟨zsm_e _ z422_0, yA_n⟩⟩
theorem zw422 : zwid cq422.2.1.1 cq422.1 0 9 = true := by decide +kernel
set_option maxRecDepth 100000 in
theorem yw422 : yRows gAll LAll yt12 mt422 gHo 9 0 (zby cX13_layOut) p422 b422 p422 = true := by decide +kernel
set_option maxRecDepth 100000 in
theorem m422 (l : Launch) : kMet gAll LAll vwCl rFo rZs rRs rNs rTs l yX13_layOut cX13_layOut 9 none 0 0 cq422 := kmet_y2 (rt := 0) (by decide +kernel) yr422 zw422 rfl yw422 LAll_ok LAll_la yt12_ok gHo_ok rfl (fun G n Qf => yA_n) rfl (fun G n Rr => yA_n) rfl
/-! 423 Model.shorten ()V -/
theorem hdV_X13_isNear : yX13_isNear.cls = RX13 ∧ yX13_isNear.cls ≠ "java/lang/invoke/MethodHandle" ∧ yX13_isNear.cls ≠ "java/lang/invoke/VarHandle" ∧ (parseMethodDescriptor yX13_isNear.desc).map (fun d => d.parameters.length) = some 1 := by decide +kernel
theorem st404 (l : Launch) {G : rGm} {cc : ByteArray} {nL n fr lo : Nat} {ret : Option FieldType} {Qf : kQf} (hf : 2 ≤ fr) (hlo : 44 ≤ lo) : ySite gAll LAll vwCl rFo rZs rRs rNs rTs G l cc nL RX13 ret fr lo n Qf 182 1140 cq421 := ys_V 1 13454 15 rc421 lo_13454 kc15 (m421 l) kGood kw2807 kw2808 kw2809 kw315 kw2572 hdV_X13_isNear hf hlo
theorem hdV_X13_layOut : yX13_layOut.cls = RX13 ∧ yX13_layOut.cls ≠ "java/lang/invoke/MethodHandle" ∧ yX13_layOut.cls ≠ "java/lang/invoke/VarHandle" ∧ (parseMethodDescriptor yX13_layOut.desc).map (fun d => d.parameters.length) = some 0 := by decide +kernel
theorem st405 (l : Launch) {G : rGm} {cc : ByteArray} {nL n fr lo : Nat} {ret : Option FieldType} {Qf : kQf} (hf : 1 ≤ fr) (hlo : 28 ≤ lo) : ySite gAll LAll vwCl rFo rZs rRs rNs rTs G l cc nL RX13 ret fr lo n Qf 182 1143 cq422 := ys_V 0 13454 15 rc422 lo_13454 kc15 (m422 l) kGood kw807 kw808 kw809 kw315 kw806 hdV_X13_layOut hf hlo
def mt423 : yMt := ([(182, (1140, 0)), (182, (1143, 1)), (182, (1137, 2)), (184, (1150, 3))], ([], ([], [])))
theorem rc423 : yRc cq423 13454 0 = true := by decide +kernel
theorem yr423 : yRun gAll t423 b423 cq423 := yRun_p (cuts := u423) (fuel := 300) gAll_tag ruI2_RtI ruJ2_RtJ rqL_ok ⟨zsm_e _ z423_s, List.forall_mem_cons.mpr ⟨zsm_e _ z423_0, List.forall_mem_cons.mpr ⟨zsm_e _ z423_1, List.forall_mem_cons.mpr ⟨zsm_e _ z423_2, List.forall_mem_cons.mpr ⟨zsm_e _ z423_3, List.forall_mem_cons.mpr ⟨zsm_e _ z423_4, yA_n⟩⟩⟩⟩⟩⟩
theorem zw423 : zwid cq423.2.1.1 cq423.1 0 6 = true := by decide +kernel
set_option maxRecDepth 100000 in
theorem yw423 : yRows gAll LAll yt12 mt423 gHo 6 0 (zby cX13_shorten) p423 b423 p423 = true := by decide +kernel
set_option maxRecDepth 100000 in
theorem m423 (l : Launch) : kMet gAll LAll vwCl rFo rZs rRs rNs rTs l yX13_shorten cX13_shorten 6 none 2 44 cq423 := kmet_y2 (rt := 0) (by decide +kernel) yr423 zw423 rfl yw423 LAll_ok LAll_la yt12_ok gHo_ok rfl (fun G n Qf => List.forall_mem_cons.mpr ⟨⟨cq421, rfl, st404 l (by decide) (by decide)⟩, List.forall_mem_cons.mpr ⟨⟨cq422, rfl, st405 l (by decide) (by decide)⟩, List.forall_mem_cons.mpr ⟨⟨cq383, rfl, st378 l (by decide) (by decide)⟩, List.forall_mem_cons.mpr ⟨⟨cq384, rfl, st376 l (by decide) (by decide)⟩, yA_n⟩⟩⟩⟩) rfl (fun G n Rr => yA_n) rfl
/-! 424 Model.finish ()V -/
theorem hdV_X13_linesOfSource : yX13_linesOfSource.cls = RX13 ∧ yX13_linesOfSource.cls ≠ "java/lang/invoke/MethodHandle" ∧ yX13_linesOfSource.cls ≠ "java/lang/invoke/VarHandle" ∧ (parseMethodDescriptor yX13_linesOfSource.desc).map (fun d => d.parameters.length) = some 0 := by decide +kernel
theorem st406 (l : Launch) {G : rGm} {cc : ByteArray} {nL n fr lo : Nat} {ret : Option FieldType} {Qf : kQf} (hf : 2 ≤ fr) (hlo : 44 ≤ lo) : ySite gAll LAll vwCl rFo rZs rRs rNs rTs G l cc nL RX13 ret fr lo n Qf 182 1153 cq420 := ys_V 0 13454 15 rc420 lo_13454 kc15 (m420 l) kGood kw2479 kw2480 kw2481 kw315 kw2608 hdV_X13_linesOfSource hf hlo
theorem hdV_X13_shorten : yX13_shorten.cls = RX13 ∧ yX13_shorten.cls ≠ "java/lang/invoke/MethodHandle" ∧ yX13_shorten.cls ≠ "java/lang/invoke/VarHandle" ∧ (parseMethodDescriptor yX13_shorten.desc).map (fun d => d.parameters.length) = some 0 := by decide +kernel
theorem st407 (l : Launch) {G : rGm} {cc : ByteArray} {nL n fr lo : Nat} {ret : Option FieldType} {Qf : kQf} (hf : 3 ≤ fr) (hlo : 69 ≤ lo) : ySite gAll LAll vwCl rFo rZs rRs rNs rTs G l cc nL RX13 ret fr lo n Qf 182 1156 cq423 := ys_V 0 13454 15 rc423 lo_13454 kc15 (m423 l) kGood kw813 kw814 kw815 kw315 kw812 hdV_X13_shorten hf hlo
def mt424 : yMt := ([(182, (1153, 0)), (182, (1137, 1)), (182, (1156, 2))], ([], ([], [])))
theorem rc424 : yRc cq424 13454 0 = true := by decide +kernel
theorem yr424 : yRun gAll t424 b424 cq424 := yRun_p (cuts := u424) (fuel := 300) gAll_tag ruI2_RtI ruJ2_RtJ rqL_ok ⟨zsm_e _ z424_s, List.forall_mem_cons.mpr ⟨zsm_e _ z424_0, List.forall_mem_cons.mpr ⟨zsm_e _ z424_1, List.forall_mem_cons.mpr ⟨zsm_e _ z424_2, yA_n⟩⟩⟩⟩
theorem zw424 : zwid cq424.2.1.1 cq424.1 0 4 = true := by decide +kernel
set_option maxRecDepth 100000 in
theorem yw424 : yRows gAll LAll yt12 mt424 gHo 4 0 (zby cX13_finish) p424 b424 p424 = true := by decide +kernel
set_option maxRecDepth 100000 in
theorem m424 (l : Launch) : kMet gAll LAll vwCl rFo rZs rRs rNs rTs l yX13_finish cX13_finish 4 none 3 69 cq424 := kmet_y2 (rt := 0) (by decide +kernel) yr424 zw424 rfl yw424 LAll_ok LAll_la yt12_ok gHo_ok rfl (fun G n Qf => List.forall_mem_cons.mpr ⟨⟨cq420, rfl, st406 l (by decide) (by decide)⟩, List.forall_mem_cons.mpr ⟨⟨cq383, rfl, st378 l (by decide) (by decide)⟩, List.forall_mem_cons.mpr ⟨⟨cq423, rfl, st407 l (by decide) (by decide)⟩, yA_n⟩⟩⟩) rfl (fun G n Rr => yA_n) rfl
/-! 425 Model.flags ()J -/
def mt425 : yMt := ([], ([], ([], [])))
theorem rc425 : yRc cq425 13454 0 = true := by decide +kernel
theorem yr425 : yRun gAll t425 b425 cq425 := yRun_z gAll_tag ruI2_RtI ruJ2_RtJ rqL_ok z425
theorem zw425 : zwid cq425.2.1.1 cq425.1 0 1 = true := by decide +kernel
set_option maxRecDepth 100000 in
theorem yw425 : yRows gAll LAll yt12 mt425 gHo 1 2 (zby cX13_flags) p425 b425 p425 = true := by decide +kernel
set_option maxRecDepth 100000 in
theorem m425 (l : Launch) : kMet gAll LAll vwCl rFo rZs rRs rNs rTs l yX13_flags cX13_flags 1 (some .long) 0 0 cq425 := kmet_y2 (rt := 2) (by decide +kernel) yr425 zw425 rfl yw425 LAll_ok LAll_la yt12_ok gHo_ok rfl (fun G n Qf => yA_n) rfl (fun G n Rr => yA_n) rfl
/-! 426 Model.pop ()J -/
def mt426 : yMt := ([(182, (1353, 0))], ([], ([], [])))
theorem rc426 : yRc cq426 13454 0 = true := by decide +kernel
theorem yr426 : yRun gAll t426 b426 cq426 := yRun_z gAll_tag ruI2_RtI ruJ2_RtJ rqL_ok z426
theorem zw426 : zwid cq426.2.1.1 cq426.1 0 3 = true := by decide +kernel
set_option maxRecDepth 100000 in
theorem yw426 : yRows gAll LAll yt12 mt426 gHo 3 2 (zby cX13_pop) p426 b426 p426 = true := by decide +kernel
set_option maxRecDepth 100000 in
theorem m426 (l : Launch) : kMet gAll LAll vwCl rFo rZs rRs rNs rTs l yX13_pop cX13_pop 3 (some .long) 3 76 cq426 := kmet_y2 (rt := 2) (by decide +kernel) yr426 zw426 rfl yw426 LAll_ok LAll_la yt12_ok gHo_ok rfl (fun G n Qf => List.forall_mem_cons.mpr ⟨⟨cq372, rfl, st365 l (by decide) (by decide)⟩, yA_n⟩) rfl (fun G n Rr => yA_n) rfl
/-! 427 Model.push (J)V -/
def mt427 : yMt := ([(182, (1362, 0))], ([], ([], [])))
theorem rc427 : yRc cq427 13454 1 = true := by decide +kernel
theorem yr427 : yRun gAll t427 b427 cq427 := yRun_z gAll_tag ruI2_RtI ruJ2_RtJ rqL_ok z427
theorem zw427 : zwid cq427.2.1.1 cq427.1 0 3 = true := by decide +kernel
set_option maxRecDepth 100000 in
theorem yw427 : yRows gAll LAll yt12 mt427 gHo 3 0 (zby cX13_push) p427 b427 p427 = true := by decide +kernel
set_option maxRecDepth 100000 in
theorem m427 (l : Launch) : kMet gAll LAll vwCl rFo rZs rRs rNs rTs l yX13_push cX13_push 3 none 3 75 cq427 := kmet_y2 (rt := 0) (by decide +kernel) yr427 zw427 rfl yw427 LAll_ok LAll_la yt12_ok gHo_ok rfl (fun G n Qf => List.forall_mem_cons.mpr ⟨⟨cq368, rfl, st363 l (by decide) (by decide)⟩, yA_n⟩) rfl (fun G n Rr => yA_n) rfl
/-! 428 Model.goes (I)V -/
theorem hdV_X13_push : yX13_push.cls = RX13 ∧ yX13_push.cls ≠ "java/lang/invoke/MethodHandle" ∧ yX13_push.cls ≠ "java/lang/invoke/VarHandle" ∧ (parseMethodDescriptor yX13_push.desc).map (fun d => d.parameters.length) = some 1 := by decide +kernel
theorem st408 (l : Launch) {G : rGm} {cc : ByteArray} {nL n fr lo : Nat} {ret : Option FieldType} {Qf : kQf} (hf : 4 ≤ fr) (hlo : 97 ≤ lo) : ySite gAll LAll vwCl rFo rZs rRs rNs rTs G l cc nL RX13 ret fr lo n Qf 182 1437 cq427 := ys_V 1 13454 15 rc427 lo_13454 kc15 (m427 l) kGood kw2510 kw2511 kw2512 kw315 kw2741 hdV_X13_push hf hlo
theorem hdV_X13_pop : yX13_pop.cls = RX13 ∧ yX13_pop.cls ≠ "java/lang/invoke/MethodHandle" ∧ yX13_pop.cls ≠ "java/lang/invoke/VarHandle" ∧ (parseMethodDescriptor yX13_pop.desc).map (fun d => d.parameters.length) = some 0 := by decide +kernel
theorem st409 (l : Launch) {G : rGm} {cc : ByteArray} {nL n fr lo : Nat} {ret : Option FieldType} {Qf : kQf} (hf : 4 ≤ fr) (hlo : 98 ≤ lo) : ySite gAll LAll vwCl rFo rZs rRs rNs rTs G l cc nL RX13 ret fr lo n Qf 182 1441 cq426 := ys_V 0 13454 15 rc426 lo_13454 kc15 (m426 l) kGood kw2513 kw2514 kw2515 kw315 kw2736 hdV_X13_pop hf hlo
theorem hdV_X13_addressNow : yX13_addressNow.cls = RX13 ∧ yX13_addressNow.cls ≠ "java/lang/invoke/MethodHandle" ∧ yX13_addressNow.cls ≠ "java/lang/invoke/VarHandle" ∧ (parseMethodDescriptor yX13_addressNow.desc).map (fun d => d.parameters.length) = some 0 := by decide +kernel
theorem st410 (l : Launch) {G : rGm} {cc : ByteArray} {nL n fr lo : Nat} {ret : Option FieldType} {Qf : kQf} (hf : 1 ≤ fr) (hlo : 26 ≤ lo) : ySite gAll LAll vwCl rFo rZs rRs rNs rTs G l cc nL RX13 ret fr lo n Qf 182 1406 cq358 := ys_V 0 13454 15 rc358 lo_13454 kc15 (m358 l) kGood kw2516 kw2517 kw2518 kw315 kw2180 hdV_X13_addressNow hf hlo
def mt428 : yMt := ([(182, (1340, 0)), (182, (1394, 1)), (182, (1437, 2)), (182, (1441, 3)), (182, (1406, 4)), (182, (1404, 5)), (184, (1183, 6)), (182, (1447, 7))], ([], ([], [])))
theorem rc428 : yRc cq428 13454 1 = true := by decide +kernel
theorem yr428 : yRun gAll t428 b428 cq428 := yRun_z gAll_tag ruI2_RtI ruJ2_RtJ rqL_ok z428
theorem zw428 : zwid cq428.2.1.1 cq428.1 0 4 = true := by decide +kernel
set_option maxRecDepth 100000 in
theorem yw428 : yRows gAll LAll yt12 mt428 gHo 4 0 (zby cX13_goes) p428 b428 p428 = true := by decide +kernel
set_option maxRecDepth 100000 in
theorem m428 (l : Launch) : kMet gAll LAll vwCl rFo rZs rRs rNs rTs l yX13_goes cX13_goes 4 none 4 99 cq428 := kmet_y2 (rt := 0) (by decide +kernel) yr428 zw428 rfl yw428 LAll_ok LAll_la yt12_ok gHo_ok rfl (fun G n Qf => List.forall_mem_cons.mpr ⟨⟨cq361, rfl, st360 l (by decide) (by decide)⟩, List.forall_mem_cons.mpr ⟨⟨cq373, rfl, st366 l (by decide) (by decide)⟩, List.forall_mem_cons.mpr ⟨⟨cq427, rfl, st408 l (by decide) (by decide)⟩, List.forall_mem_cons.mpr ⟨⟨cq426, rfl, st409 l (by decide) (by decide)⟩, List.forall_mem_cons.mpr ⟨⟨cq358, rfl, st410 l (by decide) (by decide)⟩, List.forall_mem_cons.mpr ⟨⟨cq369, rfl, st369 l (by decide) (by decide)⟩, List.forall_mem_cons.mpr ⟨⟨cq382, rfl, st377 l (by decide) (by decide)⟩, List.forall_mem_cons.mpr ⟨⟨cq401, rfl, st394 l (by decide) (by decide)⟩, yA_n⟩⟩⟩⟩⟩⟩⟩⟩) rfl (fun G n Rr => yA_n) rfl
/-! 429 java/lang/Math.multiplyHigh (JJ)J -/
def mt429 : yMt := ([], ([], ([], [])))
theorem yr429 : yRun gAll t429 b429 cq429 := yRun_z gAll_tag ruI2_RtI ruJ2_RtJ rqL_ok z429
theorem zw429 : zwid cq429.2.1.1 cq429.1 0 20 = true := by decide +kernel
set_option maxRecDepth 100000 in
theorem yw429 : yRows gAll LAll yt16 mt429 gHo 20 2 (zby cJ9_multiplyHigh_f86c9) p429 b429 p429 = true := by decide +kernel
set_option maxRecDepth 100000 in
theorem m429 (l : Launch) : kMet gAll LAll vwCl rFo rZs rRs rNs rTs l yJ9_multiplyHigh_f86c9 cJ9_multiplyHigh_f86c9 20 (some .long) 0 0 cq429 := kmet_y2 (rt := 2) (by decide +kernel) yr429 zw429 rfl yw429 LAll_ok LAll_la yt16_ok gHo_ok rfl (fun G n Qf => yA_n) rfl (fun G n Rr => yA_n) rfl
/-! 430 Model.highUnsigned (JJ)J -/
theorem hdS_J9_multiplyHigh_f86c9 : yJ9_multiplyHigh_f86c9.cls ≠ "java/lang/invoke/MethodHandle" ∧ yJ9_multiplyHigh_f86c9.cls ≠ "java/lang/invoke/VarHandle" ∧ (parseMethodDescriptor yJ9_multiplyHigh_f86c9.desc).map (fun d => d.parameters.length) = some 2 := by decide +kernel
theorem st411 (l : Launch) {G : rGm} {cc : ByteArray} {nL n fr lo : Nat} {ret : Option FieldType} {Qf : kQf} (hf : 1 ≤ fr) (hlo : 39 ≤ lo) : ySite gAll LAll vwCl rFo rZs rRs rNs rTs G l cc nL RX13 ret fr lo n Qf 184 1412 cq429 := ys_S 2 rfl (m429 l) kGood kw2522 kw2523 kw286 kw2524 hdS_J9_multiplyHigh_f86c9 hf hlo
def mt430 : yMt := ([(184, (1412, 0))], ([], ([], [])))
theorem yr430 : yRun gAll t430 b430 cq430 := yRun_z gAll_tag ruI2_RtI ruJ2_RtJ rqL_ok z430
theorem zw430 : zwid cq430.2.1.1 cq430.1 0 4 = true := by decide +kernel
set_option maxRecDepth 100000 in
theorem yw430 : yRows gAll LAll yt12 mt430 gHo 4 2 (zby cX13_highUnsigned) p430 b430 p430 = true := by decide +kernel
set_option maxRecDepth 100000 in
theorem m430 (l : Launch) : kMet gAll LAll vwCl rFo rZs rRs rNs rTs l yX13_highUnsigned cX13_highUnsigned 4 (some .long) 1 39 cq430 := kmet_y2 (rt := 2) (by decide +kernel) yr430 zw430 rfl yw430 LAll_ok LAll_la yt12_ok gHo_ok rfl (fun G n Qf => List.forall_mem_cons.mpr ⟨⟨cq429, rfl, st411 l (by decide) (by decide)⟩, yA_n⟩) rfl (fun G n Rr => yA_n) rfl
/-! 431 Model.used (I)I -/
def mt431 : yMt := ([], ([], ([], [])))
theorem rc431 : yRc cq431 13454 1 = true := by decide +kernel
theorem yr431 : yRun gAll t431 b431 cq431 := yRun_z gAll_tag ruI2_RtI ruJ2_RtJ rqL_ok z431
theorem zw431 : zwid cq431.2.1.1 cq431.1 0 2 = true := by decide +kernel
set_option maxRecDepth 100000 in
theorem yw431 : yRows gAll LAll yt12 mt431 gHo 2 1 (zby cX13_used) p431 b431 p431 = true := by decide +kernel
set_option maxRecDepth 100000 in
theorem m431 (l : Launch) : kMet gAll LAll vwCl rFo rZs rRs rNs rTs l yX13_used cX13_used 2 (some .int) 0 0 cq431 := kmet_y2 (rt := 1) (by decide +kernel) yr431 zw431 rfl yw431 LAll_ok LAll_la yt12_ok gHo_ok rfl (fun G n Qf => yA_n) rfl (fun G n Rr => yA_n) rfl
/-! 432 Model.input (I)I -/
theorem hdV_X13_used : yX13_used.cls = RX13 ∧ yX13_used.cls ≠ "java/lang/invoke/MethodHandle" ∧ yX13_used.cls ≠ "java/lang/invoke/VarHandle" ∧ (parseMethodDescriptor yX13_used.desc).map (fun d => d.parameters.length) = some 1 := by decide +kernel
theorem st412 (l : Launch) {G : rGm} {cc : ByteArray} {nL n fr lo : Nat} {ret : Option FieldType} {Qf : kQf} (hf : 1 ≤ fr) (hlo : 21 ≤ lo) : ySite gAll LAll vwCl rFo rZs rRs rNs rTs G l cc nL RX13 ret fr lo n Qf 182 1159 cq431 := ys_V 1 13454 15 rc431 lo_13454 kc15 (m431 l) kGood kw817 kw818 kw819 kw315 kw816 hdV_X13_used hf hlo
def mt432 : yMt := ([(182, (1159, 0))], ([], ([], [])))
theorem rc432 : yRc cq432 13454 1 = true := by decide +kernel
theorem yr432 : yRun gAll t432 b432 cq432 := yRun_p (cuts := u432) (fuel := 300) gAll_tag ruI2_RtI ruJ2_RtJ rqL_ok ⟨zsm_e _ z432_s, List.forall_mem_cons.mpr ⟨zsm_e _ z432_0, yA_n⟩⟩
theorem zw432 : zwid cq432.2.1.1 cq432.1 0 4 = true := by decide +kernel
set_option maxRecDepth 100000 in
theorem yw432 : yRows gAll LAll yt12 mt432 gHo 4 1 (zby cX13_input) p432 b432 p432 = true := by decide +kernel
set_option maxRecDepth 100000 in
theorem m432 (l : Launch) : kMet gAll LAll vwCl rFo rZs rRs rNs rTs l yX13_input cX13_input 4 (some .int) 1 21 cq432 := kmet_y2 (rt := 1) (by decide +kernel) yr432 zw432 rfl yw432 LAll_ok LAll_la yt12_ok gHo_ok rfl (fun G n Qf => List.forall_mem_cons.mpr ⟨⟨cq431, rfl, st412 l (by decide) (by decide)⟩, yA_n⟩) rfl (fun G n Rr => yA_n) rfl
/-! 433 Model.macroNamed ()I -/
def mt433 : yMt := ([], ([], ([], [])))
theorem rc433 : yRc cq433 13454 0 = true := by decide +kernel
theorem yr433 : yRun gAll t433 b433 cq433 := yRun_p (cuts := u433) (fuel := 300) gAll_tag ruI2_RtI ruJ2_RtJ rqL_ok ⟨zsm_e _ z433_s, List.forall_mem_cons.mpr ⟨zsm_e _ z433_0, List.forall_mem_cons.mpr ⟨zsm_e _ z433_1, yA_n⟩⟩⟩
theorem zw433 : zwid cq433.2.1.1 cq433.1 0 4 = true := by decide +kernel
set_option maxRecDepth 100000 in
theorem yw433 : yRows gAll LAll yt12 mt433 gHo 4 1 (zby cX13_macroNamed) p433 b433 p433 = true := by decide +kernel
set_option maxRecDepth 100000 in
theorem m433 (l : Launch) : kMet gAll LAll vwCl rFo rZs rRs rNs rTs l yX13_macroNamed cX13_macroNamed 4 (some .int) 0 0 cq433 := kmet_y2 (rt := 1) (by decide +kernel) yr433 zw433 rfl yw433 LAll_ok LAll_la yt12_ok gHo_ok rfl (fun G n Qf => yA_n) rfl (fun G n Rr => yA_n) rfl
/-! 434 Model.isMacro ()Z -/
theorem hdV_X13_macroNamed : yX13_macroNamed.cls = RX13 ∧ yX13_macroNamed.cls ≠ "java/lang/invoke/MethodHandle" ∧ yX13_macroNamed.cls ≠ "java/lang/invoke/VarHandle" ∧ (parseMethodDescriptor yX13_macroNamed.desc).map (fun d => d.parameters.length) = some 0 := by decide +kernel
theorem st413 (l : Launch) {G : rGm} {cc : ByteArray} {nL n fr lo : Nat} {ret : Option FieldType} {Qf : kQf} (hf : 1 ≤ fr) (hlo : 23 ≤ lo) : ySite gAll LAll vwCl rFo rZs rRs rNs rTs G l cc nL RX13 ret fr lo n Qf 182 760 cq433 := ys_V 0 13454 15 rc433 lo_13454 kc15 (m433 l) kGood kw2563 kw2564 kw2565 kw315 kw2629 hdV_X13_macroNamed hf hlo
def mt434 : yMt := ([(182, (760, 0))], ([], ([], [])))
theorem rc434 : yRc cq434 13454 0 = true := by decide +kernel
theorem yr434 : yRun gAll t434 b434 cq434 := yRun_z gAll_tag ruI2_RtI ruJ2_RtJ rqL_ok z434
theorem zw434 : zwid cq434.2.1.1 cq434.1 0 1 = true := by decide +kernel
set_option maxRecDepth 100000 in
theorem yw434 : yRows gAll LAll yt12 mt434 gHo 1 3 (zby cX13_isMacro) p434 b434 p434 = true := by decide +kernel
set_option maxRecDepth 100000 in
theorem m434 (l : Launch) : kMet gAll LAll vwCl rFo rZs rRs rNs rTs l yX13_isMacro cX13_isMacro 1 (some .boolean) 1 23 cq434 := kmet_y2 (rt := 3) (by decide +kernel) yr434 zw434 rfl yw434 LAll_ok LAll_la yt12_ok gHo_ok rfl (fun G n Qf => List.forall_mem_cons.mpr ⟨⟨cq433, rfl, st413 l (by decide) (by decide)⟩, yA_n⟩) rfl (fun G n Rr => yA_n) rfl
/-! 435 Model.isReserved (I)Z -/
def mt435 : yMt := ([(182, (645, 0)), (182, (766, 1))], ([], ([], [])))
theorem rc435 : yRc cq435 13454 1 = true := by decide +kernel
theorem yr435 : yRun gAll t435 b435 cq435 := yRun_z gAll_tag ruI2_RtI ruJ2_RtJ rqL_ok z435
theorem zw435 : zwid cq435.2.1.1 cq435.1 0 2 = true := by decide +kernel
set_option maxRecDepth 100000 in
theorem yw435 : yRows gAll LAll yt12 mt435 gHo 2 3 (zby cX13_isReserved) p435 b435 p435 = true := by decide +kernel
set_option maxRecDepth 100000 in
theorem m435 (l : Launch) : kMet gAll LAll vwCl rFo rZs rRs rNs rTs l yX13_isReserved cX13_isReserved 2 (some .boolean) 1 23 cq435 := kmet_y2 (rt := 3) (by decide +kernel) yr435 zw435 rfl yw435 LAll_ok LAll_la yt12_ok gHo_ok rfl (fun G n Qf => List.forall_mem_cons.mpr ⟨⟨cq299, rfl, st290 l (by decide) (by decide)⟩, List.forall_mem_cons.mpr ⟨⟨cq298, rfl, st291 l (by decide) (by decide)⟩, yA_n⟩⟩) rfl (fun G n Rr => yA_n) rfl
/-! 436 Model.takePlain (I)V -/
def mt436 : yMt := ([], ([], ([], [])))
theorem rc436 : yRc cq436 13454 1 = true := by decide +kernel
theorem yr436 : yRun gAll t436 b436 cq436 := yRun_p (cuts := u436) (fuel := 300) gAll_tag ruI2_RtI ruJ2_RtJ rqL_ok ⟨zsm_e _ z436_s, List.forall_mem_cons.mpr ⟨zsm_e _ z436_0, yA_n⟩⟩
theorem zw436 : zwid cq436.2.1.1 cq436.1 0 3 = true := by decide +kernel
set_option maxRecDepth 100000 in
theorem yw436 : yRows gAll LAll yt12 mt436 gHo 3 0 (zby cX13_takePlain) p436 b436 p436 = true := by decide +kernel
set_option maxRecDepth 100000 in
theorem m436 (l : Launch) : kMet gAll LAll vwCl rFo rZs rRs rNs rTs l yX13_takePlain cX13_takePlain 3 none 0 0 cq436 := kmet_y2 (rt := 0) (by decide +kernel) yr436 zw436 rfl yw436 LAll_ok LAll_la yt12_ok gHo_ok rfl (fun G n Qf => yA_n) rfl (fun G n Rr => yA_n) rfl
/-! 437 Model.isFree (IZZ)Z -/
theorem hdV_X13_takePlain : yX13_takePlain.cls = RX13 ∧ yX13_takePlain.cls ≠ "java/lang/invoke/MethodHandle" ∧ yX13_takePlain.cls ≠ "java/lang/invoke/VarHandle" ∧ (parseMethodDescriptor yX13_takePlain.desc).map (fun d => d.parameters.length) = some 1 := by decide +kernel
theorem st414 (l : Launch) {G : rGm} {cc : ByteArray} {nL n fr lo : Nat} {ret : Option FieldType} {Qf : kQf} (hf : 1 ≤ fr) (hlo : 22 ≤ lo) : ySite gAll LAll vwCl rFo rZs rRs rNs rTs G l cc nL RX13 ret fr lo n Qf 182 769 cq436 := ys_V 1 13454 15 rc436 lo_13454 kc15 (m436 l) kGood kw2547 kw2548 kw2549 kw315 kw2845 hdV_X13_takePlain hf hlo
theorem hdV_X13_isMacro : yX13_isMacro.cls = RX13 ∧ yX13_isMacro.cls ≠ "java/lang/invoke/MethodHandle" ∧ yX13_isMacro.cls ≠ "java/lang/invoke/VarHandle" ∧ (parseMethodDescriptor yX13_isMacro.desc).map (fun d => d.parameters.length) = some 0 := by decide +kernel
theorem st415 (l : Launch) {G : rGm} {cc : ByteArray} {nL n fr lo : Nat} {ret : Option FieldType} {Qf : kQf} (hf : 2 ≤ fr) (hlo : 43 ≤ lo) : ySite gAll LAll vwCl rFo rZs rRs rNs rTs G l cc nL RX13 ret fr lo n Qf 182 775 cq434 := ys_V 0 13454 15 rc434 lo_13454 kc15 (m434 l) kGood kw2553 kw2554 kw2555 kw315 kw2562 hdV_X13_isMacro hf hlo
theorem hdV_X13_isReserved : yX13_isReserved.cls = RX13 ∧ yX13_isReserved.cls ≠ "java/lang/invoke/MethodHandle" ∧ yX13_isReserved.cls ≠ "java/lang/invoke/VarHandle" ∧ (parseMethodDescriptor yX13_isReserved.desc).map (fun d => d.parameters.length) = some 1 := by decide +kernel
theorem st416 (l : Launch) {G : rGm} {cc : ByteArray} {nL n fr lo : Nat} {ret : Option FieldType} {Qf : kQf} (hf : 2 ≤ fr) (hlo : 44 ≤ lo) : ySite gAll LAll vwCl rFo rZs rRs rNs rTs G l cc nL RX13 ret fr lo n Qf 182 779 cq435 := ys_V 1 13454 15 rc435 lo_13454 kc15 (m435 l) kGood kw2556 kw2557 kw2558 kw315 kw2573 hdV_X13_isReserved hf hlo
def mt437 : yMt := ([(182, (769, 0)), (182, (772, 1)), (182, (748, 2)), (182, (775, 3)), (182, (779, 4))], ([], ([], [])))
theorem rc437 : yRc cq437 13454 3 = true := by decide +kernel
theorem yr437 : yRun gAll t437 b437 cq437 := yRun_z gAll_tag ruI2_RtI ruJ2_RtJ rqL_ok z437
theorem zw437 : zwid cq437.2.1.1 cq437.1 0 6 = true := by decide +kernel
set_option maxRecDepth 100000 in
theorem yw437 : yRows gAll LAll yt12 mt437 gHo 6 3 (zby cX13_isFree) p437 b437 p437 = true := by decide +kernel
set_option maxRecDepth 100000 in
theorem m437 (l : Launch) : kMet gAll LAll vwCl rFo rZs rRs rNs rTs l yX13_isFree cX13_isFree 6 (some .boolean) 2 44 cq437 := kmet_y2 (rt := 3) (by decide +kernel) yr437 zw437 rfl yw437 LAll_ok LAll_la yt12_ok gHo_ok rfl (fun G n Qf => List.forall_mem_cons.mpr ⟨⟨cq436, rfl, st414 l (by decide) (by decide)⟩, List.forall_mem_cons.mpr ⟨⟨cq285, rfl, st282 l (by decide) (by decide)⟩, List.forall_mem_cons.mpr ⟨⟨cq283, rfl, st280 l (by decide) (by decide)⟩, List.forall_mem_cons.mpr ⟨⟨cq434, rfl, st415 l (by decide) (by decide)⟩, List.forall_mem_cons.mpr ⟨⟨cq435, rfl, st416 l (by decide) (by decide)⟩, yA_n⟩⟩⟩⟩⟩) rfl (fun G n Rr => yA_n) rfl
/-! 438 Model.isPlace (J)Z -/
def mt438 : yMt := ([], ([], ([], [])))
theorem rc438 : yRc cq438 13454 1 = true := by decide +kernel
theorem yr438 : yRun gAll t438 b438 cq438 := yRun_p (cuts := u438) (fuel := 300) gAll_tag ruI2_RtI ruJ2_RtJ rqL_ok ⟨zsm_e _ z438_s, List.forall_mem_cons.mpr ⟨zsm_e _ z438_0, yA_n⟩⟩
theorem zw438 : zwid cq438.2.1.1 cq438.1 0 4 = true := by decide +kernel
set_option maxRecDepth 100000 in
theorem yw438 : yRows gAll LAll yt12 mt438 gHo 4 3 (zby cX13_isPlace) p438 b438 p438 = true := by decide +kernel
set_option maxRecDepth 100000 in
theorem m438 (l : Launch) : kMet gAll LAll vwCl rFo rZs rRs rNs rTs l yX13_isPlace cX13_isPlace 4 (some .boolean) 0 0 cq438 := kmet_y2 (rt := 3) (by decide +kernel) yr438 zw438 rfl yw438 LAll_ok LAll_la yt12_ok gHo_ok rfl (fun G n Qf => yA_n) rfl (fun G n Rr => yA_n) rfl
/-! 439 Model.isWanted (I)Z -/
def mt439 : yMt := ([(182, (1198, 0)), (182, (1195, 1)), (182, (1192, 2))], ([], ([], [])))
theorem rc439 : yRc cq439 13454 1 = true := by decide +kernel
theorem yr439 : yRun gAll t439 b439 cq439 := yRun_p (cuts := u439) (fuel := 300) gAll_tag ruI2_RtI ruJ2_RtJ rqL_ok ⟨zsm_e _ z439_s, List.forall_mem_cons.mpr ⟨zsm_e _ z439_0, List.forall_mem_cons.mpr ⟨zsm_e _ z439_1, yA_n⟩⟩⟩
theorem zw439 : zwid cq439.2.1.1 cq439.1 0 4 = true := by decide +kernel
set_option maxRecDepth 100000 in
theorem yw439 : yRows gAll LAll yt12 mt439 gHo 4 3 (zby cX13_isWanted) p439 b439 p439 = true := by decide +kernel
set_option maxRecDepth 100000 in
theorem m439 (l : Launch) : kMet gAll LAll vwCl rFo rZs rRs rNs rTs l yX13_isWanted cX13_isWanted 4 (some .boolean) 2 46 cq439 := kmet_y2 (rt := 3) (by decide +kernel) yr439 zw439 rfl yw439 LAll_ok LAll_la yt12_ok gHo_ok rfl (fun G n Qf => List.forall_mem_cons.mpr ⟨⟨cq395, rfl, st386 l (by decide) (by decide)⟩, List.forall_mem_cons.mpr ⟨⟨cq390, rfl, st383 l (by decide) (by decide)⟩, List.forall_mem_cons.mpr ⟨⟨cq388, rfl, st382 l (by decide) (by decide)⟩, yA_n⟩⟩⟩) rfl (fun G n Rr => yA_n) rfl
/-! 440 Model.labels (II)V -/
theorem hdV_X13_isFree : yX13_isFree.cls = RX13 ∧ yX13_isFree.cls ≠ "java/lang/invoke/MethodHandle" ∧ yX13_isFree.cls ≠ "java/lang/invoke/VarHandle" ∧ (parseMethodDescriptor yX13_isFree.desc).map (fun d => d.parameters.length) = some 3 := by decide +kernel
theorem st417 (l : Launch) {G : rGm} {cc : ByteArray} {nL n fr lo : Nat} {ret : Option FieldType} {Qf : kQf} (hf : 3 ≤ fr) (hlo : 69 ≤ lo) : ySite gAll LAll vwCl rFo rZs rRs rNs rTs G l cc nL RX13 ret fr lo n Qf 182 890 cq437 := ys_V 3 13454 15 rc437 lo_13454 kc15 (m437 l) kGood kw2598 kw2599 kw2600 kw315 kw2546 hdV_X13_isFree hf hlo
theorem hdV_X13_defineLabel : yX13_defineLabel.cls = RX13 ∧ yX13_defineLabel.cls ≠ "java/lang/invoke/MethodHandle" ∧ yX13_defineLabel.cls ≠ "java/lang/invoke/VarHandle" ∧ (parseMethodDescriptor yX13_defineLabel.desc).map (fun d => d.parameters.length) = some 1 := by decide +kernel
theorem st418 (l : Launch) {G : rGm} {cc : ByteArray} {nL n fr lo : Nat} {ret : Option FieldType} {Qf : kQf} (hf : 4 ≤ fr) (hlo : 90 ≤ lo) : ySite gAll LAll vwCl rFo rZs rRs rNs rTs G l cc nL RX13 ret fr lo n Qf 182 894 cq404 := ys_V 1 13454 15 rc404 lo_13454 kc15 (m404 l) kGood kw2601 kw2602 kw2603 kw315 kw2365 hdV_X13_defineLabel hf hlo
def mt440 : yMt := ([(182, (890, 0)), (182, (678, 1)), (182, (894, 2)), (182, (860, 3)), (182, (772, 4)), (182, (748, 5))], ([], ([], [])))
theorem rc440 : yRc cq440 13454 2 = true := by decide +kernel
theorem yr440 : yRun gAll t440 b440 cq440 := yRun_p (cuts := u440) (fuel := 300) gAll_tag ruI2_RtI ruJ2_RtJ rqL_ok ⟨zsm_e _ z440_s, List.forall_mem_cons.mpr ⟨zsm_e _ z440_0, List.forall_mem_cons.mpr ⟨zsm_e _ z440_1, List.forall_mem_cons.mpr ⟨zsm_e _ z440_2, yA_n⟩⟩⟩⟩
theorem zw440 : zwid cq440.2.1.1 cq440.1 0 5 = true := by decide +kernel
set_option maxRecDepth 100000 in
theorem yw440 : yRows gAll LAll yt12 mt440 gHo 5 0 (zby cX13_labels) p440 b440 p440 = true := by decide +kernel
set_option maxRecDepth 100000 in
theorem m440 (l : Launch) : kMet gAll LAll vwCl rFo rZs rRs rNs rTs l yX13_labels cX13_labels 5 none 4 90 cq440 := kmet_y2 (rt := 0) (by decide +kernel) yr440 zw440 rfl yw440 LAll_ok LAll_la yt12_ok gHo_ok rfl (fun G n Qf => List.forall_mem_cons.mpr ⟨⟨cq437, rfl, st417 l (by decide) (by decide)⟩, List.forall_mem_cons.mpr ⟨⟨cq294, rfl, st299 l (by decide) (by decide)⟩, List.forall_mem_cons.mpr ⟨⟨cq404, rfl, st418 l (by decide) (by decide)⟩, List.forall_mem_cons.mpr ⟨⟨cq330, rfl, st323 l (by decide) (by decide)⟩, List.forall_mem_cons.mpr ⟨⟨cq285, rfl, st282 l (by decide) (by decide)⟩, List.forall_mem_cons.mpr ⟨⟨cq283, rfl, st280 l (by decide) (by decide)⟩, yA_n⟩⟩⟩⟩⟩⟩) rfl (fun G n Rr => yA_n) rfl
/-! 441 Model.place ()I -/
def mt441 : yMt := ([], ([], ([], [])))
theorem rc441 : yRc cq441 13454 0 = true := by decide +kernel
theorem yr441 : yRun gAll t441 b441 cq441 := yRun_p (cuts := u441) (fuel := 300) gAll_tag ruI2_RtI ruJ2_RtJ rqL_ok ⟨zsm_e _ z441_s, List.forall_mem_cons.mpr ⟨zsm_e _ z441_0, List.forall_mem_cons.mpr ⟨zsm_e _ z441_1, yA_n⟩⟩⟩
theorem zw441 : zwid cq441.2.1.1 cq441.1 0 5 = true := by decide +kernel
set_option maxRecDepth 100000 in
theorem yw441 : yRows gAll LAll yt12 mt441 gHo 5 1 (zby cX13_place_) p441 b441 p441 = true := by decide +kernel
set_option maxRecDepth 100000 in
theorem m441 (l : Launch) : kMet gAll LAll vwCl rFo rZs rRs rNs rTs l yX13_place_ cX13_place_ 5 (some .int) 0 0 cq441 := kmet_y2 (rt := 1) (by decide +kernel) yr441 zw441 rfl yw441 LAll_ok LAll_la yt12_ok gHo_ok rfl (fun G n Qf => yA_n) rfl (fun G n Rr => yA_n) rfl
/-! 442 Model.startSymbol ()I -/
def mt442 : yMt := ([(182, (1189, 0)), (182, (745, 1))], ([], ([], [])))
theorem rc442 : yRc cq442 13454 0 = true := by decide +kernel
theorem yr442 : yRun gAll t442 b442 cq442 := yRun_p (cuts := u442) (fuel := 300) gAll_tag ruI2_RtI ruJ2_RtJ rqL_ok ⟨zsm_e _ z442_s, List.forall_mem_cons.mpr ⟨zsm_e _ z442_0, List.forall_mem_cons.mpr ⟨zsm_e _ z442_1, yA_n⟩⟩⟩
theorem zw442 : zwid cq442.2.1.1 cq442.1 0 2 = true := by decide +kernel
set_option maxRecDepth 100000 in
theorem yw442 : yRows gAll LAll yt12 mt442 gHo 2 1 (zby cX13_startSymbol) p442 b442 p442 = true := by decide +kernel
set_option maxRecDepth 100000 in
theorem m442 (l : Launch) : kMet gAll LAll vwCl rFo rZs rRs rNs rTs l yX13_startSymbol cX13_startSymbol 2 (some .int) 1 23 cq442 := kmet_y2 (rt := 1) (by decide +kernel) yr442 zw442 rfl yw442 LAll_ok LAll_la yt12_ok gHo_ok rfl (fun G n Qf => List.forall_mem_cons.mpr ⟨⟨cq389, rfl, st381 l (by decide) (by decide)⟩, List.forall_mem_cons.mpr ⟨⟨cq282, rfl, st279 l (by decide) (by decide)⟩, yA_n⟩⟩) rfl (fun G n Rr => yA_n) rfl
/-! 443 Model.takeUnits ()V -/
theorem hdV_X13_isWanted : yX13_isWanted.cls = RX13 ∧ yX13_isWanted.cls ≠ "java/lang/invoke/MethodHandle" ∧ yX13_isWanted.cls ≠ "java/lang/invoke/VarHandle" ∧ (parseMethodDescriptor yX13_isWanted.desc).map (fun d => d.parameters.length) = some 1 := by decide +kernel
theorem st419 (l : Launch) {G : rGm} {cc : ByteArray} {nL n fr lo : Nat} {ret : Option FieldType} {Qf : kQf} (hf : 3 ≤ fr) (hlo : 69 ≤ lo) : ySite gAll LAll vwCl rFo rZs rRs rNs rTs G l cc nL RX13 ret fr lo n Qf 182 1201 cq439 := ys_V 1 13454 15 rc439 lo_13454 kc15 (m439 l) kGood kw2846 kw2847 kw2848 kw315 kw2581 hdV_X13_isWanted hf hlo
def mt443 : yMt := ([(182, (1201, 0))], ([], ([], [])))
theorem rc443 : yRc cq443 13454 0 = true := by decide +kernel
theorem yr443 : yRun gAll t443 b443 cq443 := yRun_p (cuts := u443) (fuel := 300) gAll_tag ruI2_RtI ruJ2_RtJ rqL_ok ⟨zsm_e _ z443_s, List.forall_mem_cons.mpr ⟨zsm_e _ z443_0, List.forall_mem_cons.mpr ⟨zsm_e _ z443_1, List.forall_mem_cons.mpr ⟨zsm_e _ z443_2, yA_n⟩⟩⟩⟩
theorem zw443 : zwid cq443.2.1.1 cq443.1 0 3 = true := by decide +kernel
set_option maxRecDepth 100000 in
theorem yw443 : yRows gAll LAll yt12 mt443 gHo 3 0 (zby cX13_takeUnits) p443 b443 p443 = true := by decide +kernel
set_option maxRecDepth 100000 in
theorem m443 (l : Launch) : kMet gAll LAll vwCl rFo rZs rRs rNs rTs l yX13_takeUnits cX13_takeUnits 3 none 3 69 cq443 := kmet_y2 (rt := 0) (by decide +kernel) yr443 zw443 rfl yw443 LAll_ok LAll_la yt12_ok gHo_ok rfl (fun G n Qf => List.forall_mem_cons.mpr ⟨⟨cq439, rfl, st419 l (by decide) (by decide)⟩, yA_n⟩) rfl (fun G n Rr => yA_n) rfl
