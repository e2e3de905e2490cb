/-! METHODS, CALLEES FIRST (written by wip/p2/genmeth.py) -/
/-! 52 Units.placeOf/statements[] (I[I)I -/
def mt52 : yMt := ([], ([], ([], [])))
theorem rc52 : yRc cq52 2 2 = true := by decide +kernel
theorem yr52 : yRun gAll t52 b52 cq52 := yRun_z gAll_tag ruI2_RtI ruJ2_RtJ rqL_ok z52
theorem zw52 : zwid cq52.2.1.1 cq52.1 0 3 = true := by decide +kernel
set_option maxRecDepth 100000 in
theorem yw52 : yRows gAll LAll yt11 mt52 gHo 3 1 (zby cX10_placeOf) p52 b52 p52 = true := by decide +kernel
set_option maxRecDepth 100000 in
theorem m52 (l : Launch) : kMet gAll LAll vwCl rFo rZs rRs rNs rTs l yX10_placeOf cX10_placeOf 3 (some .int) 0 0 cq52 := kmet_y2 (rt := 1) (by decide +kernel) yr52 zw52 rfl yw52 LAll_ok LAll_la yt11_ok gHo_ok rfl (fun G n Qf => yA_n) rfl (fun G n Rr => yA_n) rfl
/-! 53 Units.distance/statements[] ([I)J -/
theorem hdV_X10_placeOf : yX10_placeOf.cls = RX10 ∧ yX10_placeOf.cls ≠ "java/lang/invoke/MethodHandle" ∧ yX10_placeOf.cls ≠ "java/lang/invoke/VarHandle" ∧ (parseMethodDescriptor yX10_placeOf.desc).map (fun d => d.parameters.length) = some 2 := by decide +kernel
theorem st54 (l : Launch) {G : rGm} {cc : ByteArray} {nL n fr lo : Nat} {ret : Option FieldType} {Qf : kQf} (hf : 1 ≤ fr) (hlo : 22 ≤ lo) : ySite gAll LAll vwCl rFo rZs rRs rNs rTs G l cc nL RX10 ret fr lo n Qf 182 121 cq52 := ys_V 2 2 12 rc52 lo_2 kc12 (m52 l) kGood kw2119 kw2120 kw2121 kw241 kw2133 hdV_X10_placeOf hf hlo
def mt53 : yMt := ([(182, (121, 0))], ([], ([], [])))
theorem rc53 : yRc cq53 2 1 = true := by decide +kernel
theorem yr53 : yRun gAll t53 b53 cq53 := yRun_z gAll_tag ruI2_RtI ruJ2_RtJ rqL_ok z53
theorem zw53 : zwid cq53.2.1.1 cq53.1 0 3 = true := by decide +kernel
set_option maxRecDepth 100000 in
theorem yw53 : yRows gAll LAll yt11 mt53 gHo 3 2 (zby cX10_distance) p53 b53 p53 = true := by decide +kernel
set_option maxRecDepth 100000 in
theorem m53 (l : Launch) : kMet gAll LAll vwCl rFo rZs rRs rNs rTs l yX10_distance cX10_distance 3 (some .long) 1 22 cq53 := kmet_y2 (rt := 2) (by decide +kernel) yr53 zw53 rfl yw53 LAll_ok LAll_la yt11_ok gHo_ok rfl (fun G n Qf => List.forall_mem_cons.mpr ⟨⟨cq52, rfl, st54 l (by decide) (by decide)⟩, yA_n⟩) rfl (fun G n Rr => yA_n) rfl
/-! 54 Units.lengthen ()Z -/
theorem hdV_X10_distance : yX10_distance.cls = RX10 ∧ yX10_distance.cls ≠ "java/lang/invoke/MethodHandle" ∧ yX10_distance.cls ≠ "java/lang/invoke/VarHandle" ∧ (parseMethodDescriptor yX10_distance.desc).map (fun d => d.parameters.length) = some 1 := by decide +kernel
theorem st55 (l : Launch) {G : rGm} {cc : ByteArray} {nL n fr lo : Nat} {ret : Option FieldType} {Qf : kQf} (hf : 2 ≤ fr) (hlo : 44 ≤ lo) : ySite gAll LAll vwCl rFo rZs rRs rNs rTs G l cc nL RX10 ret fr lo n Qf 182 113 cq53 := ys_V 1 2 12 rc53 lo_2 kc12 (m53 l) kGood kw2126 kw2127 kw2128 kw241 kw2118 hdV_X10_distance hf hlo
def mt54 : yMt := ([(182, (113, 0))], ([], ([], [])))
theorem rc54 : yRc cq54 2 0 = true := by decide +kernel
theorem yr54 : yRun gAll t54 b54 cq54 := yRun_p (cuts := u54) (fuel := 300) gAll_tag ruI2_RtI ruJ2_RtJ rqL_ok ⟨zsm_e _ z54_s, List.forall_mem_cons.mpr ⟨zsm_e _ z54_0, yA_n⟩⟩
theorem zw54 : zwid cq54.2.1.1 cq54.1 0 6 = true := by decide +kernel
set_option maxRecDepth 100000 in
theorem yw54 : yRows gAll LAll yt11 mt54 gHo 6 3 (zby cX10_lengthen) p54 b54 p54 = true := by decide +kernel
set_option maxRecDepth 100000 in
theorem m54 (l : Launch) : kMet gAll LAll vwCl rFo rZs rRs rNs rTs l yX10_lengthen cX10_lengthen 6 (some .boolean) 2 44 cq54 := kmet_y2 (rt := 3) (by decide +kernel) yr54 zw54 rfl yw54 LAll_ok LAll_la yt11_ok gHo_ok rfl (fun G n Qf => List.forall_mem_cons.mpr ⟨⟨cq53, rfl, st55 l (by decide) (by decide)⟩, yA_n⟩) rfl (fun G n Rr => yA_n) rfl
/-! 55 Units.mayBeShort/waits[]/statements[] ([I[I)Z -/
def mt55 : yMt := ([(182, (95, 0))], ([], ([], [])))
theorem rc55 : yRc cq55 2 2 = true := by decide +kernel
theorem yr55 : yRun gAll t55 b55 cq55 := yRun_z gAll_tag ruI2_RtI ruJ2_RtJ rqL_ok z55
theorem zw55 : zwid cq55.2.1.1 cq55.1 0 4 = true := by decide +kernel
set_option maxRecDepth 100000 in
theorem yw55 : yRows gAll LAll yt11 mt55 gHo 4 3 (zby cX10_mayBeShort) p55 b55 p55 = true := by decide +kernel
set_option maxRecDepth 100000 in
theorem m55 (l : Launch) : kMet gAll LAll vwCl rFo rZs rRs rNs rTs l yX10_mayBeShort cX10_mayBeShort 4 (some .boolean) 1 22 cq55 := kmet_y2 (rt := 3) (by decide +kernel) yr55 zw55 rfl yw55 LAll_ok LAll_la yt11_ok gHo_ok rfl (fun G n Qf => List.forall_mem_cons.mpr ⟨⟨cq49, rfl, st53 l (by decide) (by decide)⟩, yA_n⟩) rfl (fun G n Rr => yA_n) rfl
/-! 56 java/util/Arrays.fill/ends ([II)V -/
def mt56 : yMt := ([], ([], ([], [])))
theorem yr56 : yRun gAll t56 b56 cq56 := yRun_p (cuts := u56) (fuel := 300) gAll_tag ruI2_RtI ruJ2_RtJ rqL_ok ⟨zsm_e _ z56_s, List.forall_mem_cons.mpr ⟨zsm_e _ z56_0, yA_n⟩⟩
theorem zw56 : zwid cq56.2.1.1 cq56.1 0 4 = true := by decide +kernel
set_option maxRecDepth 100000 in
theorem yw56 : yRows gAll LAll yt17 mt56 gHo 4 0 (zby cJ7_fill_53178) p56 b56 p56 = true := by decide +kernel
set_option maxRecDepth 100000 in
theorem m56 (l : Launch) : kMet gAll LAll vwCl rFo rZs rRs rNs rTs l yJ7_fill_53178 cJ7_fill_53178 4 none 0 0 cq56 := kmet_y2 (rt := 0) (by decide +kernel) yr56 zw56 rfl yw56 LAll_ok LAll_la yt17_ok gHo_ok rfl (fun G n Qf => yA_n) rfl (fun G n Rr => yA_n) rfl
/-! 57 Units.place ()V -/
theorem st56 (l : Launch) {G : rGm} {cc : ByteArray} {nL n fr lo : Nat} {ret : Option FieldType} {Qf : kQf} (hf : 1 ≤ fr) (hlo : 23 ≤ lo) : ySite gAll LAll vwCl rFo rZs rRs rNs rTs G l cc nL RX10 ret fr lo n Qf 184 77 cq56 := ys_S 2 rfl (m56 l) kGood kw605 kw12 kw13 kw10 hdS_J7_fill_53178 hf hlo
def mt57 : yMt := ([(184, (77, 0))], ([], ([], [])))
theorem rc57 : yRc cq57 2 0 = true := by decide +kernel
theorem yr57 : yRun gAll t57 b57 cq57 := yRun_p (cuts := u57) (fuel := 300) gAll_tag ruI2_RtI ruJ2_RtJ rqL_ok ⟨zsm_e _ z57_s, List.forall_mem_cons.mpr ⟨zsm_e _ z57_0, List.forall_mem_cons.mpr ⟨zsm_e _ z57_1, yA_n⟩⟩⟩
theorem zw57 : zwid cq57.2.1.1 cq57.1 0 5 = true := by decide +kernel
set_option maxRecDepth 100000 in
theorem yw57 : yRows gAll LAll yt11 mt57 gHo 5 0 (zby cX10_place) p57 b57 p57 = true := by decide +kernel
set_option maxRecDepth 100000 in
theorem m57 (l : Launch) : kMet gAll LAll vwCl rFo rZs rRs rNs rTs l yX10_place cX10_place 5 none 1 23 cq57 := kmet_y2 (rt := 0) (by decide +kernel) yr57 zw57 rfl yw57 LAll_ok LAll_la yt11_ok gHo_ok rfl (fun G n Qf => List.forall_mem_cons.mpr ⟨⟨cq56, rfl, st56 l (by decide) (by decide)⟩, yA_n⟩) rfl (fun G n Rr => yA_n) rfl
/-! 58 Units.settleWaits ()V -/
def mt58 : yMt := ([(182, (121, 0))], ([], ([], [])))
theorem rc58 : yRc cq58 2 0 = true := by decide +kernel
theorem yr58 : yRun gAll t58 b58 cq58 := yRun_p (cuts := u58) (fuel := 300) gAll_tag ruI2_RtI ruJ2_RtJ rqL_ok ⟨zsm_e _ z58_s, List.forall_mem_cons.mpr ⟨zsm_e _ z58_0, yA_n⟩⟩
theorem zw58 : zwid cq58.2.1.1 cq58.1 0 4 = true := by decide +kernel
set_option maxRecDepth 100000 in
theorem yw58 : yRows gAll LAll yt11 mt58 gHo 4 0 (zby cX10_settleWaits) p58 b58 p58 = true := by decide +kernel
set_option maxRecDepth 100000 in
theorem m58 (l : Launch) : kMet gAll LAll vwCl rFo rZs rRs rNs rTs l yX10_settleWaits cX10_settleWaits 4 none 1 22 cq58 := kmet_y2 (rt := 0) (by decide +kernel) yr58 zw58 rfl yw58 LAll_ok LAll_la yt11_ok gHo_ok rfl (fun G n Qf => List.forall_mem_cons.mpr ⟨⟨cq52, rfl, st54 l (by decide) (by decide)⟩, yA_n⟩) rfl (fun G n Rr => yA_n) rfl
/-! 59 Units.layOut ()V -/
theorem hdV_X10_mayBeShort : yX10_mayBeShort.cls = RX10 ∧ yX10_mayBeShort.cls ≠ "java/lang/invoke/MethodHandle" ∧ yX10_mayBeShort.cls ≠ "java/lang/invoke/VarHandle" ∧ (parseMethodDescriptor yX10_mayBeShort.desc).map (fun d => d.parameters.length) = some 2 := by decide +kernel
theorem st57 (l : Launch) {G : rGm} {cc : ByteArray} {nL n fr lo : Nat} {ret : Option FieldType} {Qf : kQf} (hf : 2 ≤ fr) (hlo : 45 ≤ lo) : ySite gAll LAll vwCl rFo rZs rRs rNs rTs G l cc nL RX10 ret fr lo n Qf 182 99 cq55 := ys_V 2 2 12 rc55 lo_2 kc12 (m55 l) kGood kw2123 kw2124 kw2125 kw241 kw2131 hdV_X10_mayBeShort hf hlo
theorem hdV_X10_place : yX10_place.cls = RX10 ∧ yX10_place.cls ≠ "java/lang/invoke/MethodHandle" ∧ yX10_place.cls ≠ "java/lang/invoke/VarHandle" ∧ (parseMethodDescriptor yX10_place.desc).map (fun d => d.parameters.length) = some 0 := by decide +kernel
theorem st58 (l : Launch) {G : rGm} {cc : ByteArray} {nL n fr lo : Nat} {ret : Option FieldType} {Qf : kQf} (hf : 2 ≤ fr) (hlo : 47 ≤ lo) : ySite gAll LAll vwCl rFo rZs rRs rNs rTs G l cc nL RX10 ret fr lo n Qf 182 103 cq57 := ys_V 0 2 12 rc57 lo_2 kc12 (m57 l) kGood kw633 kw634 kw635 kw241 kw632 hdV_X10_place hf hlo
theorem hdV_X10_lengthen : yX10_lengthen.cls = RX10 ∧ yX10_lengthen.cls ≠ "java/lang/invoke/MethodHandle" ∧ yX10_lengthen.cls ≠ "java/lang/invoke/VarHandle" ∧ (parseMethodDescriptor yX10_lengthen.desc).map (fun d => d.parameters.length) = some 0 := by decide +kernel
theorem st59 (l : Launch) {G : rGm} {cc : ByteArray} {nL n fr lo : Nat} {ret : Option FieldType} {Qf : kQf} (hf : 3 ≤ fr) (hlo : 69 ≤ lo) : ySite gAll LAll vwCl rFo rZs rRs rNs rTs G l cc nL RX10 ret fr lo n Qf 182 106 cq54 := ys_V 0 2 12 rc54 lo_2 kc12 (m54 l) kGood kw637 kw638 kw639 kw241 kw636 hdV_X10_lengthen hf hlo
theorem hdV_X10_settleWaits : yX10_settleWaits.cls = RX10 ∧ yX10_settleWaits.cls ≠ "java/lang/invoke/MethodHandle" ∧ yX10_settleWaits.cls ≠ "java/lang/invoke/VarHandle" ∧ (parseMethodDescriptor yX10_settleWaits.desc).map (fun d => d.parameters.length) = some 0 := by decide +kernel
theorem st60 (l : Launch) {G : rGm} {cc : ByteArray} {nL n fr lo : Nat} {ret : Option FieldType} {Qf : kQf} (hf : 2 ≤ fr) (hlo : 45 ≤ lo) : ySite gAll LAll vwCl rFo rZs rRs rNs rTs G l cc nL RX10 ret fr lo n Qf 182 110 cq58 := ys_V 0 2 12 rc58 lo_2 kc12 (m58 l) kGood kw641 kw642 kw643 kw241 kw640 hdV_X10_settleWaits hf hlo
def mt59 : yMt := ([(182, (99, 0)), (182, (103, 1)), (182, (106, 2)), (182, (110, 3))], ([], ([], [])))
theorem rc59 : yRc cq59 2 0 = true := by decide +kernel
theorem yr59 : yRun gAll t59 b59 cq59 := yRun_p (cuts := u59) (fuel := 300) gAll_tag ruI2_RtI ruJ2_RtJ rqL_ok ⟨zsm_e _ z59_s, List.forall_mem_cons.mpr ⟨zsm_e _ z59_0, List.forall_mem_cons.mpr ⟨zsm_e _ z59_1, yA_n⟩⟩⟩
theorem zw59 : zwid cq59.2.1.1 cq59.1 0 3 = true := by decide +kernel
set_option maxRecDepth 100000 in
theorem yw59 : yRows gAll LAll yt11 mt59 gHo 3 0 (zby cX10_layOut) p59 b59 p59 = true := by decide +kernel
set_option maxRecDepth 100000 in
theorem m59 (l : Launch) : kMet gAll LAll vwCl rFo rZs rRs rNs rTs l yX10_layOut cX10_layOut 3 none 3 69 cq59 := kmet_y2 (rt := 0) (by decide +kernel) yr59 zw59 rfl yw59 LAll_ok LAll_la yt11_ok gHo_ok rfl (fun G n Qf => List.forall_mem_cons.mpr ⟨⟨cq55, rfl, st57 l (by decide) (by decide)⟩, List.forall_mem_cons.mpr ⟨⟨cq57, rfl, st58 l (by decide) (by decide)⟩, List.forall_mem_cons.mpr ⟨⟨cq54, rfl, st59 l (by decide) (by decide)⟩, List.forall_mem_cons.mpr ⟨⟨cq58, rfl, st60 l (by decide) (by decide)⟩, yA_n⟩⟩⟩⟩) rfl (fun G n Rr => yA_n) rfl
/-! 60 Units.overlong ()I -/
def mt60 : yMt := ([], ([], ([], [])))
theorem rc60 : yRc cq60 2 0 = true := by decide +kernel
theorem yr60 : yRun gAll t60 b60 cq60 := yRun_p (cuts := u60) (fuel := 300) gAll_tag ruI2_RtI ruJ2_RtJ rqL_ok ⟨zsm_e _ z60_s, List.forall_mem_cons.mpr ⟨zsm_e _ z60_0, yA_n⟩⟩
theorem zw60 : zwid cq60.2.1.1 cq60.1 0 2 = true := by decide +kernel
set_option maxRecDepth 100000 in
theorem yw60 : yRows gAll LAll yt11 mt60 gHo 2 1 (zby cX10_overlong) p60 b60 p60 = true := by decide +kernel
set_option maxRecDepth 100000 in
theorem m60 (l : Launch) : kMet gAll LAll vwCl rFo rZs rRs rNs rTs l yX10_overlong cX10_overlong 2 (some .int) 0 0 cq60 := kmet_y2 (rt := 1) (by decide +kernel) yr60 zw60 rfl yw60 LAll_ok LAll_la yt11_ok gHo_ok rfl (fun G n Qf => yA_n) rfl (fun G n Rr => yA_n) rfl
/-! 61 java/util/Arrays.fill/bytes ([BIIB)V -/
def mt61 : yMt := ([(184, (13, 0))], ([], ([], [])))
theorem yr61 : yRun gAll t61 b61 cq61 := yRun_p (cuts := u61) (fuel := 300) gAll_tag ruI2_RtI ruJ2_RtJ rqL_ok ⟨zsm_e _ z61_s, List.forall_mem_cons.mpr ⟨zsm_e _ z61_0, yA_n⟩⟩
theorem zw61 : zwid cq61.2.1.1 cq61.1 0 5 = true := by decide +kernel
set_option maxRecDepth 100000 in
theorem yw61 : yRows gAll LAll yt17 mt61 gHo 5 0 (zby cJ7_fill_eb02e) p61 b61 p61 = true := by decide +kernel
set_option maxRecDepth 100000 in
theorem m61 (l : Launch) : kMet gAll LAll vwCl rFo rZs rRs rNs rTs l yJ7_fill_eb02e cJ7_fill_eb02e 5 none 1 22 cq61 := kmet_y2 (rt := 0) (by decide +kernel) yr61 zw61 rfl yw61 LAll_ok LAll_la yt17_ok gHo_ok rfl (fun G n Qf => List.forall_mem_cons.mpr ⟨⟨cq40, rfl, st41 l (by decide) (by decide)⟩, yA_n⟩) rfl (fun G n Rr => yA_n) rfl
/-! 62 Units.writeStatement/statements[] ([II)V -/
theorem cA5_e : cA5 = cpC 26655 1 131072 (2 * ((13328 : Nat) : Int) + 1) 1 131072 26 := by rfl
theorem sA5 {own : String} {ix : Nat} (l : Launch) {G : rGm} {cc : ByteArray} {nL n fr lo : Nat} {ret : Option FieldType} {Qf : kQf} (w1 : Cond.methodLink own ix arraycopyName ∈ rTs) (hf : 1 ≤ fr) (hlo : 26 ≤ lo) : ySite gAll LAll vwCl rFo rZs rRs rNs rTs G l cc nL own ret fr lo n Qf 184 ix cA5 := by
  rw [cA5_e]
  exact ys_A (t := 2) (c1 := ((-128), 127)) (c2 := ((-128), 127)) LAll_ok (Or.inl ⟨13327, _, List.mem_of_getElem? (i := 12) rfl, rfl⟩) rfl (List.mem_of_getElem? (i := 13) rfl) rfl (by decide) (fun z h1 h2 => y_fb ⟨Int.le_trans (by decide) h1, Int.le_trans h2 (by decide)⟩) w1 kw62 kw63 kw64 hf (Nat.le_trans (by decide +kernel) hlo)
theorem hdS_J7_fill_eb02e : yJ7_fill_eb02e.cls ≠ "java/lang/invoke/MethodHandle" ∧ yJ7_fill_eb02e.cls ≠ "java/lang/invoke/VarHandle" ∧ (parseMethodDescriptor yJ7_fill_eb02e.desc).map (fun d => d.parameters.length) = some 4 := by decide +kernel
theorem st61 (l : Launch) {G : rGm} {cc : ByteArray} {nL n fr lo : Nat} {ret : Option FieldType} {Qf : kQf} (hf : 2 ≤ fr) (hlo : 46 ≤ lo) : ySite gAll LAll vwCl rFo rZs rRs rNs rTs G l cc nL RX10 ret fr lo n Qf 184 125 cq61 := ys_S 4 rfl (m61 l) kGood kw649 kw650 kw13 kw648 hdS_J7_fill_eb02e hf hlo
set_option maxRecDepth 100000 in
theorem w62_0 : decode cX10_writeStatement 7 = .ok (.tableswitch 170 0 5 #[37, 170, 58, 37, 128, 88], 37) := by decide +kernel
def mt62 : yMt := ([(184, (125, 0)), (182, (113, 1)), (184, (131, 2))], ([], ([(7, (3, (0, (15, (0, [(0, 1), (1, 15), (2, 2), (3, 1), (4, 10), (5, 6)])))))], [])))
theorem rc62 : yRc cq62 2 2 = true := by decide +kernel
theorem yr62 : yRun gAll t62 b62 cq62 := yRun_z gAll_tag ruI2_RtI ruJ2_RtJ rqL_ok z62
theorem zw62 : zwid cq62.2.1.1 cq62.1 0 4 = true := by decide +kernel
set_option maxRecDepth 100000 in
theorem yw62 : yRows gAll LAll yt11 mt62 gHo 4 0 (zby cX10_writeStatement) p62 b62 p62 = true := by decide +kernel
set_option maxRecDepth 100000 in
theorem m62 (l : Launch) : kMet gAll LAll vwCl rFo rZs rRs rNs rTs l yX10_writeStatement cX10_writeStatement 4 none 2 46 cq62 := kmet_y2 (rt := 0) (by decide +kernel) yr62 zw62 rfl yw62 LAll_ok LAll_la yt11_ok gHo_ok rfl (fun G n Qf => List.forall_mem_cons.mpr ⟨⟨cq61, rfl, st61 l (by decide) (by decide)⟩, List.forall_mem_cons.mpr ⟨⟨cq53, rfl, st55 l (by decide) (by decide)⟩, List.forall_mem_cons.mpr ⟨⟨cA5, rfl, sA5 l kw2137 (by decide) (by decide)⟩, yA_n⟩⟩⟩) rfl (fun G n Rr => List.forall_mem_cons.mpr ⟨k_table _ p62 (fun b t hb ls st s h => kV_at hb h) w62_0 (by decide +kernel) (by decide +kernel) rfl rfl, yA_n⟩) rfl
/-! 63 Units.write ()Z -/
theorem hdV_X10_writeStatement : yX10_writeStatement.cls = RX10 ∧ yX10_writeStatement.cls ≠ "java/lang/invoke/MethodHandle" ∧ yX10_writeStatement.cls ≠ "java/lang/invoke/VarHandle" ∧ (parseMethodDescriptor yX10_writeStatement.desc).map (fun d => d.parameters.length) = some 2 := by decide +kernel
theorem st62 (l : Launch) {G : rGm} {cc : ByteArray} {nL n fr lo : Nat} {ret : Option FieldType} {Qf : kQf} (hf : 3 ≤ fr) (hlo : 69 ≤ lo) : ySite gAll LAll vwCl rFo rZs rRs rNs rTs G l cc nL RX10 ret fr lo n Qf 182 128 cq62 := ys_V 2 2 12 rc62 lo_2 kc12 (m62 l) kGood kw2138 kw2139 kw2140 kw241 kw2136 hdV_X10_writeStatement hf hlo
def mt63 : yMt := ([(184, (125, 0)), (182, (128, 1))], ([], ([], [])))
theorem rc63 : yRc cq63 2 0 = true := by decide +kernel
theorem yr63 : yRun gAll t63 b63 cq63 := yRun_p (cuts := u63) (fuel := 300) gAll_tag ruI2_RtI ruJ2_RtJ rqL_ok ⟨zsm_e _ z63_s, List.forall_mem_cons.mpr ⟨zsm_e _ z63_0, List.forall_mem_cons.mpr ⟨zsm_e _ z63_1, yA_n⟩⟩⟩
theorem zw63 : zwid cq63.2.1.1 cq63.1 0 5 = true := by decide +kernel
set_option maxRecDepth 100000 in
theorem yw63 : yRows gAll LAll yt11 mt63 gHo 5 3 (zby cX10_write) p63 b63 p63 = true := by decide +kernel
set_option maxRecDepth 100000 in
theorem m63 (l : Launch) : kMet gAll LAll vwCl rFo rZs rRs rNs rTs l yX10_write cX10_write 5 (some .boolean) 3 69 cq63 := kmet_y2 (rt := 3) (by decide +kernel) yr63 zw63 rfl yw63 LAll_ok LAll_la yt11_ok gHo_ok rfl (fun G n Qf => List.forall_mem_cons.mpr ⟨⟨cq61, rfl, st61 l (by decide) (by decide)⟩, List.forall_mem_cons.mpr ⟨⟨cq62, rfl, st62 l (by decide) (by decide)⟩, yA_n⟩⟩) rfl (fun G n Rr => yA_n) rfl
/-! 64 Assembler.finish ()I -/
theorem hdV_X0_fail : yX0_fail.cls = RX0 ∧ yX0_fail.cls ≠ "java/lang/invoke/MethodHandle" ∧ yX0_fail.cls ≠ "java/lang/invoke/VarHandle" ∧ (parseMethodDescriptor yX0_fail.desc).map (fun d => d.parameters.length) = some 2 := by decide +kernel
theorem st63 (l : Launch) {G : rGm} {cc : ByteArray} {nL n fr lo : Nat} {ret : Option FieldType} {Qf : kQf} (hf : 3 ≤ fr) (hlo : 64 ≤ lo) : ySite gAll LAll vwCl rFo rZs rRs rNs rTs G l cc nL RX0 ret fr lo n Qf 182 109 cq48 := ys_V 2 13364 2 rc48 lo_13364 kc2 (m48 l) kGood kw1191 kw1192 kw1193 kw249 kw1309 hdV_X0_fail hf hlo
theorem hdV_X10_brokenSpan : yX10_brokenSpan.cls = RX10 ∧ yX10_brokenSpan.cls ≠ "java/lang/invoke/MethodHandle" ∧ yX10_brokenSpan.cls ≠ "java/lang/invoke/VarHandle" ∧ (parseMethodDescriptor yX10_brokenSpan.desc).map (fun d => d.parameters.length) = some 0 := by decide +kernel
theorem st64 (l : Launch) {G : rGm} {cc : ByteArray} {nL n fr lo : Nat} {ret : Option FieldType} {Qf : kQf} (hf : 2 ≤ fr) (hlo : 46 ≤ lo) : ySite gAll LAll vwCl rFo rZs rRs rNs rTs G l cc nL RX0 ret fr lo n Qf 182 136 cq50 := ys_V 0 2 12 rc50 lo_2 kc12 (m50 l) kGood kw656 kw657 kw658 kw241 kw655 hdV_X10_brokenSpan hf hlo
theorem hdV_X10_layOut : yX10_layOut.cls = RX10 ∧ yX10_layOut.cls ≠ "java/lang/invoke/MethodHandle" ∧ yX10_layOut.cls ≠ "java/lang/invoke/VarHandle" ∧ (parseMethodDescriptor yX10_layOut.desc).map (fun d => d.parameters.length) = some 0 := by decide +kernel
theorem st65 (l : Launch) {G : rGm} {cc : ByteArray} {nL n fr lo : Nat} {ret : Option FieldType} {Qf : kQf} (hf : 4 ≤ fr) (hlo : 91 ≤ lo) : ySite gAll LAll vwCl rFo rZs rRs rNs rTs G l cc nL RX0 ret fr lo n Qf 182 139 cq59 := ys_V 0 2 12 rc59 lo_2 kc12 (m59 l) kGood kw660 kw661 kw662 kw241 kw659 hdV_X10_layOut hf hlo
theorem hdV_X10_overlong : yX10_overlong.cls = RX10 ∧ yX10_overlong.cls ≠ "java/lang/invoke/MethodHandle" ∧ yX10_overlong.cls ≠ "java/lang/invoke/VarHandle" ∧ (parseMethodDescriptor yX10_overlong.desc).map (fun d => d.parameters.length) = some 0 := by decide +kernel
theorem st66 (l : Launch) {G : rGm} {cc : ByteArray} {nL n fr lo : Nat} {ret : Option FieldType} {Qf : kQf} (hf : 1 ≤ fr) (hlo : 21 ≤ lo) : ySite gAll LAll vwCl rFo rZs rRs rNs rTs G l cc nL RX0 ret fr lo n Qf 182 142 cq60 := ys_V 0 2 12 rc60 lo_2 kc12 (m60 l) kGood kw664 kw665 kw666 kw241 kw663 hdV_X10_overlong hf hlo
theorem hdV_X10_write : yX10_write.cls = RX10 ∧ yX10_write.cls ≠ "java/lang/invoke/MethodHandle" ∧ yX10_write.cls ≠ "java/lang/invoke/VarHandle" ∧ (parseMethodDescriptor yX10_write.desc).map (fun d => d.parameters.length) = some 0 := by decide +kernel
theorem st67 (l : Launch) {G : rGm} {cc : ByteArray} {nL n fr lo : Nat} {ret : Option FieldType} {Qf : kQf} (hf : 4 ≤ fr) (hlo : 93 ≤ lo) : ySite gAll LAll vwCl rFo rZs rRs rNs rTs G l cc nL RX0 ret fr lo n Qf 182 145 cq63 := ys_V 0 2 12 rc63 lo_2 kc12 (m63 l) kGood kw668 kw669 kw670 kw241 kw667 hdV_X10_write hf hlo
theorem hdV_X10_keepAll : yX10_keepAll.cls = RX10 ∧ yX10_keepAll.cls ≠ "java/lang/invoke/MethodHandle" ∧ yX10_keepAll.cls ≠ "java/lang/invoke/VarHandle" ∧ (parseMethodDescriptor yX10_keepAll.desc).map (fun d => d.parameters.length) = some 0 := by decide +kernel
theorem st68 (l : Launch) {G : rGm} {cc : ByteArray} {nL n fr lo : Nat} {ret : Option FieldType} {Qf : kQf} (hf : 1 ≤ fr) (hlo : 21 ≤ lo) : ySite gAll LAll vwCl rFo rZs rRs rNs rTs G l cc nL RX0 ret fr lo n Qf 182 148 cq51 := ys_V 0 2 12 rc51 lo_2 kc12 (m51 l) kGood kw672 kw673 kw674 kw241 kw671 hdV_X10_keepAll hf hlo
def mt64 : yMt := ([(182, (109, 0)), (182, (136, 1)), (182, (139, 2)), (182, (142, 3)), (182, (145, 4)), (182, (148, 5))], ([], ([], [])))
theorem rc64 : yRc cq64 13364 0 = true := by decide +kernel
theorem yr64 : yRun gAll t64 b64 cq64 := yRun_z gAll_tag ruI2_RtI ruJ2_RtJ rqL_ok z64
theorem zw64 : zwid cq64.2.1.1 cq64.1 0 4 = true := by decide +kernel
set_option maxRecDepth 100000 in
theorem yw64 : yRows gAll LAll yt1 mt64 gHo 4 1 (zby cX0_finish) p64 b64 p64 = true := by decide +kernel
set_option maxRecDepth 100000 in
theorem m64 (l : Launch) : kMet gAll LAll vwCl rFo rZs rRs rNs rTs l yX0_finish cX0_finish 4 (some .int) 4 93 cq64 := kmet_y2 (rt := 1) (by decide +kernel) yr64 zw64 rfl yw64 LAll_ok LAll_la yt1_ok gHo_ok rfl (fun G n Qf => List.forall_mem_cons.mpr ⟨⟨cq48, rfl, st63 l (by decide) (by decide)⟩, List.forall_mem_cons.mpr ⟨⟨cq50, rfl, st64 l (by decide) (by decide)⟩, List.forall_mem_cons.mpr ⟨⟨cq59, rfl, st65 l (by decide) (by decide)⟩, List.forall_mem_cons.mpr ⟨⟨cq60, rfl, st66 l (by decide) (by decide)⟩, List.forall_mem_cons.mpr ⟨⟨cq63, rfl, st67 l (by decide) (by decide)⟩, List.forall_mem_cons.mpr ⟨⟨cq51, rfl, st68 l (by decide) (by decide)⟩, yA_n⟩⟩⟩⟩⟩⟩) rfl (fun G n Rr => yA_n) rfl
/-! 65 Assembler.changeSection ()V -/
def mt65 : yMt := ([(182, (88, 0))], ([], ([], [])))
theorem rc65 : yRc cq65 13364 0 = true := by decide +kernel
theorem yr65 : yRun gAll t65 b65 cq65 := yRun_z gAll_tag ruI2_RtI ruJ2_RtJ rqL_ok z65
theorem zw65 : zwid cq65.2.1.1 cq65.1 0 2 = true := by decide +kernel
set_option maxRecDepth 100000 in
theorem yw65 : yRows gAll LAll yt1 mt65 gHo 2 0 (zby cX0_changeSection) p65 b65 p65 = true := by decide +kernel
set_option maxRecDepth 100000 in
theorem m65 (l : Launch) : kMet gAll LAll vwCl rFo rZs rRs rNs rTs l yX0_changeSection cX0_changeSection 2 none 2 42 cq65 := kmet_y2 (rt := 0) (by decide +kernel) yr65 zw65 rfl yw65 LAll_ok LAll_la yt1_ok gHo_ok rfl (fun G n Qf => List.forall_mem_cons.mpr ⟨⟨cq9, rfl, st27 l (by decide) (by decide)⟩, yA_n⟩) rfl (fun G n Rr => yA_n) rfl
/-! 66 Assembler.ended ()Z -/
def mt66 : yMt := ([], ([], ([], [])))
theorem rc66 : yRc cq66 13364 0 = true := by decide +kernel
theorem yr66 : yRun gAll t66 b66 cq66 := yRun_z gAll_tag ruI2_RtI ruJ2_RtJ rqL_ok z66
theorem zw66 : zwid cq66.2.1.1 cq66.1 0 1 = true := by decide +kernel
set_option maxRecDepth 100000 in
theorem yw66 : yRows gAll LAll yt1 mt66 gHo 1 3 (zby cX0_ended) p66 b66 p66 = true := by decide +kernel
set_option maxRecDepth 100000 in
theorem m66 (l : Launch) : kMet gAll LAll vwCl rFo rZs rRs rNs rTs l yX0_ended cX0_ended 1 (some .boolean) 0 0 cq66 := kmet_y2 (rt := 3) (by decide +kernel) yr66 zw66 rfl yw66 LAll_ok LAll_la yt1_ok gHo_ok rfl (fun G n Qf => yA_n) rfl (fun G n Rr => yA_n) rfl
/-! 67 Expression.isConstant ()Z -/
def mt67 : yMt := ([(182, (42, 0))], ([], ([], [])))
theorem rc67 : yRc cq67 13407 0 = true := by decide +kernel
theorem yr67 : yRun gAll t67 b67 cq67 := yRun_z gAll_tag ruI2_RtI ruJ2_RtJ rqL_ok z67
theorem zw67 : zwid cq67.2.1.1 cq67.1 0 1 = true := by decide +kernel
set_option maxRecDepth 100000 in
theorem yw67 : yRows gAll LAll yt2 mt67 gHo 1 3 (zby cX1_isConstant) p67 b67 p67 = true := by decide +kernel
set_option maxRecDepth 100000 in
theorem m67 (l : Launch) : kMet gAll LAll vwCl rFo rZs rRs rNs rTs l yX1_isConstant cX1_isConstant 1 (some .boolean) 1 21 cq67 := kmet_y2 (rt := 3) (by decide +kernel) yr67 zw67 rfl yw67 LAll_ok LAll_la yt2_ok gHo_ok rfl (fun G n Qf => List.forall_mem_cons.mpr ⟨⟨cq4, rfl, st4 l (by decide) (by decide)⟩, yA_n⟩) rfl (fun G n Rr => yA_n) rfl
/-! 68 Line.blamed (I)Z -/
def mt68 : yMt := ([], ([], ([], [])))
theorem rc68 : yRc cq68 13365 1 = true := by decide +kernel
theorem yr68 : yRun gAll t68 b68 cq68 := yRun_z gAll_tag ruI2_RtI ruJ2_RtJ rqL_ok z68
theorem zw68 : zwid cq68.2.1.1 cq68.1 0 2 = true := by decide +kernel
set_option maxRecDepth 100000 in
theorem yw68 : yRows gAll LAll yt4 mt68 gHo 2 3 (zby cX3_blamed) p68 b68 p68 = true := by decide +kernel
set_option maxRecDepth 100000 in
theorem m68 (l : Launch) : kMet gAll LAll vwCl rFo rZs rRs rNs rTs l yX3_blamed cX3_blamed 2 (some .boolean) 0 0 cq68 := kmet_y2 (rt := 3) (by decide +kernel) yr68 zw68 rfl yw68 LAll_ok LAll_la yt4_ok gHo_ok rfl (fun G n Qf => yA_n) rfl (fun G n Rr => yA_n) rfl
/-! 69 Assembler.constant ()Z -/
theorem hdV_X0_ended : yX0_ended.cls = RX0 ∧ yX0_ended.cls ≠ "java/lang/invoke/MethodHandle" ∧ yX0_ended.cls ≠ "java/lang/invoke/VarHandle" ∧ (parseMethodDescriptor yX0_ended.desc).map (fun d => d.parameters.length) = some 0 := by decide +kernel
theorem st69 (l : Launch) {G : rGm} {cc : ByteArray} {nL n fr lo : Nat} {ret : Option FieldType} {Qf : kQf} (hf : 1 ≤ fr) (hlo : 20 ≤ lo) : ySite gAll LAll vwCl rFo rZs rRs rNs rTs G l cc nL RX0 ret fr lo n Qf 182 270 cq66 := ys_V 0 13364 2 rc66 lo_13364 kc2 (m66 l) kGood kw1265 kw1266 kw1267 kw249 kw1308 hdV_X0_ended hf hlo
theorem hdV_X1_isConstant : yX1_isConstant.cls = RX1 ∧ yX1_isConstant.cls ≠ "java/lang/invoke/MethodHandle" ∧ yX1_isConstant.cls ≠ "java/lang/invoke/VarHandle" ∧ (parseMethodDescriptor yX1_isConstant.desc).map (fun d => d.parameters.length) = some 0 := by decide +kernel
theorem st70 (l : Launch) {G : rGm} {cc : ByteArray} {nL n fr lo : Nat} {ret : Option FieldType} {Qf : kQf} (hf : 2 ≤ fr) (hlo : 41 ≤ lo) : ySite gAll LAll vwCl rFo rZs rRs rNs rTs G l cc nL RX0 ret fr lo n Qf 182 290 cq67 := ys_V 0 13407 3 rc67 lo_13407 kc3 (m67 l) kGood kw1268 kw1269 kw1270 kw181 kw1470 hdV_X1_isConstant hf hlo
theorem hdV_X3_blamed : yX3_blamed.cls = RX3 ∧ yX3_blamed.cls ≠ "java/lang/invoke/MethodHandle" ∧ yX3_blamed.cls ≠ "java/lang/invoke/VarHandle" ∧ (parseMethodDescriptor yX3_blamed.desc).map (fun d => d.parameters.length) = some 1 := by decide +kernel
theorem st71 (l : Launch) {G : rGm} {cc : ByteArray} {nL n fr lo : Nat} {ret : Option FieldType} {Qf : kQf} (hf : 1 ≤ fr) (hlo : 21 ≤ lo) : ySite gAll LAll vwCl rFo rZs rRs rNs rTs G l cc nL RX0 ret fr lo n Qf 182 96 cq68 := ys_V 1 13365 5 rc68 lo_13365 kc5 (m68 l) kGood kw1181 kw1182 kw1183 kw90 kw1589 hdV_X3_blamed hf hlo
def mt69 : yMt := ([(182, (286, 0)), (182, (270, 1)), (182, (88, 2)), (182, (290, 3)), (182, (193, 4)), (182, (96, 5))], ([], ([], [])))
theorem rc69 : yRc cq69 13364 0 = true := by decide +kernel
theorem yr69 : yRun gAll t69 b69 cq69 := yRun_z gAll_tag ruI2_RtI ruJ2_RtJ rqL_ok z69
theorem zw69 : zwid cq69.2.1.1 cq69.1 0 1 = true := by decide +kernel
set_option maxRecDepth 100000 in
theorem yw69 : yRows gAll LAll yt1 mt69 gHo 1 3 (zby cX0_constant) p69 b69 p69 = true := by decide +kernel
set_option maxRecDepth 100000 in
theorem m69 (l : Launch) : kMet gAll LAll vwCl rFo rZs rRs rNs rTs l yX0_constant cX0_constant 1 (some .boolean) 4 105 cq69 := kmet_y2 (rt := 3) (by decide +kernel) yr69 zw69 rfl yw69 LAll_ok LAll_la yt1_ok gHo_ok rfl (fun G n Qf => List.forall_mem_cons.mpr ⟨⟨cq20, rfl, st23 l (by decide) (by decide)⟩, List.forall_mem_cons.mpr ⟨⟨cq66, rfl, st69 l (by decide) (by decide)⟩, List.forall_mem_cons.mpr ⟨⟨cq9, rfl, st27 l (by decide) (by decide)⟩, List.forall_mem_cons.mpr ⟨⟨cq67, rfl, st70 l (by decide) (by decide)⟩, List.forall_mem_cons.mpr ⟨⟨cq25, rfl, st50 l (by decide) (by decide)⟩, List.forall_mem_cons.mpr ⟨⟨cq68, rfl, st71 l (by decide) (by decide)⟩, yA_n⟩⟩⟩⟩⟩⟩) rfl (fun G n Rr => yA_n) rfl
/-! 70 Reader.goBehind (I)Z -/
def mt70 : yMt := ([], ([], ([], [])))
theorem rc70 : yRc cq70 13377 1 = true := by decide +kernel
theorem yr70 : yRun gAll t70 b70 cq70 := yRun_z gAll_tag ruI2_RtI ruJ2_RtJ rqL_ok z70
theorem zw70 : zwid cq70.2.1.1 cq70.1 0 3 = true := by decide +kernel
set_option maxRecDepth 100000 in
theorem yw70 : yRows gAll LAll yt9 mt70 gHo 3 3 (zby cX8_goBehind) p70 b70 p70 = true := by decide +kernel
set_option maxRecDepth 100000 in
theorem m70 (l : Launch) : kMet gAll LAll vwCl rFo rZs rRs rNs rTs l yX8_goBehind cX8_goBehind 3 (some .boolean) 0 0 cq70 := kmet_y2 (rt := 3) (by decide +kernel) yr70 zw70 rfl yw70 LAll_ok LAll_la yt9_ok gHo_ok rfl (fun G n Qf => yA_n) rfl (fun G n Rr => yA_n) rfl
/-! 71 Names.add/text@x.assembler.reader.source.macros ([BII)I -/
theorem cA6_e : cA6 = cpC 26733 1 1024 (2 * ((13385 : Nat) : Int) + 1) 1 65536 66 := by rfl
theorem sA6 {own : String} {ix : Nat} (l : Launch) {G : rGm} {cc : ByteArray} {nL n fr lo : Nat} {ret : Option FieldType} {Qf : kQf} (w1 : Cond.methodLink own ix arraycopyName ∈ rTs) (hf : 1 ≤ fr) (hlo : 26 ≤ lo) : ySite gAll LAll vwCl rFo rZs rRs rNs rTs G l cc nL own ret fr lo n Qf 184 ix cA6 := by
  rw [cA6_e]
  exact ys_A (t := 2) (c1 := ((-128), 127)) (c2 := ((-128), 127)) LAll_ok (Or.inl ⟨13366, _, List.mem_of_getElem? (i := 16) rfl, rfl⟩) rfl (List.mem_of_getElem? (i := 31) rfl) rfl (by decide) (fun z h1 h2 => y_fb ⟨Int.le_trans (by decide) h1, Int.le_trans h2 (by decide)⟩) w1 kw62 kw63 kw64 hf (Nat.le_trans (by decide +kernel) hlo)
def mt71 : yMt := ([(184, (38, 0))], ([], ([], [])))
theorem rc71 : yRc cq71 13384 3 = true := by decide +kernel
theorem yr71 : yRun gAll t71 b71 cq71 := yRun_p (cuts := u71) (fuel := 300) gAll_tag ruI2_RtI ruJ2_RtJ rqL_ok ⟨zsm_e _ z71_s, List.forall_mem_cons.mpr ⟨zsm_e _ z71_0, yA_n⟩⟩
theorem zw71 : zwid cq71.2.1.1 cq71.1 0 6 = true := by decide +kernel
set_option maxRecDepth 100000 in
theorem yw71 : yRows gAll LAll yt8 mt71 gHo 6 1 (zby cX7_add) p71 b71 p71 = true := by decide +kernel
set_option maxRecDepth 100000 in
theorem m71 (l : Launch) : kMet gAll LAll vwCl rFo rZs rRs rNs rTs l yX7_add cX7_add 6 (some .int) 1 26 cq71 := kmet_y2 (rt := 1) (by decide +kernel) yr71 zw71 rfl yw71 LAll_ok LAll_la yt8_ok gHo_ok rfl (fun G n Qf => List.forall_mem_cons.mpr ⟨⟨cA6, rfl, sA6 l kw61 (by decide) (by decide)⟩, yA_n⟩) rfl (fun G n Rr => yA_n) rfl
/-! 72 Source.addMacro/line (LNativeWorks$Line;II)I -/
theorem st72 (l : Launch) {G : rGm} {cc : ByteArray} {nL n fr lo : Nat} {ret : Option FieldType} {Qf : kQf} (hf : 2 ≤ fr) (hlo : 51 ≤ lo) : ySite gAll LAll vwCl rFo rZs rRs rNs rTs G l cc nL RX9 ret fr lo n Qf 182 103 cq71 := ys_V 3 13384 9 rc71 lo_13384 kc9 (m71 l) kGood kw2095 kw77 kw78 kw18 kw75 hdV_X7_add hf hlo
def mt72 : yMt := ([(182, (103, 0))], ([], ([], [])))
theorem rc72 : yRc cq72 13378 3 = true := by decide +kernel
theorem yr72 : yRun gAll t72 b72 cq72 := yRun_p (cuts := u72) (fuel := 300) gAll_tag ruI2_RtI ruJ2_RtJ rqL_ok ⟨zsm_e _ z72_s, List.forall_mem_cons.mpr ⟨zsm_e _ z72_0, yA_n⟩⟩
theorem zw72 : zwid cq72.2.1.1 cq72.1 0 7 = true := by decide +kernel
set_option maxRecDepth 100000 in
theorem yw72 : yRows gAll LAll yt10 mt72 gHo 7 1 (zby cX9_addMacro) p72 b72 p72 = true := by decide +kernel
set_option maxRecDepth 100000 in
theorem m72 (l : Launch) : kMet gAll LAll vwCl rFo rZs rRs rNs rTs l yX9_addMacro cX9_addMacro 7 (some .int) 2 51 cq72 := kmet_y2 (rt := 1) (by decide +kernel) yr72 zw72 rfl yw72 LAll_ok LAll_la yt10_ok gHo_ok rfl (fun G n Qf => List.forall_mem_cons.mpr ⟨⟨cq71, rfl, st72 l (by decide) (by decide)⟩, yA_n⟩) rfl (fun G n Rr => yA_n) rfl
/-! 73 Source.macroEnd (I)I -/
def mt73 : yMt := ([], ([], ([], [])))
theorem rc73 : yRc cq73 13378 1 = true := by decide +kernel
theorem yr73 : yRun gAll t73 b73 cq73 := yRun_p (cuts := u73) (fuel := 300) gAll_tag ruI2_RtI ruJ2_RtJ rqL_ok ⟨zsm_e _ z73_s, List.forall_mem_cons.mpr ⟨zsm_e _ z73_0, yA_n⟩⟩
theorem zw73 : zwid cq73.2.1.1 cq73.1 0 3 = true := by decide +kernel
set_option maxRecDepth 100000 in
theorem yw73 : yRows gAll LAll yt10 mt73 gHo 3 1 (zby cX9_macroEnd) p73 b73 p73 = true := by decide +kernel
set_option maxRecDepth 100000 in
theorem m73 (l : Launch) : kMet gAll LAll vwCl rFo rZs rRs rNs rTs l yX9_macroEnd cX9_macroEnd 3 (some .int) 0 0 cq73 := kmet_y2 (rt := 1) (by decide +kernel) yr73 zw73 rfl yw73 LAll_ok LAll_la yt10_ok gHo_ok rfl (fun G n Qf => yA_n) rfl (fun G n Rr => yA_n) rfl
/-! 74 Reader.readMacro (I)V -/
theorem hdV_X9_macroEnd : yX9_macroEnd.cls = RX9 ∧ yX9_macroEnd.cls ≠ "java/lang/invoke/MethodHandle" ∧ yX9_macroEnd.cls ≠ "java/lang/invoke/VarHandle" ∧ (parseMethodDescriptor yX9_macroEnd.desc).map (fun d => d.parameters.length) = some 1 := by decide +kernel
theorem st73 (l : Launch) {G : rGm} {cc : ByteArray} {nL n fr lo : Nat} {ret : Option FieldType} {Qf : kQf} (hf : 1 ≤ fr) (hlo : 22 ≤ lo) : ySite gAll LAll vwCl rFo rZs rRs rNs rTs G l cc nL RX8 ret fr lo n Qf 182 172 cq73 := ys_V 1 13378 11 rc73 lo_13378 kc11 (m73 l) kGood kw2058 kw2059 kw2060 kw170 kw2099 hdV_X9_macroEnd hf hlo
theorem hdV_X9_addMacro : yX9_addMacro.cls = RX9 ∧ yX9_addMacro.cls ≠ "java/lang/invoke/MethodHandle" ∧ yX9_addMacro.cls ≠ "java/lang/invoke/VarHandle" ∧ (parseMethodDescriptor yX9_addMacro.desc).map (fun d => d.parameters.length) = some 3 := by decide +kernel
theorem st74 (l : Launch) {G : rGm} {cc : ByteArray} {nL n fr lo : Nat} {ret : Option FieldType} {Qf : kQf} (hf : 3 ≤ fr) (hlo : 77 ≤ lo) : ySite gAll LAll vwCl rFo rZs rRs rNs rTs G l cc nL RX8 ret fr lo n Qf 182 176 cq72 := ys_V 3 13378 11 rc72 lo_13378 kc11 (m72 l) kGood kw2061 kw2062 kw2063 kw170 kw2091 hdV_X9_addMacro hf hlo
theorem hdV_X8_goBehind : yX8_goBehind.cls = RX8 ∧ yX8_goBehind.cls ≠ "java/lang/invoke/MethodHandle" ∧ yX8_goBehind.cls ≠ "java/lang/invoke/VarHandle" ∧ (parseMethodDescriptor yX8_goBehind.desc).map (fun d => d.parameters.length) = some 1 := by decide +kernel
theorem st75 (l : Launch) {G : rGm} {cc : ByteArray} {nL n fr lo : Nat} {ret : Option FieldType} {Qf : kQf} (hf : 1 ≤ fr) (hlo : 22 ≤ lo) : ySite gAll LAll vwCl rFo rZs rRs rNs rTs G l cc nL RX8 ret fr lo n Qf 182 161 cq70 := ys_V 1 13377 10 rc70 lo_13377 kc10 (m70 l) kGood kw2047 kw2048 kw2049 kw167 kw2028 hdV_X8_goBehind hf hlo
def mt74 : yMt := ([(182, (143, 0)), (182, (172, 1)), (182, (176, 2)), (182, (161, 3))], ([], ([], [])))
theorem rc74 : yRc cq74 13377 1 = true := by decide +kernel
theorem yr74 : yRun gAll t74 b74 cq74 := yRun_z gAll_tag ruI2_RtI ruJ2_RtJ rqL_ok z74
theorem zw74 : zwid cq74.2.1.1 cq74.1 0 5 = true := by decide +kernel
set_option maxRecDepth 100000 in
theorem yw74 : yRows gAll LAll yt9 mt74 gHo 5 0 (zby cX8_readMacro) p74 b74 p74 = true := by decide +kernel
set_option maxRecDepth 100000 in
theorem m74 (l : Launch) : kMet gAll LAll vwCl rFo rZs rRs rNs rTs l yX8_readMacro cX8_readMacro 5 none 3 77 cq74 := kmet_y2 (rt := 0) (by decide +kernel) yr74 zw74 rfl yw74 LAll_ok LAll_la yt9_ok gHo_ok rfl (fun G n Qf => List.forall_mem_cons.mpr ⟨⟨cq37, rfl, st39 l (by decide) (by decide)⟩, List.forall_mem_cons.mpr ⟨⟨cq73, rfl, st73 l (by decide) (by decide)⟩, List.forall_mem_cons.mpr ⟨⟨cq72, rfl, st74 l (by decide) (by decide)⟩, List.forall_mem_cons.mpr ⟨⟨cq70, rfl, st75 l (by decide) (by decide)⟩, yA_n⟩⟩⟩⟩) rfl (fun G n Rr => yA_n) rfl
/-! 75 Assembler.defineMacro ()V -/
theorem hdV_X8_readMacro : yX8_readMacro.cls = RX8 ∧ yX8_readMacro.cls ≠ "java/lang/invoke/MethodHandle" ∧ yX8_readMacro.cls ≠ "java/lang/invoke/VarHandle" ∧ (parseMethodDescriptor yX8_readMacro.desc).map (fun d => d.parameters.length) = some 1 := by decide +kernel
theorem st76 (l : Launch) {G : rGm} {cc : ByteArray} {nL n fr lo : Nat} {ret : Option FieldType} {Qf : kQf} (hf : 4 ≤ fr) (hlo : 101 ≤ lo) : ySite gAll LAll vwCl rFo rZs rRs rNs rTs G l cc nL RX0 ret fr lo n Qf 182 358 cq74 := ys_V 1 13377 10 rc74 lo_13377 kc10 (m74 l) kGood kw1299 kw1300 kw1301 kw167 kw2057 hdV_X8_readMacro hf hlo
def mt75 : yMt := ([(182, (358, 0)), (182, (88, 1))], ([], ([], [])))
theorem rc75 : yRc cq75 13364 0 = true := by decide +kernel
theorem yr75 : yRun gAll t75 b75 cq75 := yRun_p (cuts := u75) (fuel := 300) gAll_tag ruI2_RtI ruJ2_RtJ rqL_ok ⟨zsm_e _ z75_s, List.forall_mem_cons.mpr ⟨zsm_e _ z75_0, yA_n⟩⟩
theorem zw75 : zwid cq75.2.1.1 cq75.1 0 4 = true := by decide +kernel
set_option maxRecDepth 100000 in
theorem yw75 : yRows gAll LAll yt1 mt75 gHo 4 0 (zby cX0_defineMacro) p75 b75 p75 = true := by decide +kernel
set_option maxRecDepth 100000 in
theorem m75 (l : Launch) : kMet gAll LAll vwCl rFo rZs rRs rNs rTs l yX0_defineMacro cX0_defineMacro 4 none 4 101 cq75 := kmet_y2 (rt := 0) (by decide +kernel) yr75 zw75 rfl yw75 LAll_ok LAll_la yt1_ok gHo_ok rfl (fun G n Qf => List.forall_mem_cons.mpr ⟨⟨cq74, rfl, st76 l (by decide) (by decide)⟩, List.forall_mem_cons.mpr ⟨⟨cq9, rfl, st27 l (by decide) (by decide)⟩, yA_n⟩⟩) rfl (fun G n Rr => yA_n) rfl
/-! 76 Reader.push (IIII)V -/
def mt76 : yMt := ([], ([], ([], [])))
theorem rc76 : yRc cq76 13377 4 = true := by decide +kernel
theorem yr76 : yRun gAll t76 b76 cq76 := yRun_z gAll_tag ruI2_RtI ruJ2_RtJ rqL_ok z76
theorem zw76 : zwid cq76.2.1.1 cq76.1 0 5 = true := by decide +kernel
set_option maxRecDepth 100000 in
theorem yw76 : yRows gAll LAll yt9 mt76 gHo 5 0 (zby cX8_push) p76 b76 p76 = true := by decide +kernel
set_option maxRecDepth 100000 in
theorem m76 (l : Launch) : kMet gAll LAll vwCl rFo rZs rRs rNs rTs l yX8_push cX8_push 5 none 0 0 cq76 := kmet_y2 (rt := 0) (by decide +kernel) yr76 zw76 rfl yw76 LAll_ok LAll_la yt9_ok gHo_ok rfl (fun G n Qf => yA_n) rfl (fun G n Rr => yA_n) rfl
/-! 77 Reader.readRept (I)V -/
theorem hdV_X8_push : yX8_push.cls = RX8 ∧ yX8_push.cls ≠ "java/lang/invoke/MethodHandle" ∧ yX8_push.cls ≠ "java/lang/invoke/VarHandle" ∧ (parseMethodDescriptor yX8_push.desc).map (fun d => d.parameters.length) = some 4 := by decide +kernel
theorem st77 (l : Launch) {G : rGm} {cc : ByteArray} {nL n fr lo : Nat} {ret : Option FieldType} {Qf : kQf} (hf : 1 ≤ fr) (hlo : 24 ≤ lo) : ySite gAll LAll vwCl rFo rZs rRs rNs rTs G l cc nL RX8 ret fr lo n Qf 182 168 cq76 := ys_V 4 13377 10 rc76 lo_13377 kc10 (m76 l) kGood kw2067 kw2068 kw2069 kw167 kw2045 hdV_X8_push hf hlo
def mt77 : yMt := ([(182, (143, 0)), (182, (161, 1)), (182, (168, 2))], ([], ([], [])))
theorem rc77 : yRc cq77 13377 1 = true := by decide +kernel
theorem yr77 : yRun gAll t77 b77 cq77 := yRun_z gAll_tag ruI2_RtI ruJ2_RtJ rqL_ok z77
theorem zw77 : zwid cq77.2.1.1 cq77.1 0 4 = true := by decide +kernel
set_option maxRecDepth 100000 in
theorem yw77 : yRows gAll LAll yt9 mt77 gHo 4 0 (zby cX8_readRept) p77 b77 p77 = true := by decide +kernel
set_option maxRecDepth 100000 in
theorem m77 (l : Launch) : kMet gAll LAll vwCl rFo rZs rRs rNs rTs l yX8_readRept cX8_readRept 4 none 1 24 cq77 := kmet_y2 (rt := 0) (by decide +kernel) yr77 zw77 rfl yw77 LAll_ok LAll_la yt9_ok gHo_ok rfl (fun G n Qf => List.forall_mem_cons.mpr ⟨⟨cq37, rfl, st39 l (by decide) (by decide)⟩, List.forall_mem_cons.mpr ⟨⟨cq70, rfl, st75 l (by decide) (by decide)⟩, List.forall_mem_cons.mpr ⟨⟨cq76, rfl, st77 l (by decide) (by decide)⟩, yA_n⟩⟩⟩) rfl (fun G n Rr => yA_n) rfl
