/-! METHODS, CALLEES FIRST (written by wip/p2/genmeth.py) -/
/-! 0 Instruction.addIndex@x.assembler.instruction (II)V -/
set_option maxRecDepth 100000 in
def b0 : qCd := [([(3, 0, 2, 0), (7, 0, 0, 0), (24, 26829, 104, 0), (3, 0, 2, 0), (24, 26829, 102, 0), (0, (-1), 0, 0)], (1, 0, 2, 1, [])),
  ([(0, 1, 0, 0)], (0, 0, 3, 0, [])),
  ([(0, 0, 0, 0)], (0, 0, 3, 0, [])),
  ([(38, 0, 0, 0), (18, 1, 0, 0), (38, 0, 0, 0), (26, 26829, 104, 0), (3, 0, 2, 0), (3, 1, 0, 0), (38, 0, 0, 0), (26, 26829, 102, 0), (3, 0, 2, 0), (3, 2, 0, 0), (38, 0, 0, 0), (26, 26829, 103, 0), (34, 102, 0, 0), (34, 104, 0, 0), (34, 103, 0, 0), (38, 0, 0, 0)], (4, 0, 0, 0, []))]
def p0 : List Nat := [0, 13, 17, 18]
set_option maxRecDepth 100000 in
def cq0 : qCt := (3, (([(0, (2, ((26829, []), (0, [])))), (1, (0, ((0, [(0, 1)]), (0, [])))), (2, (0, ((0, [(1, 1)]), (0, []))))], [], ([(102, (0, [(2, 1)])), (104, (0, [(3, 1)])), (103, (0, [(4, 1)]))], []), (5, [(0, (0, 15)), (1, (0, 3)), (2, ((-1), 16)), (3, (0, 1)), (4, (0, 3))], [], 0, [], [], [], [])), ([([], [], ([(102, (0, [(5, 1)])), (104, (0, [(6, 1)])), (103, (0, [(7, 1)]))], []), (8, [(5, ((-1), 16)), (6, (0, 1)), (7, (0, 3))], [], 0, [], [], [], []))], [102, 103, 104])))
def t0 : List qCt := []
def mt0 : yMt := ([], ([], ([], [])))
theorem rc0 : yRc cq0 13414 2 = true := by decide +kernel
set_option maxRecDepth 100000 in
def u0 : qCu := []
set_option maxRecDepth 100000 in
theorem z0 : zchk gAll t0 ruI2 ruJ2 rqL b0 u0 cq0 300 [1, 0, 2, 2, 0, 0, 0, 0, 0, 2, 0, 2, 2, 0, 0, 0, 0, 0] = true := sorry
theorem yr0 : yRun gAll t0 b0 cq0 := yRun_z gAll_tag ruI2_RtI ruJ2_RtJ rqL_ok z0
theorem zw0 : zwid cq0.2.1.1 cq0.1 0 3 = true := by decide +kernel
set_option maxRecDepth 100000 in
theorem yw0 : yRows gAll LAll yt3 mt0 gHo 3 0 (zby cX2_addIndex) p0 b0 p0 = true := by decide +kernel
set_option maxRecDepth 100000 in
theorem m0 (l : Launch) : kMet gAll LAll vwCl rFo rZs rRs rNs rTs l yX2_addIndex cX2_addIndex 3 none 0 0 cq0 := kmet_y2 (rt := 0) (by decide +kernel) yr0 zw0 rfl yw0 LAll_ok LAll_la yt3_ok gHo_ok rfl (fun G n Qf => yA_n) rfl (fun G n Rr => yA_n) rfl
/-! 1 Instruction.addRegister@x.assembler.instruction (I)V -/
set_option maxRecDepth 100000 in
def b1 : qCd := [([(3, 0, 2, 0), (24, 26829, 101, 0), (0, (-1), 0, 0)], (1, 1, 2, 1, [])),
  ([(3, 0, 2, 0), (3, 1, 0, 0), (38, 0, 0, 0), (26, 26829, 101, 0)], (0, 0, 3, 0, [])),
  ([(3, 0, 2, 0), (3, 1, 0, 0), (0, 0, 0, 0), (34, 102, 0, 0), (34, 104, 0, 0), (34, 103, 0, 0), (38, 0, 0, 0), (33, 0, 0, 0)], (0, 0, 3, 0, [])),
  ([(34, 101, 0, 0), (38, 0, 0, 0)], (4, 0, 0, 0, []))]
def p1 : List Nat := [0, 8, 16, 22]
set_option maxRecDepth 100000 in
def cq1 : qCt := (2, (([(0, (2, ((26829, []), (0, [])))), (1, (0, ((0, [(0, 1)]), (0, []))))], [], ([(101, (0, [(1, 1)]))], []), (2, [(0, (0, 15)), (1, ((-1), 16))], [], 0, [], [], [], [])), ([([], [], ([(101, (0, [(2, 1)]))], []), (3, [(2, ((-1), 16))], [], 0, [], [], [], []))], [101, 102, 103, 104])))
def t1 : List qCt := [cq0]
theorem hdV_X2_addIndex : yX2_addIndex.cls = RX2 ∧ yX2_addIndex.cls ≠ "java/lang/invoke/MethodHandle" ∧ yX2_addIndex.cls ≠ "java/lang/invoke/VarHandle" ∧ (parseMethodDescriptor yX2_addIndex.desc).map (fun d => d.parameters.length) = some 2 := by decide +kernel
theorem st0 (l : Launch) {G : rGm} {cc : ByteArray} {nL n fr lo : Nat} {ret : Option FieldType} {Qf : kQf} (hf : 1 ≤ fr) (hlo : 22 ≤ lo) : ySite gAll LAll vwCl rFo rZs rRs rNs rTs G l cc nL RX2 ret fr lo n Qf 182 74 cq0 := ys_V 2 13414 4 rc0 lo_13414 kc4 (m0 l) kGood kw1511 kw1388 kw1389 kw142 kw1505 hdV_X2_addIndex hf hlo
def mt1 : yMt := ([(182, (74, 0))], ([], ([], [])))
theorem rc1 : yRc cq1 13414 1 = true := by decide +kernel
set_option maxRecDepth 100000 in
def u1 : qCu := []
set_option maxRecDepth 100000 in
theorem z1 : zchk gAll t1 ruI2 ruJ2 rqL b1 u1 cq1 300 [2, 0, 0, 0, 1, 0, 0, 0] = true := sorry
theorem yr1 : yRun gAll t1 b1 cq1 := yRun_z gAll_tag ruI2_RtI ruJ2_RtJ rqL_ok z1
theorem zw1 : zwid cq1.2.1.1 cq1.1 0 2 = true := by decide +kernel
set_option maxRecDepth 100000 in
theorem yw1 : yRows gAll LAll yt3 mt1 gHo 2 0 (zby cX2_addRegister) p1 b1 p1 = true := by decide +kernel
set_option maxRecDepth 100000 in
theorem m1 (l : Launch) : kMet gAll LAll vwCl rFo rZs rRs rNs rTs l yX2_addRegister cX2_addRegister 2 none 1 22 cq1 := kmet_y2 (rt := 0) (by decide +kernel) yr1 zw1 rfl yw1 LAll_ok LAll_la yt3_ok gHo_ok rfl (fun G n Qf => List.forall_mem_cons.mpr ⟨⟨cq0, rfl, st0 l (by decide) (by decide)⟩, yA_n⟩) rfl (fun G n Rr => yA_n) rfl
/-! 2 Assembler.registerTerm ()Z -/
set_option maxRecDepth 100000 in
def b2 : qCd := [([(3, 0, 2, 0), (25, 26729, 26731, 0), (25, 26731, 26749, 0), (3, 0, 2, 0), (25, 26729, 26731, 0), (7, 0, 0, 0), (24, 26731, 40, 0), (8, 0, 0, 0), (0, 1, 0, 0), (38, 0, 0, 0), (14, 0, 0, 0), (36, 0, 0, 0), (38, 0, 0, 0), (26, 26731, 40, 0), (38, 0, 0, 0), (28, 50, 0, 0), (38, 0, 0, 0), (22, 0, 0, 0), (36, 0, 0, 0), (4, 1, 0, 0), (3, 1, 0, 0), (0, 16, 0, 0)], (1, 2, 2, 1, [])),
  ([(0, 0, 0, 0), (34, 40, 0, 0), (34, 39, 0, 0), (34, 438, 0, 0), (35, 49, 0, 0), (35, 50, 0, 0), (38, 0, 0, 0)], (5, 0, 0, 0, [(0, 0), (1, 0)])),
  ([(3, 0, 2, 0), (25, 26729, 26731, 0), (25, 26731, 26747, 0), (3, 0, 2, 0), (25, 26729, 26731, 0), (24, 26731, 40, 0), (38, 0, 0, 0), (28, 49, 0, 0), (0, 42, 0, 0)], (1, 0, 4, 3, [])),
  ([(3, 0, 2, 0), (25, 26729, 26829, 0), (3, 1, 0, 0), (34, 101, 0, 0), (38, 0, 0, 0), (33, 0, 0, 0), (0, 1, 0, 0), (34, 40, 0, 0), (34, 39, 0, 0), (34, 438, 0, 0), (35, 49, 0, 0), (35, 50, 0, 0), (38, 0, 0, 0)], (5, 0, 0, 0, [(0, 0), (1, 0)])),
  ([(3, 0, 2, 0), (25, 26729, 26731, 0), (7, 0, 0, 0), (24, 26731, 40, 0), (0, 1, 0, 0), (38, 0, 0, 0), (14, 0, 0, 0), (36, 0, 0, 0), (38, 0, 0, 0), (26, 26731, 40, 0), (3, 0, 2, 0), (25, 26729, 26731, 0), (25, 26731, 26749, 0), (3, 0, 2, 0), (25, 26729, 26731, 0), (24, 26731, 40, 0), (38, 0, 0, 0), (28, 50, 0, 0), (4, 2, 1, 0), (3, 0, 2, 0), (25, 26729, 26731, 0), (25, 26731, 26747, 0), (3, 0, 2, 0), (25, 26729, 26731, 0), (24, 26731, 40, 0), (38, 0, 0, 0), (28, 49, 0, 0), (0, 2, 0, 0)], (1, 1, 9, 5, [])),
  ([(3, 2, 1, 0), (1, 1, 0, 0), (23, 0, 0, 0)], (2, 0, 10, 6, [])),
  ([(3, 2, 1, 0), (1, 2, 0, 0), (23, 0, 0, 0)], (2, 0, 10, 7, [])),
  ([(3, 2, 1, 0), (1, 4, 0, 0), (23, 0, 0, 0)], (2, 0, 10, 8, [])),
  ([(3, 2, 1, 0), (1, 8, 0, 0), (23, 0, 0, 0)], (2, 0, 10, 9, [])),
  ([(0, 0, 0, 0), (34, 40, 0, 0), (34, 39, 0, 0), (34, 438, 0, 0), (35, 49, 0, 0), (35, 50, 0, 0), (38, 0, 0, 0)], (5, 0, 0, 0, [(0, 0), (1, 0)])),
  ([(3, 0, 2, 0), (25, 26729, 26731, 0), (7, 0, 0, 0), (24, 26731, 40, 0), (0, 1, 0, 0), (38, 0, 0, 0), (14, 0, 0, 0), (36, 0, 0, 0), (38, 0, 0, 0), (26, 26731, 40, 0), (3, 0, 2, 0), (25, 26729, 26829, 0), (3, 1, 0, 0), (3, 2, 1, 0), (1, 8, 0, 0), (23, 0, 0, 0)], (2, 1, 12, 11, [])),
  ([(0, 3, 0, 0)], (0, 0, 13, 0, [])),
  ([(3, 2, 1, 0), (38, 0, 0, 0), (22, 0, 0, 0), (36, 0, 0, 0), (0, 2, 0, 0), (38, 0, 0, 0), (18, 6, 0, 0)], (0, 0, 13, 0, [])),
  ([(34, 102, 0, 0), (34, 104, 0, 0), (34, 103, 0, 0), (38, 0, 0, 0), (33, 1, 0, 0), (0, 1, 0, 0), (34, 40, 0, 0), (34, 39, 0, 0), (34, 438, 0, 0), (35, 49, 0, 0), (35, 50, 0, 0), (38, 0, 0, 0)], (5, 0, 0, 0, [(0, 0), (1, 0)]))]
def p2 : List Nat := [0, 30, 32, 52, 62, 110, 116, 124, 132, 140, 142, 168, 172, 176]
set_option maxRecDepth 100000 in
def cq2 : qCt := (1, (([(0, (2, ((26729, []), (0, []))))], [], ([(40, (0, [(0, 1)])), (39, (0, [(1, 1)])), (438, (0, [(2, 1)]))], [(49, 0), (50, 1)]), (3, [(0, (2, 1025)), (1, (0, 1024)), (2, (0, 1))], [((-1), [(0, (-1)), (1, 1)])], 2, [(0, 49), (1, 50)], [], [], [(29, ([0], [(0, [(1, 1)]), (1, [(1, 1)]), (0, [])])), (2, ([0], [(0, [(1, 1)]), (1, [(1, 1)]), (0, [])])), (31, ([0, 1], [(0, []), (0, [(1, 1)])])), (32, ([0, 1], [(0, []), (0, [(1, 1)])])), (2, ([1], [(0, [(0, 1)]), (1, [(0, 1)]), (0, [])])), (3, ([1], [(0, [(0, 1)]), (1, [(0, 1)]), (47, [])]))])), ([([], [(0, ((0, [(3, 1)]), (0, [])))], ([(40, (0, [(4, 1)]))], []), (5, [(3, (0, 0)), (4, (3, 1026)), (1, (0, 1026)), (2, (0, 1))], [], 2, [], [], [], [(31, ([0, 1], [(0, []), (0, [(1, 1)])])), (32, ([0, 1], [(0, []), (0, [(1, 1)])]))])),
   ([], [(0, ((0, [(3, 1)]), (0, [])))], ([(40, (0, [(4, 1)]))], []), (5, [(3, (1, 1)), (4, (3, 1026)), (1, (0, 1026)), (2, (0, 1))], [((-1), [(0, (-1)), (4, 1)]), (0, [(1, 1), (4, (-1))])], 2, [], [], [], [(29, ([0], [(0, [(1, 1)]), (1, [(1, 1)]), (0, [])])), (2, ([0], [(0, [(1, 1)]), (1, [(1, 1)]), (0, [])])), (31, ([0, 1], [(0, []), (0, [(1, 1)])])), (32, ([0, 1], [(0, []), (0, [(1, 1)])]))]))], [40, 101, 102, 103, 104])))
def t2 : List qCt := [cq1, cq0]
theorem hdV_X2_addRegister : yX2_addRegister.cls = RX2 ∧ yX2_addRegister.cls ≠ "java/lang/invoke/MethodHandle" ∧ yX2_addRegister.cls ≠ "java/lang/invoke/VarHandle" ∧ (parseMethodDescriptor yX2_addRegister.desc).map (fun d => d.parameters.length) = some 1 := by decide +kernel
theorem st1 (l : Launch) {G : rGm} {cc : ByteArray} {nL n fr lo : Nat} {ret : Option FieldType} {Qf : kQf} (hf : 2 ≤ fr) (hlo : 43 ≤ lo) : ySite gAll LAll vwCl rFo rZs rRs rNs rTs G l cc nL RX0 ret fr lo n Qf 182 428 cq1 := ys_V 1 13414 4 rc1 lo_13414 kc4 (m1 l) kGood kw1381 kw1382 kw1383 kw142 kw1509 hdV_X2_addRegister hf hlo
theorem st2 (l : Launch) {G : rGm} {cc : ByteArray} {nL n fr lo : Nat} {ret : Option FieldType} {Qf : kQf} (hf : 1 ≤ fr) (hlo : 22 ≤ lo) : ySite gAll LAll vwCl rFo rZs rRs rNs rTs G l cc nL RX0 ret fr lo n Qf 182 437 cq0 := ys_V 2 13414 4 rc0 lo_13414 kc4 (m0 l) kGood kw1387 kw1388 kw1389 kw142 kw1505 hdV_X2_addIndex hf hlo
def mt2 : yMt := ([(182, (428, 0)), (182, (437, 1))], ([], ([], [])))
theorem rc2 : yRc cq2 13364 0 = true := by decide +kernel
set_option maxRecDepth 100000 in
def u2 : qCu := []
set_option maxRecDepth 100000 in
theorem z2 : zchk gAll t2 ruI2 ruJ2 rqL b2 u2 cq2 300 [] = true := sorry
theorem yr2 : yRun gAll t2 b2 cq2 := yRun_z gAll_tag ruI2_RtI ruJ2_RtJ rqL_ok z2
theorem zw2 : zwid cq2.2.1.1 cq2.1 0 4 = true := by decide +kernel
set_option maxRecDepth 100000 in
theorem yw2 : yRows gAll LAll yt1 mt2 gHo 4 3 (zby cX0_registerTerm) p2 b2 p2 = true := by decide +kernel
set_option maxRecDepth 100000 in
theorem m2 (l : Launch) : kMet gAll LAll vwCl rFo rZs rRs rNs rTs l yX0_registerTerm cX0_registerTerm 4 (some .boolean) 2 43 cq2 := kmet_y2 (rt := 3) (by decide +kernel) yr2 zw2 rfl yw2 LAll_ok LAll_la yt1_ok gHo_ok rfl (fun G n Qf => List.forall_mem_cons.mpr ⟨⟨cq1, rfl, st1 l (by decide) (by decide)⟩, List.forall_mem_cons.mpr ⟨⟨cq0, rfl, st2 l (by decide) (by decide)⟩, yA_n⟩⟩) rfl (fun G n Rr => yA_n) rfl
/-! 3 Expression.calculation (I)Z -/
set_option maxRecDepth 100000 in
def b3 : qCd := [([(3, 0, 2, 0), (24, 26815, 88, 0), (0, 1, 0, 0), (38, 0, 0, 0), (15, 0, 0, 0), (36, 0, 0, 0), (4, 2, 0, 0), (3, 0, 2, 0), (25, 26815, 26817, 0), (3, 2, 0, 0), (38, 0, 0, 0), (28, 91, 0, 0), (4, 3, 1, 0), (3, 0, 2, 0), (25, 26815, 26817, 0), (3, 0, 2, 0), (24, 26815, 88, 0), (38, 0, 0, 0), (28, 91, 0, 0), (4, 5, 1, 0), (3, 0, 2, 0), (25, 26815, 26819, 0), (3, 2, 0, 0), (0, (-1), 0, 0), (38, 0, 0, 0), (29, 92, 0, 0), (3, 0, 2, 0), (25, 26815, 26821, 0), (3, 2, 0, 0), (0, (-1), 0, 0), (38, 0, 0, 0), (29, 93, 0, 0), (3, 0, 2, 0), (25, 26815, 26817, 0), (3, 2, 0, 0), (1, 0, 0, 0), (38, 0, 0, 0), (29, 91, 0, 0), (3, 1, 0, 0)], (3, 0, 7, 0, [(38, 3), (42, 6), (60, 4), (62, 5), (94, 2), (124, 1)])),
  ([(3, 0, 2, 0), (25, 26815, 26817, 0), (3, 2, 0, 0), (3, 3, 1, 0), (3, 5, 1, 0), (38, 0, 0, 0), (19, 1, 1, 0), (38, 0, 0, 0), (29, 91, 0, 0), (0, 1, 0, 0), (34, 88, 0, 0), (34, 438, 0, 0), (38, 0, 0, 0)], (5, 0, 0, 0, [(0, 0), (1, 0)])),
  ([(3, 0, 2, 0), (25, 26815, 26817, 0), (3, 2, 0, 0), (3, 3, 1, 0), (3, 5, 1, 0), (38, 0, 0, 0), (19, 2, 1, 0), (38, 0, 0, 0), (29, 91, 0, 0), (0, 1, 0, 0), (34, 88, 0, 0), (34, 438, 0, 0), (38, 0, 0, 0)], (5, 0, 0, 0, [(0, 0), (1, 0)])),
  ([(3, 0, 2, 0), (25, 26815, 26817, 0), (3, 2, 0, 0), (3, 3, 1, 0), (3, 5, 1, 0), (38, 0, 0, 0), (19, 0, 1, 0), (38, 0, 0, 0), (29, 91, 0, 0), (0, 1, 0, 0), (34, 88, 0, 0), (34, 438, 0, 0), (38, 0, 0, 0)], (5, 0, 0, 0, [(0, 0), (1, 0)])),
  ([(3, 0, 2, 0), (25, 26815, 26817, 0), (3, 2, 0, 0), (3, 3, 1, 0), (3, 5, 1, 0), (1, 63, 0, 0), (38, 0, 0, 0), (19, 0, 1, 0), (38, 0, 0, 0), (22, 0, 0, 0), (36, 0, 0, 0), (38, 0, 0, 0), (19, 3, 0, 0), (38, 0, 0, 0), (29, 91, 0, 0), (0, 1, 0, 0), (34, 88, 0, 0), (34, 438, 0, 0), (38, 0, 0, 0)], (5, 0, 0, 0, [(0, 0), (1, 0)])),
  ([(3, 0, 2, 0), (25, 26815, 26817, 0), (3, 2, 0, 0), (3, 3, 1, 0), (3, 5, 1, 0), (1, 63, 0, 0), (38, 0, 0, 0), (19, 0, 1, 0), (38, 0, 0, 0), (22, 0, 0, 0), (36, 0, 0, 0), (38, 0, 0, 0), (19, 5, 0, 0), (38, 0, 0, 0), (29, 91, 0, 0), (0, 1, 0, 0), (34, 88, 0, 0), (34, 438, 0, 0), (38, 0, 0, 0)], (5, 0, 0, 0, [(0, 0), (1, 0)])),
  ([(3, 0, 2, 0), (25, 26815, 26817, 0), (3, 2, 0, 0), (3, 3, 1, 0), (3, 5, 1, 0), (16, 1, 0, 0), (37, 0, 0, 0), (38, 0, 0, 0), (29, 91, 0, 0), (0, 1, 0, 0), (34, 88, 0, 0), (34, 438, 0, 0), (38, 0, 0, 0)], (5, 0, 0, 0, [(0, 0), (1, 0)])),
  ([(3, 5, 1, 0), (1, 0, 0, 0), (23, 0, 0, 0)], (2, 1, 9, 8, [])),
  ([(0, 0, 0, 0), (34, 88, 0, 0), (34, 438, 0, 0), (38, 0, 0, 0)], (5, 0, 0, 0, [(0, 0), (1, 0)])),
  ([(3, 0, 2, 0), (25, 26815, 26817, 0), (3, 2, 0, 0), (3, 1, 0, 0), (0, 47, 0, 0)], (1, 1, 11, 10, [])),
  ([(3, 3, 1, 0), (3, 5, 1, 0), (38, 0, 0, 0), (19, 6, 1, 0)], (0, 0, 12, 0, [])),
  ([(3, 3, 1, 0), (3, 5, 1, 0), (38, 0, 0, 0), (19, 7, 1, 0)], (0, 0, 12, 0, [])),
  ([(38, 0, 0, 0), (29, 91, 0, 0), (0, 1, 0, 0), (34, 88, 0, 0), (34, 438, 0, 0), (38, 0, 0, 0)], (5, 0, 0, 0, [(0, 0), (1, 0)]))]
def p3 : List Nat := [0, 104, 116, 128, 140, 157, 174, 186, 193, 195, 206, 213, 217]
set_option maxRecDepth 100000 in
def cq3 : qCt := (2, (([(0, (2, ((26815, []), (0, [])))), (1, (0, ((0, [(0, 1)]), (0, []))))], [], ([(88, (0, [(1, 1)])), (438, (0, [(2, 1)]))], []), (3, [(0, ((-128), 255)), (1, (1, 1025)), (2, (0, 1))], [], 0, [], [], [], [])), ([([], [(0, ((0, [(3, 1)]), (0, [])))], ([], []), (4, [(3, (1, 1)), (2, (0, 1))], [], 0, [], [], [], [])),
   ([], [(0, ((0, [(3, 1)]), (0, [])))], ([], []), (4, [(3, (0, 0)), (2, (0, 1))], [], 0, [], [], [], []))], [91, 92, 93])))
def t3 : List qCt := []
set_option maxRecDepth 100000 in
theorem w3_0 : decode cX1_calculation 47 = .ok (.lookupswitch 139 #[(38, 81), (42, 127), (60, 93), (62, 110), (94, 69), (124, 57)], 57) := by decide +kernel
def mt3 : yMt := ([], ([], ([(47, (3, (0, (7, (0, [(38, 3), (42, 6), (60, 4), (62, 5), (94, 2), (124, 1)])))))], [])))
theorem rc3 : yRc cq3 13407 1 = true := by decide +kernel
set_option maxRecDepth 100000 in
def u3 : qCu := []
set_option maxRecDepth 100000 in
theorem z3 : zchk gAll t3 ruI2 ruJ2 rqL b3 u3 cq3 300 [] = true := sorry
theorem yr3 : yRun gAll t3 b3 cq3 := yRun_z gAll_tag ruI2_RtI ruJ2_RtJ rqL_ok z3
theorem zw3 : zwid cq3.2.1.1 cq3.1 0 7 = true := by decide +kernel
set_option maxRecDepth 100000 in
theorem yw3 : yRows gAll LAll yt2 mt3 gHo 7 3 (zby cX1_calculation) p3 b3 p3 = true := by decide +kernel
set_option maxRecDepth 100000 in
theorem m3 (l : Launch) : kMet gAll LAll vwCl rFo rZs rRs rNs rTs l yX1_calculation cX1_calculation 7 (some .boolean) 0 0 cq3 := kmet_y2 (rt := 3) (by decide +kernel) yr3 zw3 rfl yw3 LAll_ok LAll_la yt2_ok gHo_ok rfl (fun G n Qf => yA_n) rfl (fun G n Rr => List.forall_mem_cons.mpr ⟨k_look _ p3 (fun b t hb ls st s h => kV_at hb h) w3_0 (by decide +kernel) (by decide +kernel) rfl rfl, yA_n⟩) rfl
/-! 4 Expression.constantAt (I)Z -/
set_option maxRecDepth 100000 in
def b4 : qCd := [([(3, 0, 2, 0), (25, 26815, 26819, 0), (3, 1, 0, 0), (38, 0, 0, 0), (28, 92, 0, 0), (0, (-1), 0, 0)], (1, 1, 3, 1, [])),
  ([(3, 0, 2, 0), (25, 26815, 26821, 0), (3, 1, 0, 0), (38, 0, 0, 0), (28, 93, 0, 0), (0, (-1), 0, 0)], (1, 1, 3, 2, [])),
  ([(0, 1, 0, 0)], (0, 0, 4, 0, [])),
  ([(0, 0, 0, 0)], (0, 0, 4, 0, [])),
  ([(34, 438, 0, 0), (38, 0, 0, 0)], (5, 0, 0, 0, [(0, 0), (1, 0)]))]
def p4 : List Nat := [0, 10, 20, 24, 25]
set_option maxRecDepth 100000 in
def cq4 : qCt := (2, (([(0, (2, ((26815, []), (0, [])))), (1, (0, ((0, [(0, 1)]), (0, []))))], [], ([(438, (0, [(1, 1)]))], []), (2, [(0, (0, 1025)), (1, (0, 1))], [], 0, [], [], [], [])), ([([], [(0, ((0, [(2, 1)]), (0, [])))], ([], []), (3, [(2, (0, 0)), (1, (0, 1))], [], 0, [], [], [], [])),
   ([], [(0, ((0, [(2, 1)]), (0, [])))], ([], []), (3, [(2, (1, 1)), (1, (0, 1))], [], 0, [], [], [], []))], [])))
def t4 : List qCt := []
def mt4 : yMt := ([], ([], ([], [])))
theorem rc4 : yRc cq4 13407 1 = true := by decide +kernel
set_option maxRecDepth 100000 in
def u4 : qCu := []
set_option maxRecDepth 100000 in
theorem z4 : zchk gAll t4 ruI2 ruJ2 rqL b4 u4 cq4 300 [0, 1, 0, 0, 0, 1, 0, 1, 0, 0, 0, 1, 0, 1] = true := sorry
theorem yr4 : yRun gAll t4 b4 cq4 := yRun_z gAll_tag ruI2_RtI ruJ2_RtJ rqL_ok z4
theorem zw4 : zwid cq4.2.1.1 cq4.1 0 2 = true := by decide +kernel
set_option maxRecDepth 100000 in
theorem yw4 : yRows gAll LAll yt2 mt4 gHo 2 3 (zby cX1_constantAt) p4 b4 p4 = true := by decide +kernel
set_option maxRecDepth 100000 in
theorem m4 (l : Launch) : kMet gAll LAll vwCl rFo rZs rRs rNs rTs l yX1_constantAt cX1_constantAt 2 (some .boolean) 0 0 cq4 := kmet_y2 (rt := 3) (by decide +kernel) yr4 zw4 rfl yw4 LAll_ok LAll_la yt2_ok gHo_ok rfl (fun G n Qf => yA_n) rfl (fun G n Rr => yA_n) rfl
/-! 5 Expression.difference (ZZ)Z -/
set_option maxRecDepth 100000 in
def b5 : qCd := [([(3, 0, 2, 0), (24, 26815, 88, 0), (0, 1, 0, 0), (38, 0, 0, 0), (15, 0, 0, 0), (36, 0, 0, 0), (4, 3, 0, 0), (3, 1, 0, 0)], (2, 1, 5, 1, [])),
  ([(3, 2, 0, 0)], (2, 1, 5, 2, [])),
  ([(3, 0, 2, 0), (25, 26815, 26821, 0), (3, 3, 0, 0), (38, 0, 0, 0), (28, 93, 0, 0), (0, (-1), 0, 0)], (1, 1, 5, 3, [])),
  ([(3, 0, 2, 0), (25, 26815, 26821, 0), (3, 0, 2, 0), (24, 26815, 88, 0), (38, 0, 0, 0), (28, 93, 0, 0), (0, (-1), 0, 0)], (1, 1, 5, 4, [])),
  ([(0, 1, 0, 0)], (0, 0, 6, 0, [])),
  ([(0, 0, 0, 0)], (0, 0, 6, 0, [])),
  ([(4, 4, 0, 0), (3, 4, 0, 0)], (2, 0, 8, 7, [])),
  ([(3, 0, 2, 0), (25, 26815, 26821, 0), (3, 3, 0, 0), (3, 0, 2, 0), (25, 26815, 26819, 0), (3, 0, 2, 0), (24, 26815, 88, 0), (38, 0, 0, 0), (28, 92, 0, 0), (38, 0, 0, 0), (29, 93, 0, 0)], (0, 0, 8, 0, [])),
  ([(3, 0, 2, 0), (25, 26815, 26817, 0), (3, 3, 0, 0), (11, 0, 0, 0), (38, 0, 0, 0), (28, 91, 0, 0), (3, 0, 2, 0), (25, 26815, 26817, 0), (3, 0, 2, 0), (24, 26815, 88, 0), (38, 0, 0, 0), (28, 91, 0, 0), (15, 1, 0, 0), (37, 0, 0, 0), (38, 0, 0, 0), (29, 91, 0, 0), (3, 2, 0, 0)], (2, 1, 13, 9, [])),
  ([(3, 4, 0, 0)], (2, 0, 11, 14, [])),
  ([(0, 1, 0, 0)], (0, 0, 12, 0, [])),
  ([(0, 0, 0, 0)], (0, 0, 12, 0, [])),
  ([(34, 88, 0, 0), (34, 438, 0, 0), (38, 0, 0, 0)], (5, 0, 0, 0, [(0, 0), (1, 0)])),
  ([(34, 88, 0, 0), (34, 438, 0, 0), (38, 0, 0, 0)], (0, 0, 10, 0, [])),
  ([(34, 88, 0, 0), (34, 438, 0, 0), (38, 0, 0, 0)], (0, 0, 10, 0, []))]
def p5 : List Nat := [0, 11, 15, 25, 38, 42, 43, 50, 65, 87, 92, 96, 97, 92, 92]
set_option maxRecDepth 100000 in
def cq5 : qCt := (3, (([(0, (2, ((26815, []), (0, [])))), (1, (0, ((0, [(0, 1)]), (0, [])))), (2, (0, ((0, [(1, 1)]), (0, []))))], [], ([(88, (0, [(2, 1)])), (438, (0, [(3, 1)]))], []), (4, [(0, (0, 1)), (1, (0, 1)), (2, (1, 1025)), (3, (0, 1))], [], 0, [], [], [], [])), ([([], [(0, ((0, [(4, 1)]), (0, [])))], ([], []), (5, [(4, (0, 0)), (3, (0, 1))], [], 0, [], [], [], [])),
   ([], [(0, ((0, [(4, 1)]), (0, [])))], ([], []), (5, [(4, (1, 1)), (3, (0, 1))], [], 0, [], [], [], []))], [91, 93])))
def t5 : List qCt := []
def mt5 : yMt := ([], ([], ([], [])))
theorem rc5 : yRc cq5 13407 2 = true := by decide +kernel
set_option maxRecDepth 100000 in
def u5_0 : Nat × (qS × (qL × (qL × qL))) := (10, (([], [], ([(88, (0, [(2, 1)])), (438, (0, [(3, 1)]))], []), (4, [(0, (0, 1)), (1, (0, 1)), (2, (0, 1026)), (3, (0, 1))], [], 0, [], [], [], [])), ((0, []), ((0, []), (0, [])))))
def u5 : qCu := [u5_0]
set_option maxRecDepth 100000 in
theorem z5_s : zsm (zblk gAll cq5.2.2.2 t5 ruI2 ruJ2 rqL b5 cq5 (zrun gAll cq5.2.2.2 t5 ruI2 ruJ2 rqL b5 u5 cq5 none 300) 0 cq5.2.1 []) = true := sorry
set_option maxRecDepth 100000 in
theorem z5_0 : zsm (zfrom gAll cq5.2.2.2 t5 ruI2 ruJ2 rqL b5 u5 cq5 300 u5_0 [0, 1]) = true := sorry
theorem yr5 : yRun gAll t5 b5 cq5 := yRun_p (cuts := u5) (fuel := 300) gAll_tag ruI2_RtI ruJ2_RtJ rqL_ok ⟨zsm_e _ z5_s, List.forall_mem_cons.mpr ⟨zsm_e _ z5_0, yA_n⟩⟩
theorem zw5 : zwid cq5.2.1.1 cq5.1 0 5 = true := by decide +kernel
set_option maxRecDepth 100000 in
theorem yw5 : yRows gAll LAll yt2 mt5 gHo 5 3 (zby cX1_difference) p5 b5 p5 = true := by decide +kernel
set_option maxRecDepth 100000 in
theorem m5 (l : Launch) : kMet gAll LAll vwCl rFo rZs rRs rNs rTs l yX1_difference cX1_difference 5 (some .boolean) 0 0 cq5 := kmet_y2 (rt := 3) (by decide +kernel) yr5 zw5 rfl yw5 LAll_ok LAll_la yt2_ok gHo_ok rfl (fun G n Qf => yA_n) rfl (fun G n Rr => yA_n) rfl
/-! 6 Expression.front (II)V -/
set_option maxRecDepth 100000 in
def b6 : qCd := [([(3, 0, 2, 0), (25, 26815, 26817, 0), (3, 2, 0, 0), (3, 1, 0, 0), (0, 45, 0, 0)], (1, 1, 2, 1, [])),
  ([(3, 0, 2, 0), (25, 26815, 26817, 0), (3, 2, 0, 0), (38, 0, 0, 0), (28, 91, 0, 0), (17, 1, 0, 0), (37, 0, 0, 0)], (0, 0, 5, 0, [])),
  ([(3, 1, 0, 0), (0, 126, 0, 0)], (1, 1, 4, 3, [])),
  ([(3, 0, 2, 0), (25, 26815, 26817, 0), (3, 2, 0, 0), (38, 0, 0, 0), (28, 91, 0, 0), (1, (-1), 0, 0), (38, 0, 0, 0), (19, 2, 1, 0)], (0, 0, 5, 0, [])),
  ([(3, 0, 2, 0), (25, 26815, 26817, 0), (3, 2, 0, 0), (38, 0, 0, 0), (28, 91, 0, 0)], (0, 0, 5, 0, [])),
  ([(38, 0, 0, 0), (29, 91, 0, 0), (34, 438, 0, 0), (38, 0, 0, 0)], (4, 0, 0, 0, []))]
def p6 : List Nat := [0, 11, 21, 27, 40, 46]
set_option maxRecDepth 100000 in
def cq6 : qCt := (3, (([(0, (2, ((26815, []), (0, [])))), (1, (0, ((0, [(0, 1)]), (0, [])))), (2, (0, ((0, [(1, 1)]), (0, []))))], [], ([(438, (0, [(2, 1)]))], []), (3, [(0, (0, 126)), (1, (0, 1025)), (2, (0, 1))], [], 0, [], [], [], [])), ([([], [], ([], []), (3, [(2, (0, 1))], [], 0, [], [], [], []))], [91])))
def t6 : List qCt := []
def mt6 : yMt := ([], ([], ([], [])))
theorem rc6 : yRc cq6 13407 2 = true := by decide +kernel
set_option maxRecDepth 100000 in
def u6 : qCu := []
set_option maxRecDepth 100000 in
theorem z6 : zchk gAll t6 ruI2 ruJ2 rqL b6 u6 cq6 300 [] = true := sorry
theorem yr6 : yRun gAll t6 b6 cq6 := yRun_z gAll_tag ruI2_RtI ruJ2_RtJ rqL_ok z6
theorem zw6 : zwid cq6.2.1.1 cq6.1 0 3 = true := by decide +kernel
set_option maxRecDepth 100000 in
theorem yw6 : yRows gAll LAll yt2 mt6 gHo 3 0 (zby cX1_front) p6 b6 p6 = true := by decide +kernel
set_option maxRecDepth 100000 in
theorem m6 (l : Launch) : kMet gAll LAll vwCl rFo rZs rRs rNs rTs l yX1_front cX1_front 3 none 0 0 cq6 := kmet_y2 (rt := 0) (by decide +kernel) yr6 zw6 rfl yw6 LAll_ok LAll_la yt2_ok gHo_ok rfl (fun G n Qf => yA_n) rfl (fun G n Rr => yA_n) rfl
/-! 7 Expression.sum (ZZ)Z -/
set_option maxRecDepth 100000 in
def b7 : qCd := [([(3, 0, 2, 0), (24, 26815, 88, 0), (0, 1, 0, 0), (38, 0, 0, 0), (15, 0, 0, 0), (36, 0, 0, 0), (4, 3, 0, 0), (3, 1, 0, 0)], (2, 0, 2, 1, [])),
  ([(3, 0, 2, 0), (25, 26815, 26819, 0), (3, 3, 0, 0), (3, 0, 2, 0), (25, 26815, 26819, 0), (3, 0, 2, 0), (24, 26815, 88, 0), (38, 0, 0, 0), (28, 92, 0, 0), (38, 0, 0, 0), (29, 92, 0, 0), (3, 0, 2, 0), (25, 26815, 26821, 0), (3, 3, 0, 0), (3, 0, 2, 0), (25, 26815, 26821, 0), (3, 0, 2, 0), (24, 26815, 88, 0), (38, 0, 0, 0), (28, 93, 0, 0), (38, 0, 0, 0), (29, 93, 0, 0)], (0, 0, 2, 0, [])),
  ([(3, 0, 2, 0), (25, 26815, 26817, 0), (3, 3, 0, 0), (11, 0, 0, 0), (38, 0, 0, 0), (28, 91, 0, 0), (3, 0, 2, 0), (25, 26815, 26817, 0), (3, 0, 2, 0), (24, 26815, 88, 0), (38, 0, 0, 0), (28, 91, 0, 0), (14, 1, 0, 0), (37, 0, 0, 0), (38, 0, 0, 0), (29, 91, 0, 0), (3, 1, 0, 0)], (2, 1, 4, 3, [])),
  ([(3, 2, 0, 0)], (2, 0, 5, 4, [])),
  ([(0, 1, 0, 0)], (0, 0, 6, 0, [])),
  ([(0, 0, 0, 0)], (0, 0, 6, 0, [])),
  ([(34, 88, 0, 0), (34, 438, 0, 0), (38, 0, 0, 0)], (5, 0, 0, 0, [(0, 0), (1, 0)]))]
def p7 : List Nat := [0, 11, 41, 63, 67, 71, 72]
set_option maxRecDepth 100000 in
def cq7 : qCt := (3, (([(0, (2, ((26815, []), (0, [])))), (1, (0, ((0, [(0, 1)]), (0, [])))), (2, (0, ((0, [(1, 1)]), (0, []))))], [], ([(88, (0, [(2, 1)])), (438, (0, [(3, 1)]))], []), (4, [(0, (0, 1)), (1, (0, 1)), (2, (1, 1025)), (3, (0, 1))], [], 0, [], [], [], [])), ([([], [(0, ((0, [(4, 1)]), (0, [])))], ([], []), (5, [(4, (0, 0)), (3, (0, 1))], [], 0, [], [], [], [])),
   ([], [(0, ((0, [(4, 1)]), (0, [])))], ([], []), (5, [(4, (1, 1)), (3, (0, 1))], [], 0, [], [], [], []))], [91, 92, 93])))
def t7 : List qCt := []
def mt7 : yMt := ([], ([], ([], [])))
theorem rc7 : yRc cq7 13407 2 = true := by decide +kernel
set_option maxRecDepth 100000 in
def u7 : qCu := []
set_option maxRecDepth 100000 in
theorem z7 : zchk gAll t7 ruI2 ruJ2 rqL b7 u7 cq7 300 [] = true := sorry
theorem yr7 : yRun gAll t7 b7 cq7 := yRun_z gAll_tag ruI2_RtI ruJ2_RtJ rqL_ok z7
theorem zw7 : zwid cq7.2.1.1 cq7.1 0 4 = true := by decide +kernel
set_option maxRecDepth 100000 in
theorem yw7 : yRows gAll LAll yt2 mt7 gHo 4 3 (zby cX1_sum) p7 b7 p7 = true := by decide +kernel
set_option maxRecDepth 100000 in
theorem m7 (l : Launch) : kMet gAll LAll vwCl rFo rZs rRs rNs rTs l yX1_sum cX1_sum 4 (some .boolean) 0 0 cq7 := kmet_y2 (rt := 3) (by decide +kernel) yr7 zw7 rfl yw7 LAll_ok LAll_la yt2_ok gHo_ok rfl (fun G n Qf => yA_n) rfl (fun G n Rr => yA_n) rfl
/-! 8 java/lang/Math.min (II)I -/
set_option maxRecDepth 100000 in
def b8 : qCd := [([(3, 0, 0, 0), (3, 1, 0, 0)], (1, 4, 2, 1, [])),
  ([(3, 0, 0, 0)], (0, 0, 3, 0, [])),
  ([(3, 1, 0, 0)], (0, 0, 3, 0, [])),
  ([(38, 0, 0, 0)], (5, 0, 0, 0, [((-2147483648), 0), (2147483647, 0)]))]
def p8 : List Nat := [0, 5, 9, 10]
set_option maxRecDepth 100000 in
def cq8 : qCt := (2, (([(0, (0, ((0, [(0, 1)]), (0, [])))), (1, (0, ((0, [(1, 1)]), (0, []))))], [], ([], []), (2, [(0, ((-2147483648), 2147483647)), (1, ((-2147483648), 2147483647))], [], 0, [], [], [], [])), ([([], [(0, ((0, [(0, 1)]), (0, [])))], ([], []), (2, [], [(0, [(0, (-1)), (1, 1)])], 0, [], [], [], [])),
   ([], [(0, ((0, [(1, 1)]), (0, [])))], ([], []), (2, [], [(0, [(0, 1), (1, (-1))])], 0, [], [], [], []))], [])))
def t8 : List qCt := []
def mt8 : yMt := ([], ([], ([], [])))
set_option maxRecDepth 100000 in
def u8 : qCu := []
set_option maxRecDepth 100000 in
theorem z8 : zchk gAll t8 ruI2 ruJ2 rqL b8 u8 cq8 300 [1, 0, 1, 1, 0, 1, 1, 0, 0, 1, 0, 1] = true := sorry
theorem yr8 : yRun gAll t8 b8 cq8 := yRun_z gAll_tag ruI2_RtI ruJ2_RtJ rqL_ok z8
theorem zw8 : zwid cq8.2.1.1 cq8.1 0 2 = true := by decide +kernel
set_option maxRecDepth 100000 in
theorem yw8 : yRows gAll LAll yt16 mt8 gHo 2 1 (zby cJ9_min_7cf53) p8 b8 p8 = true := by decide +kernel
set_option maxRecDepth 100000 in
theorem m8 (l : Launch) : kMet gAll LAll vwCl rFo rZs rRs rNs rTs l yJ9_min_7cf53 cJ9_min_7cf53 2 (some .int) 0 0 cq8 := kmet_y2 (rt := 1) (by decide +kernel) yr8 zw8 rfl yw8 LAll_ok LAll_la yt16_ok gHo_ok rfl (fun G n Qf => yA_n) rfl (fun G n Rr => yA_n) rfl
/-! 9 Line.blame (I)V -/
set_option maxRecDepth 100000 in
def b9 : qCd := [([(3, 0, 2, 0), (3, 0, 2, 0), (24, 26731, 41, 0)], (2, 1, 2, 1, [])),
  ([(3, 1, 0, 0)], (0, 0, 3, 0, [])),
  ([(3, 0, 2, 0), (24, 26731, 41, 0), (3, 1, 0, 0), (38, 0, 0, 0), (33, 0, 0, 0)], (0, 0, 3, 0, [])),
  ([(38, 0, 0, 0), (26, 26731, 41, 0), (38, 0, 0, 0), (39, 438, 3, 0), (34, 438, 0, 0), (34, 41, 0, 0), (38, 0, 0, 0)], (4, 0, 0, 0, []))]
def p9 : List Nat := [0, 8, 12, 20]
set_option maxRecDepth 100000 in
def cq9 : qCt := (2, (([(0, (2, ((26731, []), (0, [])))), (1, (0, ((0, [(0, 1)]), (0, []))))], [], ([(438, (0, [(1, 1)])), (41, (0, [(2, 1)]))], []), (3, [(0, (1, 10)), (2, (0, 10)), (1, (0, 1))], [], 0, [], [], [], [])), ([([], [], ([(438, (0, [(3, 1)])), (41, (0, [(4, 1)]))], []), (5, [(4, (1, 10)), (3, (1, 1))], [(0, [(0, 1), (4, (-1))])], 0, [], [], [], []))], [41, 438])))
def t9 : List qCt := [cq8]
theorem hdS_J9_min_7cf53 : yJ9_min_7cf53.cls ≠ "java/lang/invoke/MethodHandle" ∧ yJ9_min_7cf53.cls ≠ "java/lang/invoke/VarHandle" ∧ (parseMethodDescriptor yJ9_min_7cf53.desc).map (fun d => d.parameters.length) = some 2 := by decide +kernel
theorem st3 (l : Launch) {G : rGm} {cc : ByteArray} {nL n fr lo : Nat} {ret : Option FieldType} {Qf : kQf} (hf : 1 ≤ fr) (hlo : 21 ≤ lo) : ySite gAll LAll vwCl rFo rZs rRs rNs rTs G l cc nL RX3 ret fr lo n Qf 184 94 cq8 := ys_S 2 rfl (m8 l) kGood kw1592 kw285 kw286 kw287 hdS_J9_min_7cf53 hf hlo
def mt9 : yMt := ([(184, (94, 0))], ([], ([], [])))
theorem rc9 : yRc cq9 13365 1 = true := by decide +kernel
set_option maxRecDepth 100000 in
def u9 : qCu := []
set_option maxRecDepth 100000 in
theorem z9 : zchk gAll t9 ruI2 ruJ2 rqL b9 u9 cq9 300 [] = true := sorry
theorem yr9 : yRun gAll t9 b9 cq9 := yRun_z gAll_tag ruI2_RtI ruJ2_RtJ rqL_ok z9
theorem zw9 : zwid cq9.2.1.1 cq9.1 0 2 = true := by decide +kernel
set_option maxRecDepth 100000 in
theorem yw9 : yRows gAll LAll yt4 mt9 gHo 2 0 (zby cX3_blame) p9 b9 p9 = true := by decide +kernel
set_option maxRecDepth 100000 in
theorem m9 (l : Launch) : kMet gAll LAll vwCl rFo rZs rRs rNs rTs l yX3_blame cX3_blame 2 none 1 21 cq9 := kmet_y2 (rt := 0) (by decide +kernel) yr9 zw9 rfl yw9 LAll_ok LAll_la yt4_ok gHo_ok rfl (fun G n Qf => List.forall_mem_cons.mpr ⟨⟨cq8, rfl, st3 l (by decide) (by decide)⟩, yA_n⟩) rfl (fun G n Rr => yA_n) rfl
/-! 10 Expression.apply (I)V -/
set_option maxRecDepth 100000 in
def b10 : qCd := [([(3, 1, 0, 0), (0, 256, 0, 0)], (1, 2, 7, 1, [])),
  ([(3, 0, 2, 0), (24, 26815, 88, 0), (0, 1, 0, 0)], (1, 2, 7, 2, [])),
  ([(3, 1, 0, 0), (0, 299, 0, 0)], (1, 0, 4, 3, [])),
  ([(3, 0, 2, 0), (3, 0, 2, 0), (24, 26815, 88, 0), (0, 1, 0, 0), (38, 0, 0, 0), (15, 0, 0, 0), (36, 0, 0, 0), (34, 438, 0, 0), (38, 0, 0, 0), (33, 0, 0, 0)], (2, 0, 5, 4, [])),
  ([(0, 1, 0, 0)], (0, 0, 6, 0, [])),
  ([(0, 0, 0, 0)], (0, 0, 6, 0, [])),
  ([(4, 2, 0, 0), (3, 0, 2, 0), (3, 1, 0, 0), (0, 256, 0, 0), (38, 0, 0, 0), (15, 0, 0, 0), (36, 0, 0, 0), (3, 0, 2, 0), (24, 26815, 88, 0), (0, 1, 0, 0), (38, 0, 0, 0), (15, 0, 0, 0), (36, 0, 0, 0), (34, 438, 0, 0), (38, 0, 0, 0), (33, 1, 0, 0), (34, 88, 0, 0), (34, 40, 0, 0), (34, 39, 0, 0), (34, 438, 0, 0), (34, 41, 0, 0), (38, 0, 0, 0)], (0, 0, 19, 0, [])),
  ([(3, 0, 2, 0), (24, 26815, 88, 0), (0, 2, 0, 0)], (1, 3, 9, 8, [])),
  ([(0, 0, 0, 0), (4, 2, 0, 0), (34, 88, 0, 0), (34, 40, 0, 0), (34, 39, 0, 0), (34, 438, 0, 0), (34, 41, 0, 0), (38, 0, 0, 0)], (0, 0, 19, 0, [])),
  ([(3, 0, 2, 0), (7, 0, 0, 0), (24, 26815, 88, 0), (0, 1, 0, 0), (38, 0, 0, 0), (15, 0, 0, 0), (36, 0, 0, 0), (38, 0, 0, 0), (26, 26815, 88, 0), (3, 0, 2, 0), (3, 0, 2, 0), (24, 26815, 88, 0), (0, 1, 0, 0), (38, 0, 0, 0), (15, 0, 0, 0), (36, 0, 0, 0), (34, 438, 0, 0), (38, 0, 0, 0), (33, 0, 0, 0), (4, 3, 0, 0), (3, 0, 2, 0), (3, 0, 2, 0), (24, 26815, 88, 0), (34, 438, 0, 0), (38, 0, 0, 0), (33, 0, 0, 0), (4, 4, 0, 0), (3, 1, 0, 0), (0, 43, 0, 0)], (1, 1, 11, 10, [])),
  ([(3, 0, 2, 0), (3, 3, 0, 0), (3, 4, 0, 0), (34, 88, 0, 0), (34, 438, 0, 0), (38, 0, 0, 0), (33, 2, 0, 0)], (0, 0, 18, 0, [])),
  ([(3, 1, 0, 0), (0, 45, 0, 0)], (1, 1, 13, 12, [])),
  ([(3, 0, 2, 0), (3, 3, 0, 0), (3, 4, 0, 0), (34, 88, 0, 0), (34, 438, 0, 0), (38, 0, 0, 0), (33, 3, 0, 0)], (0, 0, 18, 0, [])),
  ([(3, 0, 2, 0), (3, 1, 0, 0), (34, 88, 0, 0), (34, 438, 0, 0), (38, 0, 0, 0), (33, 4, 0, 0)], (2, 0, 17, 14, [])),
  ([(3, 3, 0, 0)], (2, 0, 17, 15, [])),
  ([(3, 4, 0, 0)], (2, 0, 17, 16, [])),
  ([(0, 1, 0, 0)], (0, 0, 18, 0, [])),
  ([(0, 0, 0, 0)], (0, 0, 18, 0, [])),
  ([(4, 2, 0, 0), (34, 88, 0, 0), (34, 40, 0, 0), (34, 39, 0, 0), (34, 438, 0, 0), (34, 41, 0, 0), (38, 0, 0, 0)], (0, 0, 19, 0, [])),
  ([(3, 2, 0, 0)], (2, 1, 21, 20, [])),
  ([(3, 0, 2, 0), (25, 26815, 26731, 0), (0, 7, 0, 0), (34, 438, 0, 0), (34, 41, 0, 0), (38, 0, 0, 0), (33, 5, 0, 0)], (0, 0, 21, 0, [])),
  ([(34, 88, 0, 0), (34, 40, 0, 0), (34, 39, 0, 0), (34, 438, 0, 0), (34, 41, 0, 0), (38, 0, 0, 0)], (4, 0, 0, 0, []))]
def p10 : List Nat := [0, 7, 15, 22, 35, 39, 40, 59, 67, 72, 109, 119, 125, 135, 143, 147, 152, 156, 157, 158, 162, 171]
set_option maxRecDepth 100000 in
def cq10 : qCt := (2, (([(0, (2, ((26815, []), (0, [])))), (1, (0, ((0, [(0, 1)]), (0, []))))], [], ([(88, (0, [(1, 1)])), (40, (0, [(2, 1)])), (39, (0, [(3, 1)])), (438, (0, [(4, 1)])), (41, (0, [(5, 1)]))], []), (6, [(0, ((-128), 382)), (1, (0, 1026)), (5, (0, 10)), (2, (0, 1027)), (3, (0, 1026)), (4, (0, 1))], [(0, [(4, (-1)), (5, 1)]), (0, [(4, 10), (5, (-1))])], 0, [], [], [], [])), ([([], [], ([(88, (0, [(6, 1)])), (438, (0, [(7, 1)])), (41, (0, [(8, 1)]))], []), (9, [(8, (0, 10)), (6, (0, 1026)), (7, (0, 1)), (3, (0, 1026))], [(0, [(1, 1), (6, (-1))]), (0, [(7, (-1)), (8, 1)]), (0, [(7, 10), (8, (-1))]), (0, [(4, (-1)), (7, 1)])], 0, [], [], [], []))], [41, 88, 91, 92, 93, 438])))
def t10 : List qCt := [cq4, cq6, cq7, cq5, cq3, cq9]
theorem hdV_X1_constantAt : yX1_constantAt.cls = RX1 ∧ yX1_constantAt.cls ≠ "java/lang/invoke/MethodHandle" ∧ yX1_constantAt.cls ≠ "java/lang/invoke/VarHandle" ∧ (parseMethodDescriptor yX1_constantAt.desc).map (fun d => d.parameters.length) = some 1 := by decide +kernel
theorem st4 (l : Launch) {G : rGm} {cc : ByteArray} {nL n fr lo : Nat} {ret : Option FieldType} {Qf : kQf} (hf : 1 ≤ fr) (hlo : 21 ≤ lo) : ySite gAll LAll vwCl rFo rZs rRs rNs rTs G l cc nL RX1 ret fr lo n Qf 182 42 cq4 := ys_V 1 13407 3 rc4 lo_13407 kc3 (m4 l) kGood kw1440 kw1441 kw1442 kw181 kw1466 hdV_X1_constantAt hf hlo
theorem hdV_X1_front : yX1_front.cls = RX1 ∧ yX1_front.cls ≠ "java/lang/invoke/MethodHandle" ∧ yX1_front.cls ≠ "java/lang/invoke/VarHandle" ∧ (parseMethodDescriptor yX1_front.desc).map (fun d => d.parameters.length) = some 2 := by decide +kernel
theorem st5 (l : Launch) {G : rGm} {cc : ByteArray} {nL n fr lo : Nat} {ret : Option FieldType} {Qf : kQf} (hf : 1 ≤ fr) (hlo : 22 ≤ lo) : ySite gAll LAll vwCl rFo rZs rRs rNs rTs G l cc nL RX1 ret fr lo n Qf 182 146 cq6 := ys_V 2 13407 3 rc6 lo_13407 kc3 (m6 l) kGood kw1443 kw1444 kw1445 kw181 kw1468 hdV_X1_front hf hlo
theorem hdV_X1_sum : yX1_sum.cls = RX1 ∧ yX1_sum.cls ≠ "java/lang/invoke/MethodHandle" ∧ yX1_sum.cls ≠ "java/lang/invoke/VarHandle" ∧ (parseMethodDescriptor yX1_sum.desc).map (fun d => d.parameters.length) = some 2 := by decide +kernel
theorem st6 (l : Launch) {G : rGm} {cc : ByteArray} {nL n fr lo : Nat} {ret : Option FieldType} {Qf : kQf} (hf : 1 ≤ fr) (hlo : 23 ≤ lo) : ySite gAll LAll vwCl rFo rZs rRs rNs rTs G l cc nL RX1 ret fr lo n Qf 182 150 cq7 := ys_V 2 13407 3 rc7 lo_13407 kc3 (m7 l) kGood kw1446 kw1447 kw1448 kw181 kw1504 hdV_X1_sum hf hlo
theorem hdV_X1_difference : yX1_difference.cls = RX1 ∧ yX1_difference.cls ≠ "java/lang/invoke/MethodHandle" ∧ yX1_difference.cls ≠ "java/lang/invoke/VarHandle" ∧ (parseMethodDescriptor yX1_difference.desc).map (fun d => d.parameters.length) = some 2 := by decide +kernel
theorem st7 (l : Launch) {G : rGm} {cc : ByteArray} {nL n fr lo : Nat} {ret : Option FieldType} {Qf : kQf} (hf : 1 ≤ fr) (hlo : 24 ≤ lo) : ySite gAll LAll vwCl rFo rZs rRs rNs rTs G l cc nL RX1 ret fr lo n Qf 182 154 cq5 := ys_V 2 13407 3 rc5 lo_13407 kc3 (m5 l) kGood kw1449 kw1450 kw1451 kw181 kw1467 hdV_X1_difference hf hlo
theorem hdV_X1_calculation : yX1_calculation.cls = RX1 ∧ yX1_calculation.cls ≠ "java/lang/invoke/MethodHandle" ∧ yX1_calculation.cls ≠ "java/lang/invoke/VarHandle" ∧ (parseMethodDescriptor yX1_calculation.desc).map (fun d => d.parameters.length) = some 1 := by decide +kernel
theorem st8 (l : Launch) {G : rGm} {cc : ByteArray} {nL n fr lo : Nat} {ret : Option FieldType} {Qf : kQf} (hf : 1 ≤ fr) (hlo : 26 ≤ lo) : ySite gAll LAll vwCl rFo rZs rRs rNs rTs G l cc nL RX1 ret fr lo n Qf 182 157 cq3 := ys_V 1 13407 3 rc3 lo_13407 kc3 (m3 l) kGood kw1452 kw1453 kw1454 kw181 kw1464 hdV_X1_calculation hf hlo
theorem hdV_X3_blame : yX3_blame.cls = RX3 ∧ yX3_blame.cls ≠ "java/lang/invoke/MethodHandle" ∧ yX3_blame.cls ≠ "java/lang/invoke/VarHandle" ∧ (parseMethodDescriptor yX3_blame.desc).map (fun d => d.parameters.length) = some 1 := by decide +kernel
theorem st9 (l : Launch) {G : rGm} {cc : ByteArray} {nL n fr lo : Nat} {ret : Option FieldType} {Qf : kQf} (hf : 2 ≤ fr) (hlo : 42 ≤ lo) : ySite gAll LAll vwCl rFo rZs rRs rNs rTs G l cc nL RX1 ret fr lo n Qf 182 100 cq9 := ys_V 1 13365 5 rc9 lo_13365 kc5 (m9 l) kGood kw1455 kw1173 kw1174 kw90 kw1591 hdV_X3_blame hf hlo
def mt10 : yMt := ([(182, (42, 0)), (182, (146, 1)), (182, (150, 2)), (182, (154, 3)), (182, (157, 4)), (182, (100, 5))], ([], ([], [])))
theorem rc10 : yRc cq10 13407 1 = true := by decide +kernel
set_option maxRecDepth 100000 in
def u10_0 : Nat × (qS × (qL × (qL × qL))) := (19, (([(0, (2, ((26815, []), (0, [])))), (2, (0, ((0, [(6, 1)]), (0, []))))], [], ([(88, (0, [(7, 1)])), (40, (0, [(2, 1)])), (39, (0, [(3, 1)])), (438, (0, [(8, 1)])), (41, (0, [(9, 1)]))], []), (10, [(0, ((-2147483648), 2147483647)), (1, (0, 1026)), (5, (0, 10)), (2, (0, 1027)), (3, (0, 1026)), (4, (0, 1)), (6, (0, 1)), (7, (0, 1026)), (9, (0, 10)), (8, (0, 1))], [(0, [(1, 1), (7, (-1))]), (0, [(8, (-1)), (9, 1)]), (0, [(8, 10), (9, (-1))]), (0, [(4, (-1)), (8, 1)])], 0, [], [], [], [])), ((0, []), ((0, []), (0, [])))))
def u10 : qCu := [u10_0]
set_option maxRecDepth 100000 in
theorem z10_s : zsm (zblk gAll cq10.2.2.2 t10 ruI2 ruJ2 rqL b10 cq10 (zrun gAll cq10.2.2.2 t10 ruI2 ruJ2 rqL b10 u10 cq10 none 300) 0 cq10.2.1 []) = true := sorry
set_option maxRecDepth 100000 in
theorem z10_0 : zsm (zfrom gAll cq10.2.2.2 t10 ruI2 ruJ2 rqL b10 u10 cq10 300 u10_0 []) = true := sorry
theorem yr10 : yRun gAll t10 b10 cq10 := yRun_p (cuts := u10) (fuel := 300) gAll_tag ruI2_RtI ruJ2_RtJ rqL_ok ⟨zsm_e _ z10_s, List.forall_mem_cons.mpr ⟨zsm_e _ z10_0, yA_n⟩⟩
theorem zw10 : zwid cq10.2.1.1 cq10.1 0 5 = true := by decide +kernel
set_option maxRecDepth 100000 in
theorem yw10 : yRows gAll LAll yt2 mt10 gHo 5 0 (zby cX1_apply) p10 b10 p10 = true := by decide +kernel
set_option maxRecDepth 100000 in
theorem m10 (l : Launch) : kMet gAll LAll vwCl rFo rZs rRs rNs rTs l yX1_apply cX1_apply 5 none 2 42 cq10 := kmet_y2 (rt := 0) (by decide +kernel) yr10 zw10 rfl yw10 LAll_ok LAll_la yt2_ok gHo_ok rfl (fun G n Qf => List.forall_mem_cons.mpr ⟨⟨cq4, rfl, st4 l (by decide) (by decide)⟩, List.forall_mem_cons.mpr ⟨⟨cq6, rfl, st5 l (by decide) (by decide)⟩, List.forall_mem_cons.mpr ⟨⟨cq7, rfl, st6 l (by decide) (by decide)⟩, List.forall_mem_cons.mpr ⟨⟨cq5, rfl, st7 l (by decide) (by decide)⟩, List.forall_mem_cons.mpr ⟨⟨cq3, rfl, st8 l (by decide) (by decide)⟩, List.forall_mem_cons.mpr ⟨⟨cq9, rfl, st9 l (by decide) (by decide)⟩, yA_n⟩⟩⟩⟩⟩⟩) rfl (fun G n Rr => yA_n) rfl
/-! 11 Expression.beZero ()V -/
set_option maxRecDepth 100000 in
def b11 : qCd := [([(3, 0, 2, 0), (25, 26815, 26817, 0), (0, 0, 0, 0), (1, 0, 0, 0), (38, 0, 0, 0), (29, 91, 0, 0), (3, 0, 2, 0), (25, 26815, 26819, 0), (0, 0, 0, 0), (0, (-1), 0, 0), (38, 0, 0, 0), (29, 92, 0, 0), (3, 0, 2, 0), (25, 26815, 26821, 0), (0, 0, 0, 0), (0, (-1), 0, 0), (38, 0, 0, 0), (29, 93, 0, 0), (34, 438, 0, 0), (38, 0, 0, 0)], (4, 0, 0, 0, []))]
def p11 : List Nat := [0]
set_option maxRecDepth 100000 in
def cq11 : qCt := (1, (([(0, (2, ((26815, []), (0, []))))], [], ([(438, (0, [(0, 1)]))], []), (1, [(0, (0, 1))], [], 0, [], [], [], [])), ([([], [], ([], []), (1, [(0, (0, 1))], [], 0, [], [], [], []))], [91, 92, 93])))
def t11 : List qCt := []
def mt11 : yMt := ([], ([], ([], [])))
theorem rc11 : yRc cq11 13407 0 = true := by decide +kernel
set_option maxRecDepth 100000 in
def u11 : qCu := []
set_option maxRecDepth 100000 in
theorem z11 : zchk gAll t11 ruI2 ruJ2 rqL b11 u11 cq11 300 [0, 1, 0, 1, 0, 1, 0, 0] = true := sorry
theorem yr11 : yRun gAll t11 b11 cq11 := yRun_z gAll_tag ruI2_RtI ruJ2_RtJ rqL_ok z11
theorem zw11 : zwid cq11.2.1.1 cq11.1 0 1 = true := by decide +kernel
set_option maxRecDepth 100000 in
theorem yw11 : yRows gAll LAll yt2 mt11 gHo 1 0 (zby cX1_beZero) p11 b11 p11 = true := by decide +kernel
set_option maxRecDepth 100000 in
theorem m11 (l : Launch) : kMet gAll LAll vwCl rFo rZs rRs rNs rTs l yX1_beZero cX1_beZero 1 none 0 0 cq11 := kmet_y2 (rt := 0) (by decide +kernel) yr11 zw11 rfl yw11 LAll_ok LAll_la yt2_ok gHo_ok rfl (fun G n Qf => yA_n) rfl (fun G n Rr => yA_n) rfl
/-! 12 Expression.push (JI)V -/
set_option maxRecDepth 100000 in
def b12 : qCd := [([(3, 0, 2, 0), (24, 26815, 88, 0), (3, 0, 2, 0), (25, 26815, 26817, 0), (38, 0, 0, 0), (30, 91, 0, 0)], (1, 3, 2, 1, [])),
  ([(3, 0, 2, 0), (25, 26815, 26817, 0), (3, 0, 2, 0), (24, 26815, 88, 0), (3, 1, 1, 0), (38, 0, 0, 0), (29, 91, 0, 0), (3, 0, 2, 0), (25, 26815, 26819, 0), (3, 0, 2, 0), (24, 26815, 88, 0), (3, 3, 0, 0), (38, 0, 0, 0), (29, 92, 0, 0), (3, 0, 2, 0), (25, 26815, 26821, 0), (3, 0, 2, 0), (24, 26815, 88, 0), (0, (-1), 0, 0), (38, 0, 0, 0), (29, 93, 0, 0), (3, 0, 2, 0), (7, 0, 0, 0), (24, 26815, 88, 0), (0, 1, 0, 0), (38, 0, 0, 0), (14, 0, 0, 0), (36, 0, 0, 0), (38, 0, 0, 0), (26, 26815, 88, 0)], (0, 0, 2, 0, [])),
  ([(34, 88, 0, 0), (34, 40, 0, 0), (34, 39, 0, 0), (34, 438, 0, 0), (38, 0, 0, 0)], (4, 0, 0, 0, []))]
def p12 : List Nat := [0, 12, 52]
set_option maxRecDepth 100000 in
def cq12 : qCt := (3, (([(0, (2, ((26815, []), (0, [])))), (1, (1, ((0, [(0, 1)]), (0, [])))), (3, (0, ((0, [(1, 1)]), (0, []))))], [], ([(88, (0, [(2, 1)])), (40, (0, [(3, 1)])), (39, (0, [(4, 1)])), (438, (0, [(5, 1)]))], []), (6, [(1, ((-2), 1023)), (2, (0, 1025)), (0, ((-9223372036854775808), 9223372036854775807)), (3, (0, 1027)), (4, (0, 1026)), (5, (0, 1))], [], 0, [], [], [], [])), ([([], [], ([(88, (0, [(6, 1)]))], []), (7, [(6, (1, 1026)), (4, (0, 1026)), (5, (0, 1))], [(1, [(2, 1), (6, (-1))])], 0, [], [], [], []))], [88, 91, 92, 93])))
def t12 : List qCt := []
def mt12 : yMt := ([], ([], ([], [])))
theorem rc12 : yRc cq12 13407 2 = true := by decide +kernel
set_option maxRecDepth 100000 in
def u12 : qCu := []
set_option maxRecDepth 100000 in
theorem z12 : zchk gAll t12 ruI2 ruJ2 rqL b12 u12 cq12 300 [0, 4, 1, 0, 1, 1, 0, 1, 0, 1, 0, 1, 0, 0, 0, 0, 0] = true := sorry
theorem yr12 : yRun gAll t12 b12 cq12 := yRun_z gAll_tag ruI2_RtI ruJ2_RtJ rqL_ok z12
theorem zw12 : zwid cq12.2.1.1 cq12.1 0 4 = true := by decide +kernel
set_option maxRecDepth 100000 in
theorem yw12 : yRows gAll LAll yt2 mt12 gHo 4 0 (zby cX1_push) p12 b12 p12 = true := by decide +kernel
set_option maxRecDepth 100000 in
theorem m12 (l : Launch) : kMet gAll LAll vwCl rFo rZs rRs rNs rTs l yX1_push cX1_push 4 none 0 0 cq12 := kmet_y2 (rt := 0) (by decide +kernel) yr12 zw12 rfl yw12 LAll_ok LAll_la yt2_ok gHo_ok rfl (fun G n Qf => yA_n) rfl (fun G n Rr => yA_n) rfl
/-! 13 Expression.spell (IZ)V -/
set_option maxRecDepth 100000 in
def b13 : qCd := [([(3, 0, 2, 0), (25, 26815, 26731, 0), (25, 26731, 26753, 0), (3, 1, 0, 0), (38, 0, 0, 0), (28, 52, 0, 0), (3, 0, 2, 0), (25, 26815, 26731, 0), (25, 26731, 26751, 0), (3, 1, 0, 0), (38, 0, 0, 0), (28, 51, 0, 0), (38, 0, 0, 0), (15, 0, 0, 0), (36, 0, 0, 0), (0, 63, 0, 0), (38, 0, 0, 0), (33, 0, 0, 0), (4, 3, 0, 0), (3, 2, 0, 0)], (2, 0, 3, 1, [])),
  ([(3, 0, 2, 0), (25, 26815, 26731, 0), (25, 26731, 26733, 0), (3, 0, 2, 0), (25, 26815, 26731, 0), (25, 26731, 26751, 0), (3, 1, 0, 0), (38, 0, 0, 0), (28, 51, 0, 0), (38, 0, 0, 0), (28, 42, 0, 0), (0, 46, 0, 0)], (1, 1, 3, 2, [])),
  ([(3, 0, 2, 0), (24, 26815, 90, 0)], (0, 0, 4, 0, [])),
  ([(0, 0, 0, 0)], (0, 0, 4, 0, [])),
  ([(4, 4, 0, 0), (3, 0, 2, 0), (25, 26815, 26827, 0), (0, 0, 0, 0), (3, 0, 2, 0), (25, 26815, 26825, 0), (0, 0, 0, 0), (3, 4, 0, 0), (38, 0, 0, 0), (33, 1, 0, 0), (3, 0, 2, 0), (25, 26815, 26731, 0), (25, 26731, 26733, 0), (3, 0, 2, 0), (25, 26815, 26731, 0), (25, 26731, 26751, 0), (3, 1, 0, 0), (38, 0, 0, 0), (28, 51, 0, 0), (3, 0, 2, 0), (25, 26815, 26825, 0), (3, 4, 0, 0), (3, 3, 0, 0), (38, 0, 0, 0), (33, 2, 0, 0), (3, 0, 2, 0), (3, 4, 0, 0), (3, 3, 0, 0), (38, 0, 0, 0), (14, 0, 0, 0), (36, 0, 0, 0), (38, 0, 0, 0), (26, 26815, 89, 0), (34, 90, 0, 0), (34, 89, 0, 0), (34, 39, 0, 0), (34, 438, 0, 0), (35, 51, 0, 0), (35, 52, 0, 0), (38, 0, 0, 0)], (4, 0, 0, 0, []))]
def p13 : List Nat := [0, 29, 51, 58, 59]
set_option maxRecDepth 100000 in
def cq13 : qCt := (3, (([(0, (2, ((26815, []), (0, [])))), (1, (0, ((0, [(0, 1)]), (0, [])))), (2, (0, ((0, [(1, 1)]), (0, []))))], [], ([(90, (0, [(2, 1)])), (89, (0, [(3, 1)])), (39, (0, [(4, 1)])), (438, (0, [(5, 1)]))], [(51, 0), (52, 1)]), (6, [(0, (0, 1025)), (1, (0, 1)), (2, (0, 63)), (3, (0, 126)), (4, (0, 1026)), (5, (0, 1))], [((-1), [(0, (-1)), (4, 1)])], 2, [(0, 51), (1, 52)], [], [], [(27, ([0, 1], [(0, []), (0, [(4, 1)])])), (2, ([0], [(0, []), (0, [(4, 1)]), (0, [])])), (3, ([1], [(0, []), (0, [(4, 1)]), (1024, [])]))])), ([([], [], ([(89, (0, [(6, 1)]))], []), (7, [(6, (0, 126)), (4, (0, 1026)), (5, (0, 1))], [], 2, [], [], [], [(27, ([0, 1], [(0, []), (0, [(4, 1)])])), (2, ([0], [(0, []), (0, [(4, 1)]), (0, [])])), (3, ([1], [(0, []), (0, [(4, 1)]), (1024, [])]))]))], [89, 95])))
def cA0 : qCt := (5, (([(0, (2, ((26827, [(3, 2)]), (0, [])))), (1, (0, ((0, [(0, 1)]), (0, [])))), (2, (2, ((26825, [(4, 2)]), (0, [])))), (3, (0, ((0, [(1, 1)]), (0, [])))), (4, (0, ((0, [(2, 1)]), (0, []))))], [], ([], []), (5, [(0, (0, 64)), (1, (0, 128)), (2, (0, 128)), (3, (0, 0)), (4, (0, 0))], [(64, [(0, (-1)), (2, (-1))]), (128, [(1, (-1)), (2, (-1))])], 0, [], [], [], [])), ([([], [], ([], []), (5, [], [], 0, [], [], [], []))], [95])))
theorem cA0_e : cA0 = cpC 26827 1 64 (2 * ((13412 : Nat) : Int) + 1) 1 128 95 := by rfl
theorem sA0 {own : String} {ix : Nat} (l : Launch) {G : rGm} {cc : ByteArray} {nL n fr lo : Nat} {ret : Option FieldType} {Qf : kQf} (w1 : Cond.methodLink own ix arraycopyName ∈ rTs) (hf : 1 ≤ fr) (hlo : 26 ≤ lo) : ySite gAll LAll vwCl rFo rZs rRs rNs rTs G l cc nL own ret fr lo n Qf 184 ix cA0 := by
  rw [cA0_e]
  exact ys_A (t := 2) (c1 := ((-128), 127)) (c2 := ((-128), 127)) LAll_ok (Or.inl ⟨13413, _, List.mem_of_getElem? (i := 58) rfl, rfl⟩) rfl (List.mem_of_getElem? (i := 57) rfl) rfl (by decide) (fun z h1 h2 => y_fb ⟨Int.le_trans (by decide) h1, Int.le_trans h2 (by decide)⟩) w1 kw62 kw63 kw64 hf (Nat.le_trans (by decide +kernel) hlo)
def cA1 : qCt := (5, (([(0, (2, ((26733, [(3, 2)]), (0, [])))), (1, (0, ((0, [(0, 1)]), (0, [])))), (2, (2, ((26825, [(4, 2)]), (0, [])))), (3, (0, ((0, [(1, 1)]), (0, [])))), (4, (0, ((0, [(2, 1)]), (0, []))))], [], ([], []), (5, [(0, (0, 1024)), (1, (0, 128)), (2, (0, 128)), (3, (0, 0)), (4, (0, 0))], [(1024, [(0, (-1)), (2, (-1))]), (128, [(1, (-1)), (2, (-1))])], 0, [], [], [], [])), ([([], [], ([], []), (5, [], [], 0, [], [], [], []))], [95])))
theorem cA1_e : cA1 = cpC 26733 1 1024 (2 * ((13412 : Nat) : Int) + 1) 1 128 95 := by rfl
theorem sA1 {own : String} {ix : Nat} (l : Launch) {G : rGm} {cc : ByteArray} {nL n fr lo : Nat} {ret : Option FieldType} {Qf : kQf} (w1 : Cond.methodLink own ix arraycopyName ∈ rTs) (hf : 1 ≤ fr) (hlo : 26 ≤ lo) : ySite gAll LAll vwCl rFo rZs rRs rNs rTs G l cc nL own ret fr lo n Qf 184 ix cA1 := by
  rw [cA1_e]
  exact ys_A (t := 2) (c1 := ((-128), 127)) (c2 := ((-128), 127)) LAll_ok (Or.inl ⟨13366, _, List.mem_of_getElem? (i := 16) rfl, rfl⟩) rfl (List.mem_of_getElem? (i := 57) rfl) rfl (by decide) (fun z h1 h2 => y_fb ⟨Int.le_trans (by decide) h1, Int.le_trans h2 (by decide)⟩) w1 kw62 kw63 kw64 hf (Nat.le_trans (by decide +kernel) hlo)
def t13 : List qCt := [cq8, cA0, cA1]
theorem st10 (l : Launch) {G : rGm} {cc : ByteArray} {nL n fr lo : Nat} {ret : Option FieldType} {Qf : kQf} (hf : 1 ≤ fr) (hlo : 21 ≤ lo) : ySite gAll LAll vwCl rFo rZs rRs rNs rTs G l cc nL RX1 ret fr lo n Qf 184 52 cq8 := ys_S 2 rfl (m8 l) kGood kw1460 kw285 kw286 kw287 hdS_J9_min_7cf53 hf hlo
def mt13 : yMt := ([(184, (52, 0)), (184, (65, 1)), (184, (65, 2))], ([], ([], [])))
theorem rc13 : yRc cq13 13407 2 = true := by decide +kernel
set_option maxRecDepth 100000 in
def u13 : qCu := []
set_option maxRecDepth 100000 in
theorem z13 : zchk gAll t13 ruI2 ruJ2 rqL b13 u13 cq13 300 [] = true := sorry
theorem yr13 : yRun gAll t13 b13 cq13 := yRun_z gAll_tag ruI2_RtI ruJ2_RtJ rqL_ok z13
theorem zw13 : zwid cq13.2.1.1 cq13.1 0 5 = true := by decide +kernel
set_option maxRecDepth 100000 in
theorem yw13 : yRows gAll LAll yt2 mt13 gHo 5 0 (zby cX1_spell) p13 b13 p13 = true := by decide +kernel
set_option maxRecDepth 100000 in
theorem m13 (l : Launch) : kMet gAll LAll vwCl rFo rZs rRs rNs rTs l yX1_spell cX1_spell 5 none 1 26 cq13 := kmet_y2 (rt := 0) (by decide +kernel) yr13 zw13 rfl yw13 LAll_ok LAll_la yt2_ok gHo_ok rfl (fun G n Qf => List.forall_mem_cons.mpr ⟨⟨cq8, rfl, st10 l (by decide) (by decide)⟩, List.forall_mem_cons.mpr ⟨⟨cA0, rfl, sA0 l kw1462 (by decide) (by decide)⟩, List.forall_mem_cons.mpr ⟨⟨cA1, rfl, sA1 l kw1462 (by decide) (by decide)⟩, yA_n⟩⟩⟩) rfl (fun G n Rr => yA_n) rfl
/-! 14 Names.add/name@x.units.names ([BII)I -/
set_option maxRecDepth 100000 in
def b14 : qCd := [([(3, 0, 2, 0), (24, 7, 13, 0), (3, 0, 2, 0), (25, 7, 13, 0), (38, 0, 0, 0), (30, 16, 0, 0)], (1, 0, 2, 1, [])),
  ([(3, 0, 2, 0), (25, 7, 11, 0), (3, 0, 2, 0), (24, 7, 13, 0), (38, 0, 0, 0), (28, 15, 0, 0), (3, 3, 0, 0), (38, 0, 0, 0), (14, 0, 0, 0), (36, 0, 0, 0), (3, 0, 2, 0), (25, 7, 9, 0), (38, 0, 0, 0), (30, 14, 0, 0)], (1, 5, 3, 2, [])),
  ([(0, (-1), 0, 0), (34, 13, 0, 0), (35, 15, 0, 0), (38, 0, 0, 0)], (5, 0, 0, 0, [((-2147483648), 0), (2147483647, 0)])),
  ([(0, 0, 0, 0), (4, 4, 0, 0), (3, 2, 0, 0), (4, 5, 0, 0), (34, 13, 0, 0), (35, 15, 0, 0), (40, 5, 0, 0), (38, 0, 0, 0)], (0, 0, 4, 0, [])),
  ([(3, 5, 0, 0), (36, 0, 0, 0), (3, 2, 0, 0), (3, 3, 0, 0), (38, 0, 0, 0), (14, 0, 0, 0), (36, 0, 0, 0)], (1, 3, 6, 5, [])),
  ([(0, 31, 0, 0), (3, 4, 0, 0), (16, 0, 0, 0), (36, 0, 0, 0), (3, 1, 2, 0), (3, 5, 0, 0), (36, 0, 0, 0), (38, 0, 0, 0), (28, 95, 0, 0), (38, 0, 0, 0), (14, 0, 0, 0), (36, 0, 0, 0), (4, 4, 0, 0), (5, 5, 1, 0), (34, 13, 0, 0), (35, 15, 0, 0), (40, 5, 0, 0), (38, 0, 0, 0)], (0, 0, 4, 0, [])),
  ([(3, 1, 2, 0), (3, 2, 0, 0), (3, 0, 2, 0), (25, 7, 9, 0), (3, 0, 2, 0), (25, 7, 11, 0), (3, 0, 2, 0), (24, 7, 13, 0), (38, 0, 0, 0), (28, 15, 0, 0), (3, 3, 0, 0), (38, 0, 0, 0), (33, 0, 0, 0), (3, 0, 2, 0), (25, 7, 11, 0), (3, 0, 2, 0), (24, 7, 13, 0), (0, 1, 0, 0), (38, 0, 0, 0), (14, 0, 0, 0), (36, 0, 0, 0), (3, 0, 2, 0), (25, 7, 11, 0), (3, 0, 2, 0), (24, 7, 13, 0), (38, 0, 0, 0), (28, 15, 0, 0), (3, 3, 0, 0), (38, 0, 0, 0), (14, 0, 0, 0), (36, 0, 0, 0), (38, 0, 0, 0), (29, 15, 0, 0), (3, 0, 2, 0), (25, 7, 15, 0), (3, 0, 2, 0), (24, 7, 13, 0), (3, 4, 0, 0), (0, 1023, 0, 0), (38, 0, 0, 0), (18, 0, 0, 0), (38, 0, 0, 0), (29, 17, 0, 0), (3, 0, 2, 0), (25, 7, 13, 0), (3, 0, 2, 0), (24, 7, 13, 0), (3, 0, 2, 0), (25, 7, 17, 0), (3, 0, 2, 0), (25, 7, 15, 0), (3, 0, 2, 0), (24, 7, 13, 0), (38, 0, 0, 0), (28, 17, 0, 0), (38, 0, 0, 0), (28, 18, 0, 0), (38, 0, 0, 0), (29, 16, 0, 0), (3, 0, 2, 0), (25, 7, 17, 0), (3, 0, 2, 0), (25, 7, 15, 0), (3, 0, 2, 0), (24, 7, 13, 0), (38, 0, 0, 0), (28, 17, 0, 0), (3, 0, 2, 0), (24, 7, 13, 0), (38, 0, 0, 0), (29, 18, 0, 0), (3, 0, 2, 0), (7, 0, 0, 0), (24, 7, 13, 0), (8, 0, 0, 0), (0, 1, 0, 0), (38, 0, 0, 0), (14, 0, 0, 0), (36, 0, 0, 0), (38, 0, 0, 0), (26, 7, 13, 0), (34, 13, 0, 0), (35, 15, 0, 0), (38, 0, 0, 0)], (5, 0, 0, 0, [((-2147483648), 0), (2147483647, 0)]))]
def p14 : List Nat := [0, 12, 31, 33, 39, 47, 65]
set_option maxRecDepth 100000 in
def cq14 : qCt := (4, (([(0, (2, ((7, []), (0, [])))), (1, (2, ((26825, []), (0, [])))), (2, (0, ((0, [(0, 1)]), (0, [])))), (3, (0, ((0, [(1, 1)]), (0, []))))], [], ([(13, (0, [(2, 1)]))], [(15, 0)]), (3, [(0, (0, 0)), (1, (0, 126)), (2, (0, 1024))], [], 1, [(0, 15)], [], [], [(30, ([0], [(0, []), (0, [(2, 1)])]))])), ([([], [(0, ((0, [(3, 1)]), (0, [])))], ([(13, (0, [(4, 1)]))], [(15, 1)]), (5, [(3, (0, 1023)), (4, (1, 1024))], [(1, [(3, 1), (4, (-1))]), ((-1), [(2, (-1)), (4, 1)])], 2, [(1, 15)], [], [], [(30, ([1], [(0, []), (0, [(4, 1)])]))])),
   ([], [(0, ((0, [(3, 1)]), (0, [])))], ([(13, (0, [(4, 1)]))], [(15, 1)]), (5, [(3, ((-1), (-1))), (4, (0, 1024))], [(0, [(2, (-1)), (4, 1)])], 2, [(1, 15)], [], [], [(30, ([1], [(0, []), (0, [(4, 1)])]))]))], [13, 14, 15, 16, 17, 18])))
def cA2 : qCt := (5, (([(0, (2, ((26825, [(3, 2)]), (0, [])))), (1, (0, ((0, [(0, 1)]), (0, [])))), (2, (2, ((9, [(4, 2)]), (0, [])))), (3, (0, ((0, [(1, 1)]), (0, [])))), (4, (0, ((0, [(2, 1)]), (0, []))))], [], ([], []), (5, [(0, (0, 128)), (1, (0, 129024)), (2, (0, 129024)), (3, (0, 0)), (4, (0, 0))], [(128, [(0, (-1)), (2, (-1))]), (129024, [(1, (-1)), (2, (-1))])], 0, [], [], [], [])), ([([], [], ([], []), (5, [], [], 0, [], [], [], []))], [14])))
theorem cA2_e : cA2 = cpC 26825 1 128 (2 * ((4 : Nat) : Int) + 1) 1 129024 14 := by rfl
theorem sA2 {own : String} {ix : Nat} (l : Launch) {G : rGm} {cc : ByteArray} {nL n fr lo : Nat} {ret : Option FieldType} {Qf : kQf} (w1 : Cond.methodLink own ix arraycopyName ∈ rTs) (hf : 1 ≤ fr) (hlo : 26 ≤ lo) : ySite gAll LAll vwCl rFo rZs rRs rNs rTs G l cc nL own ret fr lo n Qf 184 ix cA2 := by
  rw [cA2_e]
  exact ys_A (t := 2) (c1 := ((-128), 127)) (c2 := ((-128), 127)) LAll_ok (Or.inl ⟨13412, _, List.mem_of_getElem? (i := 57) rfl, rfl⟩) rfl (List.mem_of_getElem? (i := 1) rfl) rfl (by decide) (fun z h1 h2 => y_fb ⟨Int.le_trans (by decide) h1, Int.le_trans h2 (by decide)⟩) w1 kw62 kw63 kw64 hf (Nat.le_trans (by decide +kernel) hlo)
def t14 : List qCt := [cA2]
def mt14 : yMt := ([(184, (38, 0))], ([], ([], [])))
theorem rc14 : yRc cq14 3 3 = true := by decide +kernel
set_option maxRecDepth 100000 in
def u14_0 : Nat × (qS × (qL × (qL × qL))) := (4, (([(0, (2, ((7, []), (0, [])))), (1, (2, ((26825, []), (0, [])))), (2, (0, ((0, [(0, 1)]), (0, [])))), (3, (0, ((0, [(1, 1)]), (0, [])))), (4, (0, ((0, [(3, 1)]), (0, [])))), (5, (0, ((0, [(4, 1)]), (0, []))))], [], ([(13, (0, [(5, 1)]))], [(15, 1)]), (6, [(0, (0, 0)), (1, (0, 126)), (2, (0, 1024)), (3, ((-2147483648), 2147483647)), (4, (0, 126)), (5, (0, 1023))], [(0, [(2, (-1)), (5, 1)]), (0, [(2, 1), (5, (-1))])], 2, [(1, 15)], [], [], [(30, ([1], [(0, []), (0, [(2, 1)])])), (3, ([1], [(0, [(5, 1)]), (1, [(5, 1)]), (129024, [(1, (-1))])]))])), ((0, []), ((8064, [(0, 64), (1, 64), (4, (-64))]), (0, [])))))
def u14 : qCu := [u14_0]
set_option maxRecDepth 100000 in
theorem z14_s : zsm (zblk gAll cq14.2.2.2 t14 ruI2 ruJ2 rqL b14 cq14 (zrun gAll cq14.2.2.2 t14 ruI2 ruJ2 rqL b14 u14 cq14 none 300) 0 cq14.2.1 []) = true := sorry
set_option maxRecDepth 100000 in
theorem z14_0 : zsm (zfrom gAll cq14.2.2.2 t14 ruI2 ruJ2 rqL b14 u14 cq14 300 u14_0 []) = true := sorry
theorem yr14 : yRun gAll t14 b14 cq14 := yRun_p (cuts := u14) (fuel := 300) gAll_tag ruI2_RtI ruJ2_RtJ rqL_ok ⟨zsm_e _ z14_s, List.forall_mem_cons.mpr ⟨zsm_e _ z14_0, yA_n⟩⟩
theorem zw14 : zwid cq14.2.1.1 cq14.1 0 6 = true := by decide +kernel
set_option maxRecDepth 100000 in
theorem yw14 : yRows gAll LAll yt8 mt14 gHo 6 1 (zby cX7_add) p14 b14 p14 = true := by decide +kernel
set_option maxRecDepth 100000 in
theorem m14 (l : Launch) : kMet gAll LAll vwCl rFo rZs rRs rNs rTs l yX7_add cX7_add 6 (some .int) 1 26 cq14 := kmet_y2 (rt := 1) (by decide +kernel) yr14 zw14 rfl yw14 LAll_ok LAll_la yt8_ok gHo_ok rfl (fun G n Qf => List.forall_mem_cons.mpr ⟨⟨cA2, rfl, sA2 l kw61 (by decide) (by decide)⟩, yA_n⟩) rfl (fun G n Rr => yA_n) rfl
/-! 15 Names.find/name@x.units.names ([BIII)I -/
set_option maxRecDepth 100000 in
def b15 : qCd := [([(0, 0, 0, 0), (4, 5, 0, 0), (3, 2, 0, 0), (4, 6, 0, 0), (34, 13, 0, 0), (35, 15, 0, 0), (40, 6, 0, 0), (38, 0, 0, 0)], (0, 0, 1, 0, [])),
  ([(3, 6, 0, 0), (36, 0, 0, 0), (3, 2, 0, 0), (3, 3, 0, 0), (38, 0, 0, 0), (14, 0, 0, 0), (36, 0, 0, 0)], (1, 3, 3, 2, [])),
  ([(0, 31, 0, 0), (3, 5, 0, 0), (16, 0, 0, 0), (36, 0, 0, 0), (3, 1, 2, 0), (3, 6, 0, 0), (36, 0, 0, 0), (38, 0, 0, 0), (28, 95, 0, 0), (38, 0, 0, 0), (14, 0, 0, 0), (36, 0, 0, 0), (4, 5, 0, 0), (5, 6, 1, 0), (34, 13, 0, 0), (35, 15, 0, 0), (40, 6, 0, 0), (38, 0, 0, 0)], (0, 0, 1, 0, [])),
  ([(3, 0, 2, 0), (25, 7, 17, 0), (3, 5, 0, 0), (0, 1023, 0, 0), (38, 0, 0, 0), (18, 0, 0, 0), (38, 0, 0, 0), (28, 18, 0, 0), (4, 6, 0, 0), (0, 0, 0, 0), (4, 7, 0, 0), (34, 13, 0, 0), (35, 15, 0, 0), (40, 6, 0, 0), (40, 7, 0, 0), (38, 0, 0, 0)], (0, 0, 4, 0, [])),
  ([(3, 7, 0, 0), (36, 0, 0, 0), (3, 0, 2, 0), (24, 7, 13, 0)], (1, 3, 15, 5, [])),
  ([(3, 6, 0, 0), (36, 0, 0, 0), (0, (-1), 0, 0)], (1, 0, 15, 6, [])),
  ([(3, 6, 0, 0), (36, 0, 0, 0), (3, 4, 0, 0)], (1, 3, 14, 7, [])),
  ([(3, 0, 2, 0), (25, 7, 11, 0), (3, 6, 0, 0), (36, 0, 0, 0), (0, 1, 0, 0), (38, 0, 0, 0), (14, 0, 0, 0), (36, 0, 0, 0), (38, 0, 0, 0), (28, 15, 0, 0), (3, 0, 2, 0), (25, 7, 11, 0), (3, 6, 0, 0), (36, 0, 0, 0), (38, 0, 0, 0), (28, 15, 0, 0), (38, 0, 0, 0), (15, 0, 0, 0), (36, 0, 0, 0), (3, 3, 0, 0)], (1, 1, 14, 8, [])),
  ([(0, 0, 0, 0), (4, 8, 0, 0), (34, 13, 0, 0), (35, 15, 0, 0), (40, 6, 0, 0), (40, 7, 0, 0), (40, 8, 0, 0), (38, 0, 0, 0)], (0, 0, 9, 0, [])),
  ([(3, 8, 0, 0), (36, 0, 0, 0), (3, 3, 0, 0)], (1, 3, 12, 10, [])),
  ([(3, 0, 2, 0), (25, 7, 9, 0), (3, 0, 2, 0), (25, 7, 11, 0), (3, 6, 0, 0), (36, 0, 0, 0), (38, 0, 0, 0), (28, 15, 0, 0), (3, 8, 0, 0), (36, 0, 0, 0), (38, 0, 0, 0), (14, 0, 0, 0), (36, 0, 0, 0), (38, 0, 0, 0), (28, 14, 0, 0), (3, 1, 2, 0), (3, 2, 0, 0), (3, 8, 0, 0), (36, 0, 0, 0), (38, 0, 0, 0), (14, 0, 0, 0), (36, 0, 0, 0), (38, 0, 0, 0), (28, 95, 0, 0)], (1, 1, 12, 11, [])),
  ([(5, 8, 1, 0), (34, 13, 0, 0), (35, 15, 0, 0), (40, 6, 0, 0), (40, 7, 0, 0), (40, 8, 0, 0), (38, 0, 0, 0)], (0, 0, 9, 0, [])),
  ([(3, 8, 0, 0), (36, 0, 0, 0), (3, 3, 0, 0)], (1, 1, 14, 13, [])),
  ([(3, 6, 0, 0), (36, 0, 0, 0), (34, 13, 0, 0), (35, 15, 0, 0), (38, 0, 0, 0)], (5, 0, 0, 0, [((-2147483648), 0), (2147483647, 0)])),
  ([(3, 0, 2, 0), (25, 7, 13, 0), (3, 6, 0, 0), (36, 0, 0, 0), (38, 0, 0, 0), (28, 16, 0, 0), (4, 6, 0, 0), (5, 7, 1, 0), (34, 13, 0, 0), (35, 15, 0, 0), (40, 6, 0, 0), (40, 7, 0, 0), (38, 0, 0, 0)], (0, 0, 4, 0, [])),
  ([(0, (-1), 0, 0), (34, 13, 0, 0), (35, 15, 0, 0), (38, 0, 0, 0)], (5, 0, 0, 0, [((-2147483648), 0), (2147483647, 0)]))]
def p15 : List Nat := [0, 6, 14, 32, 48, 57, 63, 70, 91, 94, 100, 124, 130, 136, 139, 154]
set_option maxRecDepth 100000 in
def cq15 : qCt := (5, (([(0, (2, ((7, []), (0, [])))), (1, (2, ((26825, []), (0, [])))), (2, (0, ((0, [(0, 1)]), (0, [])))), (3, (0, ((0, [(1, 1)]), (0, [])))), (4, (0, ((0, [(2, 1)]), (0, []))))], [], ([(13, (0, [(3, 1)]))], [(15, 0)]), (4, [(0, (0, 0)), (1, (0, 126)), (2, (0, 1024)), (3, (0, 1024))], [(0, [(2, 1), (3, (-1))]), (0, [(2, (-1)), (3, 1)])], 1, [(0, 15)], [], [], [(30, ([0], [(0, []), (0, [(3, 1)])]))])), ([([], [(0, ((0, [(4, 1)]), (0, [])))], ([], []), (5, [(4, ((-1), (-1)))], [((-1), [(0, 1), (4, (-1))])], 1, [], [], [], [(30, ([0], [(0, []), (0, [(3, 1)])]))])),
   ([], [(0, ((0, [(4, 1)]), (0, [])))], ([], []), (5, [(4, (0, 1023))], [((-1), [(3, 1), (4, (-1))])], 1, [], [], [], [(30, ([0], [(0, []), (0, [(3, 1)])]))]))], [])))
def t15 : List qCt := []
def mt15 : yMt := ([], ([], ([], [])))
theorem rc15 : yRc cq15 3 4 = true := by decide +kernel
set_option maxRecDepth 100000 in
def u15_0 : Nat × (qS × (qL × (qL × qL))) := (1, (([(0, (2, ((7, []), (0, [])))), (1, (2, ((26825, []), (0, [])))), (2, (0, ((0, [(0, 1)]), (0, [])))), (3, (0, ((0, [(1, 1)]), (0, [])))), (4, (0, ((0, [(2, 1)]), (0, [])))), (5, (0, ((0, [(4, 1)]), (0, [])))), (6, (0, ((0, [(5, 1)]), (0, []))))], [], ([(13, (0, [(3, 1)]))], [(15, 0)]), (6, [(0, (0, 0)), (1, (0, 126)), (2, (0, 1024)), (3, (0, 1024)), (4, ((-2147483648), 2147483647)), (5, (0, 126))], [(0, [(2, 1), (3, (-1))]), (0, [(2, (-1)), (3, 1)])], 1, [], [], [], [(30, ([0], [(0, []), (0, [(3, 1)])]))])), ((1, []), ((8064, [(0, 64), (1, 64), (5, (-64))]), (0, [])))))
set_option maxRecDepth 100000 in
def u15_1 : Nat × (qS × (qL × (qL × qL))) := (4, (([(0, (2, ((7, []), (0, [])))), (1, (2, ((26825, []), (0, [])))), (2, (0, ((0, [(0, 1)]), (0, [])))), (3, (0, ((0, [(1, 1)]), (0, [])))), (4, (0, ((0, [(2, 1)]), (0, [])))), (6, (0, ((0, [(4, 1)]), (0, [])))), (7, (0, ((0, [(5, 1)]), (0, []))))], [], ([(13, (0, [(3, 1)]))], [(15, 0)]), (6, [(0, (0, 0)), (1, (0, 126)), (2, (0, 1024)), (3, (0, 1024)), (4, ((-1), 1023)), (5, (0, 1024))], [(0, [(2, 1), (3, (-1))]), (0, [(2, (-1)), (3, 1)]), (0, [(3, 1), (5, (-1))])], 1, [], [], [], [(30, ([0], [(0, []), (0, [(3, 1)])]))])), ((0, []), ((65537, [(3, 64), (5, (-64))]), (0, [])))))
set_option maxRecDepth 100000 in
def u15_2 : Nat × (qS × (qL × (qL × qL))) := (9, (([(0, (2, ((7, []), (0, [])))), (1, (2, ((26825, []), (0, [])))), (2, (0, ((0, [(0, 1)]), (0, [])))), (3, (0, ((0, [(1, 1)]), (0, [])))), (4, (0, ((0, [(2, 1)]), (0, [])))), (6, (0, ((0, [(4, 1)]), (0, [])))), (7, (0, ((0, [(5, 1)]), (0, [])))), (8, (0, ((0, [(6, 1)]), (0, []))))], [], ([(13, (0, [(3, 1)]))], [(15, 0)]), (7, [(0, (0, 0)), (1, (0, 126)), (2, (1, 1024)), (3, (1, 1024)), (4, (0, 1023)), (5, (0, 1023)), (6, (0, 126))], [(0, [(2, 1), (3, (-1))]), (0, [(2, (-1)), (3, 1)]), (0, [(1, 1), (6, (-1))]), ((-1), [(3, 1), (4, (-1))]), ((-1), [(3, 1), (5, (-1))])], 1, [], [], [], [(30, ([0], [(0, []), (0, [(3, 1)])])), (3, ([0], [(0, [(4, 1)]), (1, [(4, 1)]), (129024, [(1, (-1))])]))])), ((0, []), ((65536, [(3, 64), (5, (-64))]), (8064, [(1, 64), (6, (-64))])))))
def u15 : qCu := [u15_0, u15_1, u15_2]
set_option maxRecDepth 100000 in
theorem z15_s : zsm (zblk gAll cq15.2.2.2 t15 ruI2 ruJ2 rqL b15 cq15 (zrun gAll cq15.2.2.2 t15 ruI2 ruJ2 rqL b15 u15 cq15 none 300) 0 cq15.2.1 [0, 0, 1, 0, 1, 1, 1, 1, 0]) = true := sorry
set_option maxRecDepth 100000 in
theorem z15_0 : zsm (zfrom gAll cq15.2.2.2 t15 ruI2 ruJ2 rqL b15 u15 cq15 300 u15_0 []) = true := sorry
set_option maxRecDepth 100000 in
theorem z15_1 : zsm (zfrom gAll cq15.2.2.2 t15 ruI2 ruJ2 rqL b15 u15 cq15 300 u15_1 []) = true := sorry
set_option maxRecDepth 100000 in
theorem z15_2 : zsm (zfrom gAll cq15.2.2.2 t15 ruI2 ruJ2 rqL b15 u15 cq15 300 u15_2 []) = true := sorry
theorem yr15 : yRun gAll t15 b15 cq15 := yRun_p (cuts := u15) (fuel := 300) gAll_tag ruI2_RtI ruJ2_RtJ rqL_ok ⟨zsm_e _ z15_s, List.forall_mem_cons.mpr ⟨zsm_e _ z15_0, List.forall_mem_cons.mpr ⟨zsm_e _ z15_1, List.forall_mem_cons.mpr ⟨zsm_e _ z15_2, yA_n⟩⟩⟩⟩
theorem zw15 : zwid cq15.2.1.1 cq15.1 0 9 = true := by decide +kernel
set_option maxRecDepth 100000 in
theorem yw15 : yRows gAll LAll yt8 mt15 gHo 9 1 (zby cX7_find) p15 b15 p15 = true := by decide +kernel
set_option maxRecDepth 100000 in
theorem m15 (l : Launch) : kMet gAll LAll vwCl rFo rZs rRs rNs rTs l yX7_find cX7_find 9 (some .int) 0 0 cq15 := kmet_y2 (rt := 1) (by decide +kernel) yr15 zw15 rfl yw15 LAll_ok LAll_la yt8_ok gHo_ok rfl (fun G n Qf => yA_n) rfl (fun G n Rr => yA_n) rfl
/-! 16 java/util/Arrays.fill/symbols[] ([II)V -/
set_option maxRecDepth 100000 in
def b16 : qCd := [([(0, 0, 0, 0), (4, 2, 0, 0), (3, 0, 2, 0), (38, 0, 0, 0), (30, 19, 0, 0), (4, 3, 0, 0), (35, 19, 0, 0), (40, 2, 0, 0), (38, 0, 0, 0)], (0, 0, 1, 0, [])),
  ([(3, 2, 0, 0), (36, 0, 0, 0), (3, 3, 0, 0)], (1, 3, 3, 2, [])),
  ([(3, 0, 2, 0), (3, 2, 0, 0), (36, 0, 0, 0), (3, 1, 0, 0), (38, 0, 0, 0), (29, 19, 0, 0), (5, 2, 1, 0), (35, 19, 0, 0), (40, 2, 0, 0), (38, 0, 0, 0)], (0, 0, 1, 0, [])),
  ([(35, 19, 0, 0), (38, 0, 0, 0)], (4, 0, 0, 0, []))]
def p16 : List Nat := [0, 5, 10, 20]
set_option maxRecDepth 100000 in
def cq16 : qCt := (2, (([(0, (2, ((21, [(0, 2)]), (0, [])))), (1, (0, ((0, [(1, 1)]), (0, []))))], [], ([], [(19, 0)]), (2, [(0, (0, 1023)), (1, (0, 3))], [], 1, [(0, 19)], [], [], [])), ([([], [], ([], [(19, 1)]), (2, [], [], 2, [(1, 19)], [], [], []))], [19])))
def t16 : List qCt := []
def mt16 : yMt := ([], ([], ([], [])))
set_option maxRecDepth 100000 in
def u16_0 : Nat × (qS × (qL × (qL × qL))) := (1, (([(0, (2, ((21, [(0, 2)]), (0, [])))), (1, (0, ((0, [(1, 1)]), (0, [])))), (2, (0, ((0, [(2, 1)]), (0, [])))), (3, (0, ((0, [(3, 1)]), (0, []))))], [], ([], [(19, 1)]), (4, [(0, (0, 1023)), (1, (0, 3)), (2, (0, 6)), (3, (6, 6))], [], 2, [(1, 19)], [], [], [])), ((0, []), ((0, [(2, (-64)), (3, 64)]), (0, [])))))
def u16 : qCu := [u16_0]
set_option maxRecDepth 100000 in
theorem z16_s : zsm (zblk gAll cq16.2.2.2 t16 ruI2 ruJ2 rqL b16 cq16 (zrun gAll cq16.2.2.2 t16 ruI2 ruJ2 rqL b16 u16 cq16 none 300) 0 cq16.2.1 [0, 0, 0]) = true := sorry
set_option maxRecDepth 100000 in
theorem z16_0 : zsm (zfrom gAll cq16.2.2.2 t16 ruI2 ruJ2 rqL b16 u16 cq16 300 u16_0 []) = true := sorry
theorem yr16 : yRun gAll t16 b16 cq16 := yRun_p (cuts := u16) (fuel := 300) gAll_tag ruI2_RtI ruJ2_RtJ rqL_ok ⟨zsm_e _ z16_s, List.forall_mem_cons.mpr ⟨zsm_e _ z16_0, yA_n⟩⟩
theorem zw16 : zwid cq16.2.1.1 cq16.1 0 4 = true := by decide +kernel
set_option maxRecDepth 100000 in
theorem yw16 : yRows gAll LAll yt17 mt16 gHo 4 0 (zby cJ7_fill_53178) p16 b16 p16 = true := by decide +kernel
set_option maxRecDepth 100000 in
theorem m16 (l : Launch) : kMet gAll LAll vwCl rFo rZs rRs rNs rTs l yJ7_fill_53178 cJ7_fill_53178 4 none 0 0 cq16 := kmet_y2 (rt := 0) (by decide +kernel) yr16 zw16 rfl yw16 LAll_ok LAll_la yt17_ok gHo_ok rfl (fun G n Qf => yA_n) rfl (fun G n Rr => yA_n) rfl
/-! 17 Units.beginSymbol (I)V -/
set_option maxRecDepth 100000 in
def b17 : qCd := [([(3, 0, 2, 0), (25, 5, 19, 0), (3, 1, 0, 0), (38, 0, 0, 0), (27, 19, 19, 0), (0, 0, 0, 0), (35, 19, 0, 0), (38, 0, 0, 0), (33, 0, 0, 0), (3, 0, 2, 0), (25, 5, 19, 0), (3, 1, 0, 0), (38, 0, 0, 0), (27, 19, 19, 0), (0, 0, 0, 0), (3, 0, 2, 0), (24, 5, 5, 0), (38, 0, 0, 0), (29, 19, 0, 0), (34, 5, 0, 0), (38, 0, 0, 0)], (4, 0, 0, 0, []))]
def p17 : List Nat := [0]
set_option maxRecDepth 100000 in
def cq17 : qCt := (2, (([(0, (2, ((5, []), (0, [])))), (1, (0, ((0, [(0, 1)]), (0, []))))], [], ([(5, (0, [(1, 1)]))], []), (2, [(0, (0, 1023)), (1, (0, 31))], [], 0, [], [], [], [])), ([([], [], ([], []), (2, [], [], 0, [], [], [], []))], [19])))
def t17 : List qCt := [cq16]
theorem hdS_J7_fill_53178 : yJ7_fill_53178.cls ≠ "java/lang/invoke/MethodHandle" ∧ yJ7_fill_53178.cls ≠ "java/lang/invoke/VarHandle" ∧ (parseMethodDescriptor yJ7_fill_53178.desc).map (fun d => d.parameters.length) = some 2 := by decide +kernel
theorem st11 (l : Launch) {G : rGm} {cc : ByteArray} {nL n fr lo : Nat} {ret : Option FieldType} {Qf : kQf} (hf : 1 ≤ fr) (hlo : 23 ≤ lo) : ySite gAll LAll vwCl rFo rZs rRs rNs rTs G l cc nL RX10 ret fr lo n Qf 184 77 cq16 := ys_S 2 rfl (m16 l) kGood kw605 kw12 kw13 kw10 hdS_J7_fill_53178 hf hlo
def mt17 : yMt := ([(184, (77, 0))], ([], ([], [])))
theorem rc17 : yRc cq17 2 1 = true := by decide +kernel
set_option maxRecDepth 100000 in
def u17 : qCu := []
set_option maxRecDepth 100000 in
theorem z17 : zchk gAll t17 ruI2 ruJ2 rqL b17 u17 cq17 300 [0, 0, 0, 0, 1, 0, 0] = true := sorry
theorem yr17 : yRun gAll t17 b17 cq17 := yRun_z gAll_tag ruI2_RtI ruJ2_RtJ rqL_ok z17
theorem zw17 : zwid cq17.2.1.1 cq17.1 0 2 = true := by decide +kernel
set_option maxRecDepth 100000 in
theorem yw17 : yRows gAll LAll yt11 mt17 gHo 2 0 (zby cX10_beginSymbol) p17 b17 p17 = true := by decide +kernel
set_option maxRecDepth 100000 in
theorem m17 (l : Launch) : kMet gAll LAll vwCl rFo rZs rRs rNs rTs l yX10_beginSymbol cX10_beginSymbol 2 none 1 23 cq17 := kmet_y2 (rt := 0) (by decide +kernel) yr17 zw17 rfl yw17 LAll_ok LAll_la yt11_ok gHo_ok rfl (fun G n Qf => List.forall_mem_cons.mpr ⟨⟨cq16, rfl, st11 l (by decide) (by decide)⟩, yA_n⟩) rfl (fun G n Rr => yA_n) rfl
/-! 18 Expression.operand (I)Z -/
set_option maxRecDepth 100000 in
def b18 : qCd := [([(3, 1, 0, 0), (0, 2, 0, 0)], (1, 1, 2, 1, [])),
  ([(3, 0, 2, 0), (3, 0, 2, 0), (25, 26815, 26731, 0), (25, 26731, 26749, 0), (3, 0, 2, 0), (25, 26815, 26731, 0), (24, 26731, 40, 0), (38, 0, 0, 0), (28, 50, 0, 0), (0, (-1), 0, 0), (34, 88, 0, 0), (34, 40, 0, 0), (34, 39, 0, 0), (34, 438, 0, 0), (38, 0, 0, 0), (33, 0, 0, 0), (0, 1, 0, 0), (34, 90, 0, 0), (34, 89, 0, 0), (34, 88, 0, 0), (34, 40, 0, 0), (34, 39, 0, 0), (34, 438, 0, 0), (34, 41, 0, 0), (34, 5, 0, 0), (34, 13, 0, 0), (34, 6, 0, 0), (35, 51, 0, 0), (35, 49, 0, 0), (35, 52, 0, 0), (35, 50, 0, 0), (35, 15, 0, 0), (38, 0, 0, 0)], (5, 0, 0, 0, [(0, 0), (1, 0)])),
  ([(3, 1, 0, 0), (0, 36, 0, 0)], (1, 1, 4, 3, [])),
  ([(3, 0, 2, 0), (1, 0, 0, 0), (0, (-2), 0, 0), (34, 88, 0, 0), (34, 40, 0, 0), (34, 39, 0, 0), (34, 438, 0, 0), (38, 0, 0, 0), (33, 0, 0, 0), (0, 1, 0, 0), (34, 90, 0, 0), (34, 89, 0, 0), (34, 88, 0, 0), (34, 40, 0, 0), (34, 39, 0, 0), (34, 438, 0, 0), (34, 41, 0, 0), (34, 5, 0, 0), (34, 13, 0, 0), (34, 6, 0, 0), (35, 51, 0, 0), (35, 49, 0, 0), (35, 52, 0, 0), (35, 50, 0, 0), (35, 15, 0, 0), (38, 0, 0, 0)], (5, 0, 0, 0, [(0, 0), (1, 0)])),
  ([(3, 0, 2, 0), (25, 26815, 26731, 0), (25, 26731, 26749, 0), (3, 0, 2, 0), (25, 26815, 26731, 0), (24, 26731, 40, 0), (38, 0, 0, 0), (28, 50, 0, 0), (4, 2, 1, 0), (3, 1, 0, 0), (0, 1, 0, 0)], (1, 1, 7, 5, [])),
  ([(3, 2, 1, 0), (1, 0, 0, 0), (23, 0, 0, 0)], (2, 2, 8, 6, [])),
  ([(3, 2, 1, 0), (1, 53, 0, 0), (23, 0, 0, 0)], (2, 4, 8, 7, [])),
  ([(0, 0, 0, 0), (34, 90, 0, 0), (34, 89, 0, 0), (34, 88, 0, 0), (34, 40, 0, 0), (34, 39, 0, 0), (34, 438, 0, 0), (34, 41, 0, 0), (34, 5, 0, 0), (34, 13, 0, 0), (34, 6, 0, 0), (35, 51, 0, 0), (35, 49, 0, 0), (35, 52, 0, 0), (35, 50, 0, 0), (35, 15, 0, 0), (38, 0, 0, 0)], (5, 0, 0, 0, [(0, 0), (1, 0)])),
  ([(3, 0, 2, 0), (3, 0, 2, 0), (25, 26815, 26731, 0), (24, 26731, 40, 0), (0, 1, 0, 0), (34, 90, 0, 0), (34, 89, 0, 0), (34, 39, 0, 0), (34, 438, 0, 0), (35, 51, 0, 0), (35, 52, 0, 0), (38, 0, 0, 0), (33, 1, 0, 0), (3, 0, 2, 0), (25, 26815, 5, 0), (25, 5, 7, 0), (3, 0, 2, 0), (25, 26815, 26825, 0), (0, 0, 0, 0), (3, 0, 2, 0), (24, 26815, 89, 0), (3, 0, 2, 0), (25, 26815, 5, 0), (25, 5, 7, 0), (24, 7, 13, 0), (34, 13, 0, 0), (35, 15, 0, 0), (38, 0, 0, 0), (33, 2, 0, 0), (4, 4, 0, 0), (3, 4, 0, 0), (3, 0, 2, 0), (25, 26815, 5, 0), (24, 5, 6, 0)], (1, 3, 12, 9, [])),
  ([(3, 0, 2, 0), (25, 26815, 5, 0), (25, 5, 7, 0), (3, 0, 2, 0), (25, 26815, 26825, 0), (0, 0, 0, 0), (3, 0, 2, 0), (24, 26815, 89, 0), (34, 13, 0, 0), (35, 15, 0, 0), (38, 0, 0, 0), (33, 3, 0, 0), (4, 4, 0, 0), (3, 4, 0, 0), (0, (-1), 0, 0)], (1, 1, 11, 10, [])),
  ([(3, 0, 2, 0), (25, 26815, 26731, 0), (0, 10, 0, 0), (34, 438, 0, 0), (34, 41, 0, 0), (38, 0, 0, 0), (33, 4, 0, 0), (3, 0, 2, 0), (1, 0, 0, 0), (0, (-2), 0, 0), (34, 88, 0, 0), (34, 40, 0, 0), (34, 39, 0, 0), (34, 438, 0, 0), (38, 0, 0, 0), (33, 0, 0, 0), (0, 1, 0, 0), (34, 90, 0, 0), (34, 89, 0, 0), (34, 88, 0, 0), (34, 40, 0, 0), (34, 39, 0, 0), (34, 438, 0, 0), (34, 41, 0, 0), (34, 5, 0, 0), (34, 13, 0, 0), (34, 6, 0, 0), (35, 51, 0, 0), (35, 49, 0, 0), (35, 52, 0, 0), (35, 50, 0, 0), (35, 15, 0, 0), (38, 0, 0, 0)], (5, 0, 0, 0, [(0, 0), (1, 0)])),
  ([(3, 0, 2, 0), (25, 26815, 5, 0), (3, 4, 0, 0), (34, 5, 0, 0), (38, 0, 0, 0), (33, 5, 0, 0)], (0, 0, 12, 0, [])),
  ([(3, 0, 2, 0), (25, 26815, 5, 0), (25, 5, 19, 0), (3, 4, 0, 0), (38, 0, 0, 0), (27, 19, 19, 0), (0, 1, 0, 0), (38, 0, 0, 0), (28, 19, 0, 0), (0, 2, 0, 0), (38, 0, 0, 0), (18, 0, 0, 0)], (2, 0, 14, 13, [])),
  ([(0, 1, 0, 0)], (0, 0, 15, 0, [])),
  ([(0, 0, 0, 0)], (0, 0, 15, 0, [])),
  ([(4, 5, 0, 0), (3, 0, 2, 0), (3, 5, 0, 0)], (2, 0, 17, 16, [])),
  ([(3, 0, 2, 0), (25, 26815, 5, 0), (25, 5, 2069, 0), (3, 4, 0, 0), (38, 0, 0, 0), (28, 20, 0, 0)], (0, 0, 18, 0, [])),
  ([(1, 0, 0, 0)], (0, 0, 18, 0, [])),
  ([(3, 5, 0, 0)], (2, 0, 20, 19, [])),
  ([(0, (-1), 0, 0)], (0, 0, 21, 0, [])),
  ([(3, 4, 0, 0)], (0, 0, 21, 0, [])),
  ([(34, 88, 0, 0), (34, 40, 0, 0), (34, 39, 0, 0), (34, 438, 0, 0), (38, 0, 0, 0), (33, 0, 0, 0), (0, 1, 0, 0), (34, 90, 0, 0), (34, 89, 0, 0), (34, 88, 0, 0), (34, 40, 0, 0), (34, 39, 0, 0), (34, 438, 0, 0), (34, 41, 0, 0), (34, 5, 0, 0), (34, 13, 0, 0), (34, 6, 0, 0), (35, 51, 0, 0), (35, 49, 0, 0), (35, 52, 0, 0), (35, 50, 0, 0), (35, 15, 0, 0), (38, 0, 0, 0)], (5, 0, 0, 0, [(0, 0), (1, 0)]))]
def p18 : List Nat := [0, 5, 27, 33, 42, 63, 69, 77, 79, 134, 161, 179, 188, 205, 209, 210, 218, 231, 232, 237, 241, 243]
set_option maxRecDepth 100000 in
def cq18 : qCt := (2, (([(0, (2, ((26815, []), (0, [])))), (1, (0, ((0, [(0, 1)]), (0, []))))], [], ([(90, (0, [(1, 1)])), (89, (0, [(2, 1)])), (88, (0, [(3, 1)])), (40, (0, [(4, 1)])), (39, (0, [(5, 1)])), (438, (0, [(6, 1)])), (41, (0, [(7, 1)])), (5, (0, [(8, 1)])), (13, (0, [(9, 1)])), (6, (0, [(10, 1)]))], [(51, 0), (49, 1), (52, 2), (50, 3), (15, 4)]), (11, [(0, ((-128), 127)), (1, (0, 63)), (2, (0, 126)), (3, (0, 1025)), (4, (1, 1025)), (7, (0, 10)), (8, (0, 31)), (9, (0, 1024)), (10, (0, 1024)), (5, (0, 1026)), (6, (0, 1))], [(0, [(6, (-1)), (7, 1)]), (0, [(6, 10), (7, (-1))])], 5, [(0, 51), (1, 49), (2, 52), (3, 50), (4, 15)], [], [], [(27, ([0, 2], [(0, []), (0, [(5, 1)])])), (2, ([0], [(0, []), (0, [(5, 1)]), (0, [])])), (3, ([2], [(0, []), (0, [(5, 1)]), (1024, [])])), (31, ([1, 3], [(0, []), (0, [(5, 1)])])), (32, ([1, 3], [(0, []), (0, [(5, 1)])])), (30, ([4], [(0, []), (0, [(9, 1)])])), (0, ([], [(0, []), (1, []), (0, [(0, (-1))]), ((-1), [(4, (-1)), (5, 1)])]))])), ([([], [(0, ((0, [(11, 1)]), (0, [])))], ([(89, (0, [(12, 1)])), (88, (0, [(13, 1)])), (438, (0, [(14, 1)])), (41, (0, [(15, 1)])), (13, (0, [(16, 1)]))], [(15, 5)]), (17, [(11, (0, 0)), (12, (0, 126)), (13, (0, 1025)), (15, (0, 10)), (16, (0, 1024)), (14, (0, 1)), (5, (0, 1026))], [(0, [(9, (-1)), (16, 1)])], 6, [(5, 15)], [], [], [(27, ([0, 2], [(0, []), (0, [(5, 1)])])), (2, ([0], [(0, []), (0, [(5, 1)]), (0, [])])), (3, ([2], [(0, []), (0, [(5, 1)]), (1024, [])])), (31, ([1, 3], [(0, []), (0, [(5, 1)])])), (32, ([1, 3], [(0, []), (0, [(5, 1)])])), (30, ([5], [(0, []), (0, [(16, 1)])]))])),
   ([], [(0, ((0, [(11, 1)]), (0, [])))], ([(89, (0, [(12, 1)])), (88, (0, [(13, 1)])), (438, (0, [(14, 1)])), (41, (0, [(15, 1)])), (13, (0, [(16, 1)]))], [(15, 5)]), (17, [(11, (1, 1)), (12, (0, 126)), (13, (1, 1026)), (15, (0, 10)), (16, (0, 1024)), (14, (0, 1)), (5, (0, 1026))], [(0, [(0, 1), (11, (-1))]), (1, [(3, 1), (13, (-1))]), (0, [(9, (-1)), (16, 1)]), (0, [(14, (-1)), (15, 1)]), (0, [(14, 10), (15, (-1))]), (0, [(6, (-1)), (14, 1)])], 6, [(5, 15)], [], [], [(27, ([0, 2], [(0, []), (0, [(5, 1)])])), (2, ([0], [(0, []), (0, [(5, 1)]), (0, [])])), (3, ([2], [(0, []), (0, [(5, 1)]), (1024, [])])), (31, ([1, 3], [(0, []), (0, [(5, 1)])])), (32, ([1, 3], [(0, []), (0, [(5, 1)])])), (30, ([5], [(0, []), (0, [(16, 1)])]))]))], [13, 14, 15, 16, 17, 18, 19, 41, 88, 89, 91, 92, 93, 95, 438])))
def t18 : List qCt := [cq12, cq13, cq15, cq14, cq9, cq17]
theorem hdV_X1_push : yX1_push.cls = RX1 ∧ yX1_push.cls ≠ "java/lang/invoke/MethodHandle" ∧ yX1_push.cls ≠ "java/lang/invoke/VarHandle" ∧ (parseMethodDescriptor yX1_push.desc).map (fun d => d.parameters.length) = some 2 := by decide +kernel
theorem st12 (l : Launch) {G : rGm} {cc : ByteArray} {nL n fr lo : Nat} {ret : Option FieldType} {Qf : kQf} (hf : 1 ≤ fr) (hlo : 23 ≤ lo) : ySite gAll LAll vwCl rFo rZs rRs rNs rTs G l cc nL RX1 ret fr lo n Qf 182 129 cq12 := ys_V 2 13407 3 rc12 lo_13407 kc3 (m12 l) kGood kw1486 kw1487 kw1488 kw181 kw1494 hdV_X1_push hf hlo
theorem hdV_X1_spell : yX1_spell.cls = RX1 ∧ yX1_spell.cls ≠ "java/lang/invoke/MethodHandle" ∧ yX1_spell.cls ≠ "java/lang/invoke/VarHandle" ∧ (parseMethodDescriptor yX1_spell.desc).map (fun d => d.parameters.length) = some 2 := by decide +kernel
theorem st13 (l : Launch) {G : rGm} {cc : ByteArray} {nL n fr lo : Nat} {ret : Option FieldType} {Qf : kQf} (hf : 2 ≤ fr) (hlo : 50 ≤ lo) : ySite gAll LAll vwCl rFo rZs rRs rNs rTs G l cc nL RX1 ret fr lo n Qf 182 135 cq13 := ys_V 2 13407 3 rc13 lo_13407 kc3 (m13 l) kGood kw1490 kw1212 kw1213 kw181 kw1503 hdV_X1_spell hf hlo
theorem hdV_X7_find : yX7_find.cls = RX7 ∧ yX7_find.cls ≠ "java/lang/invoke/MethodHandle" ∧ yX7_find.cls ≠ "java/lang/invoke/VarHandle" ∧ (parseMethodDescriptor yX7_find.desc).map (fun d => d.parameters.length) = some 4 := by decide +kernel
theorem st14 (l : Launch) {G : rGm} {cc : ByteArray} {nL n fr lo : Nat} {ret : Option FieldType} {Qf : kQf} (hf : 1 ≤ fr) (hlo : 28 ≤ lo) : ySite gAll LAll vwCl rFo rZs rRs rNs rTs G l cc nL RX1 ret fr lo n Qf 182 85 cq15 := ys_V 4 3 9 rc15 lo_3 kc9 (m15 l) kGood kw1475 kw734 kw735 kw18 kw732 hdV_X7_find hf hlo
theorem hdV_X7_add : yX7_add.cls = RX7 ∧ yX7_add.cls ≠ "java/lang/invoke/MethodHandle" ∧ yX7_add.cls ≠ "java/lang/invoke/VarHandle" ∧ (parseMethodDescriptor yX7_add.desc).map (fun d => d.parameters.length) = some 3 := by decide +kernel
theorem st15 (l : Launch) {G : rGm} {cc : ByteArray} {nL n fr lo : Nat} {ret : Option FieldType} {Qf : kQf} (hf : 2 ≤ fr) (hlo : 51 ≤ lo) : ySite gAll LAll vwCl rFo rZs rRs rNs rTs G l cc nL RX1 ret fr lo n Qf 182 96 cq14 := ys_V 3 3 9 rc14 lo_3 kc9 (m14 l) kGood kw1479 kw77 kw78 kw18 kw75 hdV_X7_add hf hlo
theorem hdV_X10_beginSymbol : yX10_beginSymbol.cls = RX10 ∧ yX10_beginSymbol.cls ≠ "java/lang/invoke/MethodHandle" ∧ yX10_beginSymbol.cls ≠ "java/lang/invoke/VarHandle" ∧ (parseMethodDescriptor yX10_beginSymbol.desc).map (fun d => d.parameters.length) = some 1 := by decide +kernel
theorem st16 (l : Launch) {G : rGm} {cc : ByteArray} {nL n fr lo : Nat} {ret : Option FieldType} {Qf : kQf} (hf : 2 ≤ fr) (hlo : 44 ≤ lo) : ySite gAll LAll vwCl rFo rZs rRs rNs rTs G l cc nL RX1 ret fr lo n Qf 182 104 cq17 := ys_V 1 2 12 rc17 lo_2 kc12 (m17 l) kGood kw1480 kw1481 kw1482 kw241 kw2114 hdV_X10_beginSymbol hf hlo
def mt18 : yMt := ([(182, (129, 0)), (182, (135, 1)), (182, (85, 2)), (182, (96, 3)), (182, (100, 4)), (182, (104, 5))], ([], ([], [])))
theorem rc18 : yRc cq18 13407 1 = true := by decide +kernel
set_option maxRecDepth 100000 in
def u18 : qCu := []
set_option maxRecDepth 100000 in
theorem z18 : zchk gAll t18 ruI2 ruJ2 rqL b18 u18 cq18 300 [] = true := sorry
theorem yr18 : yRun gAll t18 b18 cq18 := yRun_z gAll_tag ruI2_RtI ruJ2_RtJ rqL_ok z18
theorem zw18 : zwid cq18.2.1.1 cq18.1 0 6 = true := by decide +kernel
set_option maxRecDepth 100000 in
theorem yw18 : yRows gAll LAll yt2 mt18 gHo 6 3 (zby cX1_operand) p18 b18 p18 = true := by decide +kernel
set_option maxRecDepth 100000 in
theorem m18 (l : Launch) : kMet gAll LAll vwCl rFo rZs rRs rNs rTs l yX1_operand cX1_operand 6 (some .boolean) 2 51 cq18 := kmet_y2 (rt := 3) (by decide +kernel) yr18 zw18 rfl yw18 LAll_ok LAll_la yt2_ok gHo_ok rfl (fun G n Qf => List.forall_mem_cons.mpr ⟨⟨cq12, rfl, st12 l (by decide) (by decide)⟩, List.forall_mem_cons.mpr ⟨⟨cq13, rfl, st13 l (by decide) (by decide)⟩, List.forall_mem_cons.mpr ⟨⟨cq15, rfl, st14 l (by decide) (by decide)⟩, List.forall_mem_cons.mpr ⟨⟨cq14, rfl, st15 l (by decide) (by decide)⟩, List.forall_mem_cons.mpr ⟨⟨cq9, rfl, st9 l (by decide) (by decide)⟩, List.forall_mem_cons.mpr ⟨⟨cq17, rfl, st16 l (by decide) (by decide)⟩, yA_n⟩⟩⟩⟩⟩⟩) rfl (fun G n Rr => yA_n) rfl
/-! 19 Expression.priority (I)I -/
set_option maxRecDepth 100000 in
def b19 : qCd := [([(3, 0, 0, 0)], (3, 0, 7, 0, [(37, 6), (38, 3), (42, 6), (43, 5), (45, 5), (47, 6), (60, 4), (62, 4), (94, 2), (124, 1)])),
  ([(0, 1, 0, 0), (34, 438, 0, 0), (38, 0, 0, 0)], (5, 0, 0, 0, [((-2147483648), 0), (2147483647, 0)])),
  ([(0, 2, 0, 0), (34, 438, 0, 0), (38, 0, 0, 0)], (5, 0, 0, 0, [((-2147483648), 0), (2147483647, 0)])),
  ([(0, 3, 0, 0), (34, 438, 0, 0), (38, 0, 0, 0)], (5, 0, 0, 0, [((-2147483648), 0), (2147483647, 0)])),
  ([(0, 4, 0, 0), (34, 438, 0, 0), (38, 0, 0, 0)], (5, 0, 0, 0, [((-2147483648), 0), (2147483647, 0)])),
  ([(0, 5, 0, 0), (34, 438, 0, 0), (38, 0, 0, 0)], (5, 0, 0, 0, [((-2147483648), 0), (2147483647, 0)])),
  ([(0, 6, 0, 0), (34, 438, 0, 0), (38, 0, 0, 0)], (5, 0, 0, 0, [((-2147483648), 0), (2147483647, 0)])),
  ([(3, 0, 0, 0), (0, 256, 0, 0)], (1, 2, 9, 8, [])),
  ([(0, 7, 0, 0)], (0, 0, 10, 0, [])),
  ([(0, 0, 0, 0)], (0, 0, 10, 0, [])),
  ([(34, 438, 0, 0), (38, 0, 0, 0)], (5, 0, 0, 0, [((-2147483648), 0), (2147483647, 0)]))]
def p19 : List Nat := [0, 92, 94, 96, 98, 100, 102, 105, 112, 117, 118]
set_option maxRecDepth 100000 in
def cq19 : qCt := (1, (([(0, (0, ((0, [(0, 1)]), (0, []))))], [], ([(438, (0, [(1, 1)]))], []), (2, [(0, ((-128), 382)), (1, (0, 1))], [], 0, [], [], [], [])), ([([], [(0, ((0, [(2, 1)]), (0, [])))], ([], []), (3, [(2, (0, 0)), (1, (0, 1))], [], 0, [], [], [], [])),
   ([], [(0, ((0, [(2, 1)]), (0, [])))], ([], []), (3, [(2, (1, 7)), (1, (0, 1))], [((-48), [(0, 1), (2, 1)]), (0, [(0, 1), (2, (-1))])], 0, [], [], [], [])),
   ([], [(0, ((0, [(2, 1)]), (0, [])))], ([], []), (3, [(2, (1, 3)), (1, (0, 1))], [(0, [(0, 1), (2, (-1))]), (35, [(0, (-1)), (2, 1)])], 0, [], [], [], [])),
   ([], [(0, ((0, [(2, 1)]), (0, [])))], ([], []), (3, [(2, (4, 7)), (1, (0, 1))], [(0, [(0, 1), (2, (-1))]), (31, [(0, (-1)), (2, 1)])], 0, [], [], [], []))], [])))
def t19 : List qCt := []
set_option maxRecDepth 100000 in
theorem w19_0 : decode cX1_priority 1 = .ok (.lookupswitch 104 #[(37, 101), (38, 95), (42, 101), (43, 99), (45, 99), (47, 101), (60, 97), (62, 97), (94, 93), (124, 91)], 91) := by decide +kernel
def mt19 : yMt := ([], ([], ([(1, (3, (0, (7, (0, [(37, 6), (38, 3), (42, 6), (43, 5), (45, 5), (47, 6), (60, 4), (62, 4), (94, 2), (124, 1)])))))], [])))
set_option maxRecDepth 100000 in
def u19 : qCu := []
set_option maxRecDepth 100000 in
theorem z19 : zchk gAll t19 ruI2 ruJ2 rqL b19 u19 cq19 300 [] = true := sorry
theorem yr19 : yRun gAll t19 b19 cq19 := yRun_z gAll_tag ruI2_RtI ruJ2_RtJ rqL_ok z19
theorem zw19 : zwid cq19.2.1.1 cq19.1 0 1 = true := by decide +kernel
set_option maxRecDepth 100000 in
theorem yw19 : yRows gAll LAll yt2 mt19 gHo 1 1 (zby cX1_priority) p19 b19 p19 = true := by decide +kernel
set_option maxRecDepth 100000 in
theorem m19 (l : Launch) : kMet gAll LAll vwCl rFo rZs rRs rNs rTs l yX1_priority cX1_priority 1 (some .int) 0 0 cq19 := kmet_y2 (rt := 1) (by decide +kernel) yr19 zw19 rfl yw19 LAll_ok LAll_la yt2_ok gHo_ok rfl (fun G n Qf => yA_n) rfl (fun G n Rr => List.forall_mem_cons.mpr ⟨k_look _ p19 (fun b t hb ls st s h => kV_at hb h) w19_0 (by decide +kernel) (by decide +kernel) rfl rfl, yA_n⟩) rfl
/-! 20 Expression.read (IZI)Z -/
set_option maxRecDepth 100000 in
def b20 : qCd := [([(3, 0, 2, 0), (3, 3, 0, 0), (38, 0, 0, 0), (26, 26815, 88, 0), (0, 0, 0, 0), (4, 4, 0, 0), (0, 0, 0, 0), (4, 5, 0, 0), (0, 1, 0, 0), (4, 6, 0, 0), (3, 2, 0, 0)], (2, 0, 2, 1, [])),
  ([(3, 0, 2, 0), (25, 26815, 26823, 0), (3, 4, 0, 0), (36, 0, 0, 0), (5, 4, 1, 0), (0, 301, 0, 0), (38, 0, 0, 0), (29, 94, 0, 0)], (0, 0, 2, 0, [])),
  ([(0, 0, 0, 0), (4, 7, 0, 0), (34, 90, 0, 0), (34, 89, 0, 0), (34, 88, 0, 0), (34, 40, 0, 0), (34, 39, 0, 0), (34, 438, 0, 0), (34, 41, 0, 0), (34, 5, 0, 0), (34, 13, 0, 0), (34, 6, 0, 0), (35, 94, 0, 0), (35, 51, 0, 0), (35, 49, 0, 0), (35, 52, 0, 0), (35, 50, 0, 0), (35, 15, 0, 0), (40, 4, 0, 0), (40, 5, 0, 0), (40, 7, 0, 0), (38, 0, 0, 0)], (0, 0, 3, 0, [])),
  ([(3, 7, 0, 0), (36, 0, 0, 0), (0, 1024, 0, 0)], (1, 4, 37, 4, [])),
  ([(3, 0, 2, 0), (25, 26815, 26731, 0), (25, 26731, 26747, 0), (3, 0, 2, 0), (25, 26815, 26731, 0), (24, 26731, 40, 0), (38, 0, 0, 0), (28, 49, 0, 0), (4, 8, 0, 0), (3, 6, 0, 0)], (2, 0, 9, 5, [])),
  ([(3, 8, 0, 0), (0, 43, 0, 0)], (1, 0, 8, 6, [])),
  ([(3, 8, 0, 0), (0, 45, 0, 0)], (1, 0, 8, 7, [])),
  ([(3, 8, 0, 0), (0, 126, 0, 0)], (1, 1, 9, 8, [])),
  ([(3, 0, 2, 0), (25, 26815, 26823, 0), (3, 4, 0, 0), (36, 0, 0, 0), (5, 4, 1, 0), (0, 256, 0, 0), (3, 8, 0, 0), (38, 0, 0, 0), (14, 0, 0, 0), (36, 0, 0, 0), (38, 0, 0, 0), (29, 94, 0, 0), (34, 90, 0, 0), (34, 89, 0, 0), (34, 88, 0, 0), (34, 40, 0, 0), (34, 39, 0, 0), (34, 438, 0, 0), (34, 41, 0, 0), (34, 5, 0, 0), (34, 13, 0, 0), (34, 6, 0, 0), (35, 94, 0, 0), (35, 51, 0, 0), (35, 49, 0, 0), (35, 52, 0, 0), (35, 50, 0, 0), (35, 15, 0, 0), (40, 4, 0, 0), (40, 5, 0, 0), (40, 7, 0, 0), (38, 0, 0, 0)], (0, 0, 30, 0, [])),
  ([(3, 6, 0, 0)], (2, 0, 12, 10, [])),
  ([(3, 8, 0, 0), (0, 40, 0, 0)], (1, 1, 12, 11, [])),
  ([(3, 0, 2, 0), (25, 26815, 26823, 0), (3, 4, 0, 0), (36, 0, 0, 0), (5, 4, 1, 0), (3, 8, 0, 0), (38, 0, 0, 0), (29, 94, 0, 0), (5, 5, 1, 0), (34, 90, 0, 0), (34, 89, 0, 0), (34, 88, 0, 0), (34, 40, 0, 0), (34, 39, 0, 0), (34, 438, 0, 0), (34, 41, 0, 0), (34, 5, 0, 0), (34, 13, 0, 0), (34, 6, 0, 0), (35, 94, 0, 0), (35, 51, 0, 0), (35, 49, 0, 0), (35, 52, 0, 0), (35, 50, 0, 0), (35, 15, 0, 0), (40, 4, 0, 0), (40, 5, 0, 0), (40, 7, 0, 0), (38, 0, 0, 0)], (0, 0, 30, 0, [])),
  ([(3, 6, 0, 0)], (2, 0, 16, 13, [])),
  ([(3, 0, 2, 0), (3, 8, 0, 0), (34, 90, 0, 0), (34, 89, 0, 0), (34, 88, 0, 0), (34, 40, 0, 0), (34, 39, 0, 0), (34, 438, 0, 0), (34, 41, 0, 0), (34, 5, 0, 0), (34, 13, 0, 0), (34, 6, 0, 0), (35, 51, 0, 0), (35, 49, 0, 0), (35, 52, 0, 0), (35, 50, 0, 0), (35, 15, 0, 0), (38, 0, 0, 0), (33, 0, 0, 0)], (2, 1, 15, 14, [])),
  ([(0, 0, 0, 0), (34, 90, 0, 0), (34, 89, 0, 0), (34, 88, 0, 0), (34, 40, 0, 0), (34, 39, 0, 0), (34, 438, 0, 0), (34, 41, 0, 0), (34, 5, 0, 0), (34, 13, 0, 0), (34, 6, 0, 0), (35, 94, 0, 0), (35, 51, 0, 0), (35, 49, 0, 0), (35, 52, 0, 0), (35, 50, 0, 0), (35, 15, 0, 0), (38, 0, 0, 0)], (5, 0, 0, 0, [(0, 0), (1, 0)])),
  ([(0, 0, 0, 0), (4, 6, 0, 0), (34, 90, 0, 0), (34, 89, 0, 0), (34, 88, 0, 0), (34, 40, 0, 0), (34, 39, 0, 0), (34, 438, 0, 0), (34, 41, 0, 0), (34, 5, 0, 0), (34, 13, 0, 0), (34, 6, 0, 0), (35, 94, 0, 0), (35, 51, 0, 0), (35, 49, 0, 0), (35, 52, 0, 0), (35, 50, 0, 0), (35, 15, 0, 0), (40, 4, 0, 0), (40, 5, 0, 0), (40, 7, 0, 0), (38, 0, 0, 0)], (0, 0, 30, 0, [])),
  ([(3, 8, 0, 0), (0, 41, 0, 0)], (1, 1, 22, 17, [])),
  ([(3, 5, 0, 0), (36, 0, 0, 0)], (2, 5, 22, 38, [])),
  ([(3, 4, 0, 0), (36, 0, 0, 0)], (2, 5, 21, 19, [])),
  ([(3, 0, 2, 0), (25, 26815, 26823, 0), (3, 4, 0, 0), (36, 0, 0, 0), (0, 1, 0, 0), (38, 0, 0, 0), (15, 0, 0, 0), (36, 0, 0, 0), (38, 0, 0, 0), (28, 94, 0, 0), (0, 40, 0, 0)], (1, 0, 21, 20, [])),
  ([(3, 0, 2, 0), (3, 0, 2, 0), (25, 26815, 26823, 0), (5, 4, (-1), 0), (3, 4, 0, 0), (36, 0, 0, 0), (38, 0, 0, 0), (28, 94, 0, 0), (34, 88, 0, 0), (34, 40, 0, 0), (34, 39, 0, 0), (34, 438, 0, 0), (34, 41, 0, 0), (38, 0, 0, 0), (33, 1, 0, 0), (34, 90, 0, 0), (34, 89, 0, 0), (34, 88, 0, 0), (34, 40, 0, 0), (34, 39, 0, 0), (34, 438, 0, 0), (34, 41, 0, 0), (34, 5, 0, 0), (34, 13, 0, 0), (34, 6, 0, 0), (35, 94, 0, 0), (35, 51, 0, 0), (35, 49, 0, 0), (35, 52, 0, 0), (35, 50, 0, 0), (35, 15, 0, 0), (40, 4, 0, 0), (40, 5, 0, 0), (40, 7, 0, 0), (38, 0, 0, 0)], (0, 0, 18, 0, [])),
  ([(5, 4, (-1), 0), (5, 5, (-1), 0), (34, 90, 0, 0), (34, 89, 0, 0), (34, 88, 0, 0), (34, 40, 0, 0), (34, 39, 0, 0), (34, 438, 0, 0), (34, 41, 0, 0), (34, 5, 0, 0), (34, 13, 0, 0), (34, 6, 0, 0), (35, 94, 0, 0), (35, 51, 0, 0), (35, 49, 0, 0), (35, 52, 0, 0), (35, 50, 0, 0), (35, 15, 0, 0), (40, 4, 0, 0), (40, 5, 0, 0), (40, 7, 0, 0), (38, 0, 0, 0)], (0, 0, 30, 0, [])),
  ([(3, 8, 0, 0), (34, 438, 0, 0), (38, 0, 0, 0), (33, 2, 0, 0), (4, 9, 0, 0), (3, 9, 0, 0)], (2, 0, 39, 23, [])),
  ([(3, 5, 0, 0), (36, 0, 0, 0)], (2, 1, 40, 24, [])),
  ([(3, 9, 0, 0), (3, 1, 0, 0)], (1, 3, 41, 25, [])),
  ([(34, 90, 0, 0), (34, 89, 0, 0), (34, 88, 0, 0), (34, 40, 0, 0), (34, 39, 0, 0), (34, 438, 0, 0), (34, 41, 0, 0), (34, 5, 0, 0), (34, 13, 0, 0), (34, 6, 0, 0), (35, 94, 0, 0), (35, 51, 0, 0), (35, 49, 0, 0), (35, 52, 0, 0), (35, 50, 0, 0), (35, 15, 0, 0), (40, 4, 0, 0), (40, 5, 0, 0), (38, 0, 0, 0)], (0, 0, 31, 0, [])),
  ([(3, 4, 0, 0), (36, 0, 0, 0)], (2, 5, 29, 27, [])),
  ([(3, 0, 2, 0), (25, 26815, 26823, 0), (3, 4, 0, 0), (36, 0, 0, 0), (0, 1, 0, 0), (38, 0, 0, 0), (15, 0, 0, 0), (36, 0, 0, 0), (38, 0, 0, 0), (28, 94, 0, 0), (34, 438, 0, 0), (38, 0, 0, 0), (33, 2, 0, 0), (3, 9, 0, 0)], (1, 2, 29, 28, [])),
  ([(3, 0, 2, 0), (3, 0, 2, 0), (25, 26815, 26823, 0), (5, 4, (-1), 0), (3, 4, 0, 0), (36, 0, 0, 0), (38, 0, 0, 0), (28, 94, 0, 0), (34, 88, 0, 0), (34, 40, 0, 0), (34, 39, 0, 0), (34, 438, 0, 0), (34, 41, 0, 0), (38, 0, 0, 0), (33, 1, 0, 0), (34, 90, 0, 0), (34, 89, 0, 0), (34, 88, 0, 0), (34, 40, 0, 0), (34, 39, 0, 0), (34, 438, 0, 0), (34, 41, 0, 0), (34, 5, 0, 0), (34, 13, 0, 0), (34, 6, 0, 0), (35, 94, 0, 0), (35, 51, 0, 0), (35, 49, 0, 0), (35, 52, 0, 0), (35, 50, 0, 0), (35, 15, 0, 0), (40, 4, 0, 0), (40, 5, 0, 0), (40, 7, 0, 0), (38, 0, 0, 0)], (0, 0, 26, 0, [])),
  ([(3, 0, 2, 0), (25, 26815, 26823, 0), (3, 4, 0, 0), (36, 0, 0, 0), (5, 4, 1, 0), (3, 8, 0, 0), (38, 0, 0, 0), (29, 94, 0, 0), (0, 1, 0, 0), (4, 6, 0, 0), (34, 90, 0, 0), (34, 89, 0, 0), (34, 88, 0, 0), (34, 40, 0, 0), (34, 39, 0, 0), (34, 438, 0, 0), (34, 41, 0, 0), (34, 5, 0, 0), (34, 13, 0, 0), (34, 6, 0, 0), (35, 94, 0, 0), (35, 51, 0, 0), (35, 49, 0, 0), (35, 52, 0, 0), (35, 50, 0, 0), (35, 15, 0, 0), (40, 4, 0, 0), (40, 5, 0, 0), (40, 7, 0, 0), (38, 0, 0, 0)], (0, 0, 30, 0, [])),
  ([(3, 0, 2, 0), (25, 26815, 26731, 0), (7, 0, 0, 0), (24, 26731, 40, 0), (0, 1, 0, 0), (38, 0, 0, 0), (14, 0, 0, 0), (36, 0, 0, 0), (38, 0, 0, 0), (26, 26731, 40, 0), (5, 7, 1, 0), (34, 90, 0, 0), (34, 89, 0, 0), (34, 88, 0, 0), (34, 40, 0, 0), (34, 39, 0, 0), (34, 438, 0, 0), (34, 41, 0, 0), (34, 5, 0, 0), (34, 13, 0, 0), (34, 6, 0, 0), (35, 94, 0, 0), (35, 51, 0, 0), (35, 49, 0, 0), (35, 52, 0, 0), (35, 50, 0, 0), (35, 15, 0, 0), (40, 4, 0, 0), (40, 5, 0, 0), (40, 7, 0, 0), (38, 0, 0, 0)], (0, 0, 3, 0, [])),
  ([(3, 6, 0, 0)], (2, 1, 33, 32, [])),
  ([(3, 5, 0, 0), (36, 0, 0, 0)], (2, 5, 42, 33, [])),
  ([(0, 0, 0, 0), (34, 90, 0, 0), (34, 89, 0, 0), (34, 88, 0, 0), (34, 40, 0, 0), (34, 39, 0, 0), (34, 438, 0, 0), (34, 41, 0, 0), (34, 5, 0, 0), (34, 13, 0, 0), (34, 6, 0, 0), (35, 94, 0, 0), (35, 51, 0, 0), (35, 49, 0, 0), (35, 52, 0, 0), (35, 50, 0, 0), (35, 15, 0, 0), (38, 0, 0, 0)], (5, 0, 0, 0, [(0, 0), (1, 0)])),
  ([(3, 4, 0, 0), (36, 0, 0, 0)], (2, 5, 36, 35, [])),
  ([(3, 0, 2, 0), (3, 0, 2, 0), (25, 26815, 26823, 0), (5, 4, (-1), 0), (3, 4, 0, 0), (36, 0, 0, 0), (38, 0, 0, 0), (28, 94, 0, 0), (34, 88, 0, 0), (34, 40, 0, 0), (34, 39, 0, 0), (34, 438, 0, 0), (34, 41, 0, 0), (38, 0, 0, 0), (33, 1, 0, 0), (34, 90, 0, 0), (34, 89, 0, 0), (34, 88, 0, 0), (34, 40, 0, 0), (34, 39, 0, 0), (34, 438, 0, 0), (34, 41, 0, 0), (34, 5, 0, 0), (34, 13, 0, 0), (34, 6, 0, 0), (35, 94, 0, 0), (35, 51, 0, 0), (35, 49, 0, 0), (35, 52, 0, 0), (35, 50, 0, 0), (35, 15, 0, 0), (40, 4, 0, 0), (38, 0, 0, 0)], (0, 0, 34, 0, [])),
  ([(0, 1, 0, 0), (34, 90, 0, 0), (34, 89, 0, 0), (34, 88, 0, 0), (34, 40, 0, 0), (34, 39, 0, 0), (34, 438, 0, 0), (34, 41, 0, 0), (34, 5, 0, 0), (34, 13, 0, 0), (34, 6, 0, 0), (35, 94, 0, 0), (35, 51, 0, 0), (35, 49, 0, 0), (35, 52, 0, 0), (35, 50, 0, 0), (35, 15, 0, 0), (38, 0, 0, 0)], (5, 0, 0, 0, [(0, 0), (1, 0)])),
  ([(34, 90, 0, 0), (34, 89, 0, 0), (34, 88, 0, 0), (34, 40, 0, 0), (34, 39, 0, 0), (34, 438, 0, 0), (34, 41, 0, 0), (34, 5, 0, 0), (34, 13, 0, 0), (34, 6, 0, 0), (35, 94, 0, 0), (35, 51, 0, 0), (35, 49, 0, 0), (35, 52, 0, 0), (35, 50, 0, 0), (35, 15, 0, 0), (40, 4, 0, 0), (40, 5, 0, 0), (38, 0, 0, 0)], (0, 0, 31, 0, [])),
  ([(34, 90, 0, 0), (34, 89, 0, 0), (34, 88, 0, 0), (34, 40, 0, 0), (34, 39, 0, 0), (34, 438, 0, 0), (34, 41, 0, 0), (34, 5, 0, 0), (34, 13, 0, 0), (34, 6, 0, 0), (35, 94, 0, 0), (35, 51, 0, 0), (35, 49, 0, 0), (35, 52, 0, 0), (35, 50, 0, 0), (35, 15, 0, 0), (40, 4, 0, 0), (40, 5, 0, 0), (40, 7, 0, 0), (38, 0, 0, 0)], (0, 0, 18, 0, [])),
  ([(34, 90, 0, 0), (34, 89, 0, 0), (34, 88, 0, 0), (34, 40, 0, 0), (34, 39, 0, 0), (34, 438, 0, 0), (34, 41, 0, 0), (34, 5, 0, 0), (34, 13, 0, 0), (34, 6, 0, 0), (35, 94, 0, 0), (35, 51, 0, 0), (35, 49, 0, 0), (35, 52, 0, 0), (35, 50, 0, 0), (35, 15, 0, 0), (40, 4, 0, 0), (40, 5, 0, 0), (38, 0, 0, 0)], (0, 0, 31, 0, [])),
  ([(34, 90, 0, 0), (34, 89, 0, 0), (34, 88, 0, 0), (34, 40, 0, 0), (34, 39, 0, 0), (34, 438, 0, 0), (34, 41, 0, 0), (34, 5, 0, 0), (34, 13, 0, 0), (34, 6, 0, 0), (35, 94, 0, 0), (35, 51, 0, 0), (35, 49, 0, 0), (35, 52, 0, 0), (35, 50, 0, 0), (35, 15, 0, 0), (40, 4, 0, 0), (40, 5, 0, 0), (40, 7, 0, 0), (38, 0, 0, 0)], (0, 0, 26, 0, [])),
  ([(34, 90, 0, 0), (34, 89, 0, 0), (34, 88, 0, 0), (34, 40, 0, 0), (34, 39, 0, 0), (34, 438, 0, 0), (34, 41, 0, 0), (34, 5, 0, 0), (34, 13, 0, 0), (34, 6, 0, 0), (35, 94, 0, 0), (35, 51, 0, 0), (35, 49, 0, 0), (35, 52, 0, 0), (35, 50, 0, 0), (35, 15, 0, 0), (40, 4, 0, 0), (40, 5, 0, 0), (40, 7, 0, 0), (38, 0, 0, 0)], (0, 0, 26, 0, [])),
  ([(34, 90, 0, 0), (34, 89, 0, 0), (34, 88, 0, 0), (34, 40, 0, 0), (34, 39, 0, 0), (34, 438, 0, 0), (34, 41, 0, 0), (34, 5, 0, 0), (34, 13, 0, 0), (34, 6, 0, 0), (35, 94, 0, 0), (35, 51, 0, 0), (35, 49, 0, 0), (35, 52, 0, 0), (35, 50, 0, 0), (35, 15, 0, 0), (40, 4, 0, 0), (38, 0, 0, 0)], (0, 0, 34, 0, []))]
def p20 : List Nat := [0, 18, 31, 34, 42, 64, 71, 78, 85, 104, 109, 116, 134, 139, 148, 150, 156, 163, 168, 173, 187, 204, 213, 225, 230, 236, 239, 244, 261, 278, 293, 312, 317, 322, 324, 329, 346, 312, 168, 312, 239, 239, 324]
set_option maxRecDepth 100000 in
def cq20 : qCt := (4, (([(0, (2, ((26815, []), (0, [])))), (1, (0, ((0, [(0, 1)]), (0, [])))), (2, (0, ((0, [(1, 1)]), (0, [])))), (3, (0, ((0, [(2, 1)]), (0, []))))], [], ([(90, (0, [(3, 1)])), (89, (0, [(4, 1)])), (88, (0, [(5, 1)])), (40, (0, [(6, 1)])), (39, (0, [(7, 1)])), (438, (0, [(8, 1)])), (41, (0, [(9, 1)])), (5, (0, [(10, 1)])), (13, (0, [(11, 1)])), (6, (0, [(12, 1)]))], [(94, 0), (51, 1), (49, 2), (52, 3), (50, 4), (15, 5)]), (13, [(0, (1, 6)), (1, (0, 1)), (2, (0, 1)), (3, (0, 63)), (4, (0, 126)), (5, (0, 1026)), (6, (1, 1027)), (9, (0, 10)), (10, (0, 31)), (11, (0, 1024)), (12, (0, 1024)), (7, (0, 1024)), (8, (0, 1))], [(4, [(0, (-1)), (6, 1)]), ((-1), [(1, (-1)), (6, 1)]), ((-1), [(2, (-1)), (6, 1)]), (0, [(6, (-1)), (7, 1)]), (0, [(8, (-1)), (9, 1)]), (0, [(8, 10), (9, (-1))])], 6, [(0, 94), (1, 51), (2, 49), (3, 52), (4, 50), (5, 15)], [], [], [(29, ([2], [(0, [(7, 1)]), (1, [(7, 1)]), (0, [])])), (2, ([2], [(0, [(7, 1)]), (1, [(7, 1)]), (0, [])])), (27, ([1, 3], [(0, []), (0, [(7, 1)])])), (2, ([1], [(0, []), (0, [(7, 1)]), (0, [])])), (3, ([3], [(0, []), (0, [(7, 1)]), (1024, [])])), (31, ([2, 4], [(0, []), (0, [(7, 1)])])), (32, ([2, 4], [(0, []), (0, [(7, 1)])])), (30, ([5], [(0, []), (0, [(11, 1)])]))])), ([([], [(0, ((0, [(13, 1)]), (0, [])))], ([(89, (0, [(14, 1)])), (88, (0, [(15, 1)])), (40, (0, [(16, 1)])), (438, (0, [(17, 1)])), (41, (0, [(18, 1)])), (13, (0, [(19, 1)]))], [(94, 6), (15, 7)]), (20, [(13, (0, 0)), (14, (0, 126)), (15, (0, 1026)), (16, (1, 1027)), (18, (0, 10)), (19, (0, 1024)), (17, (0, 1)), (7, (0, 1026))], [(0, [(6, (-1)), (16, 1)]), (4, [(0, (-1)), (16, 1)]), ((-1), [(1, (-1)), (16, 1)]), ((-1), [(2, (-1)), (16, 1)]), (0, [(11, (-1)), (19, 1)])], 8, [(6, 94), (7, 15)], [], [], [(27, ([1, 3], [(0, []), (0, [(7, 1)])])), (2, ([1], [(0, []), (0, [(7, 1)]), (0, [])])), (3, ([3], [(0, []), (0, [(7, 1)]), (1024, [])])), (31, ([2, 4], [(0, []), (0, [(7, 1)])])), (32, ([2, 4], [(0, []), (0, [(7, 1)])])), (30, ([7], [(0, []), (0, [(19, 1)])]))])),
   ([], [(0, ((0, [(13, 1)]), (0, [])))], ([(89, (0, [(14, 1)])), (88, (0, [(15, 1)])), (40, (0, [(16, 1)])), (438, (0, [(17, 1)])), (41, (0, [(18, 1)])), (13, (0, [(19, 1)]))], [(94, 6), (15, 7)]), (20, [(13, (1, 1)), (14, (0, 126)), (15, (0, 1026)), (16, (1, 1026)), (18, (0, 10)), (19, (0, 1024)), (17, (0, 1)), (7, (0, 1026))], [(0, [(6, (-1)), (16, 1)]), (4, [(0, (-1)), (16, 1)]), ((-1), [(1, (-1)), (16, 1)]), ((-1), [(2, (-1)), (16, 1)]), (0, [(11, (-1)), (19, 1)]), (0, [(7, 1), (16, (-1))]), (0, [(17, (-1)), (18, 1)]), (0, [(17, 10), (18, (-1))]), (0, [(8, (-1)), (17, 1)])], 8, [(6, 94), (7, 15)], [], [], [(29, ([2], [(0, [(7, 1)]), (1, [(7, 1)]), (0, [])])), (2, ([2], [(0, [(7, 1)]), (1, [(7, 1)]), (0, [])])), (27, ([1, 3], [(0, []), (0, [(7, 1)])])), (2, ([1], [(0, []), (0, [(7, 1)]), (0, [])])), (3, ([3], [(0, []), (0, [(7, 1)]), (1024, [])])), (31, ([2, 4], [(0, []), (0, [(7, 1)])])), (32, ([2, 4], [(0, []), (0, [(7, 1)])])), (30, ([7], [(0, []), (0, [(19, 1)])]))]))], [13, 14, 15, 16, 17, 18, 19, 40, 41, 88, 89, 91, 92, 93, 94, 95, 438])))
def t20 : List qCt := [cq18, cq10, cq19]
theorem hdV_X1_operand : yX1_operand.cls = RX1 ∧ yX1_operand.cls ≠ "java/lang/invoke/MethodHandle" ∧ yX1_operand.cls ≠ "java/lang/invoke/VarHandle" ∧ (parseMethodDescriptor yX1_operand.desc).map (fun d => d.parameters.length) = some 1 := by decide +kernel
theorem st17 (l : Launch) {G : rGm} {cc : ByteArray} {nL n fr lo : Nat} {ret : Option FieldType} {Qf : kQf} (hf : 3 ≤ fr) (hlo : 76 ≤ lo) : ySite gAll LAll vwCl rFo rZs rRs rNs rTs G l cc nL RX1 ret fr lo n Qf 182 116 cq18 := ys_V 1 13407 3 rc18 lo_13407 kc3 (m18 l) kGood kw1497 kw1498 kw1499 kw181 kw1483 hdV_X1_operand hf hlo
theorem hdV_X1_apply : yX1_apply.cls = RX1 ∧ yX1_apply.cls ≠ "java/lang/invoke/MethodHandle" ∧ yX1_apply.cls ≠ "java/lang/invoke/VarHandle" ∧ (parseMethodDescriptor yX1_apply.desc).map (fun d => d.parameters.length) = some 1 := by decide +kernel
theorem st18 (l : Launch) {G : rGm} {cc : ByteArray} {nL n fr lo : Nat} {ret : Option FieldType} {Qf : kQf} (hf : 3 ≤ fr) (hlo : 66 ≤ lo) : ySite gAll LAll vwCl rFo rZs rRs rNs rTs G l cc nL RX1 ret fr lo n Qf 182 119 cq10 := ys_V 1 13407 3 rc10 lo_13407 kc3 (m10 l) kGood kw1500 kw1165 kw1166 kw181 kw1438 hdV_X1_apply hf hlo
theorem hdS_X1_priority : yX1_priority.cls ≠ "java/lang/invoke/MethodHandle" ∧ yX1_priority.cls ≠ "java/lang/invoke/VarHandle" ∧ (parseMethodDescriptor yX1_priority.desc).map (fun d => d.parameters.length) = some 1 := by decide +kernel
theorem st19 (l : Launch) {G : rGm} {cc : ByteArray} {nL n fr lo : Nat} {ret : Option FieldType} {Qf : kQf} (hf : 1 ≤ fr) (hlo : 20 ≤ lo) : ySite gAll LAll vwCl rFo rZs rRs rNs rTs G l cc nL RX1 ret fr lo n Qf 184 122 cq19 := ys_S 1 rfl (m19 l) kGood kw1501 kw1502 kw181 kw1493 hdS_X1_priority hf hlo
def mt20 : yMt := ([(182, (116, 0)), (182, (119, 1)), (184, (122, 2))], ([], ([], [])))
theorem rc20 : yRc cq20 13407 3 = true := by decide +kernel
set_option maxRecDepth 100000 in
def u20_0 : Nat × (qS × (qL × (qL × qL))) := (3, (([(0, (2, ((26815, []), (0, [])))), (1, (0, ((0, [(0, 1)]), (0, [])))), (4, (0, ((0, [(13, 1)]), (0, [])))), (5, (0, ((0, [(14, 1)]), (0, [])))), (6, (0, ((0, [(15, 1)]), (0, [])))), (7, (0, ((0, [(16, 1)]), (0, []))))], [], ([(90, (0, [(3, 1)])), (89, (0, [(17, 1)])), (88, (0, [(18, 1)])), (40, (0, [(19, 1)])), (39, (0, [(7, 1)])), (438, (0, [(20, 1)])), (41, (0, [(21, 1)])), (5, (0, [(10, 1)])), (13, (0, [(22, 1)])), (6, (0, [(12, 1)]))], [(94, 6), (51, 1), (49, 2), (52, 3), (50, 4), (15, 7)]), (23, [(0, (1, 6)), (1, (0, 1)), (2, ((-2147483648), 2147483647)), (3, (0, 63)), (4, (0, 126)), (5, (0, 1026)), (6, (0, 1027)), (9, (0, 10)), (10, (0, 31)), (11, (0, 1024)), (12, (0, 1024)), (7, (0, 1024)), (8, (0, 1)), (13, (0, 1025)), (14, (0, 1025)), (15, (0, 1)), (16, (0, 1025)), (17, (0, 126)), (18, (0, 1026)), (19, (1, 1027)), (21, (0, 10)), (22, (0, 1024)), (20, (0, 1))], [(4, [(0, (-1)), (6, 1)]), ((-1), [(1, (-1)), (6, 1)]), ((-1), [(2, (-1)), (6, 1)]), (0, [(6, (-1)), (7, 1)]), (0, [(6, (-1)), (19, 1)]), (0, [(11, (-1)), (22, 1)]), (6, [(0, (-1)), (14, 1)]), (0, [(14, (-1)), (16, 1)]), (4, [(0, (-1)), (19, 1)]), ((-1), [(13, (-1)), (19, 1)]), ((-1), [(14, (-1)), (19, 1)]), (1, [(16, 1), (18, (-1))]), ((-1), [(16, (-1)), (19, 1)]), (0, [(7, 1), (19, (-1))]), (0, [(20, (-1)), (21, 1)]), (0, [(20, 10), (21, (-1))]), (0, [(8, (-1)), (20, 1)])], 8, [(6, 94), (7, 15)], [], [], [(29, ([2], [(0, [(7, 1)]), (1, [(7, 1)]), (0, [])])), (2, ([2], [(0, [(7, 1)]), (1, [(7, 1)]), (0, [])])), (27, ([1, 3], [(0, []), (0, [(7, 1)])])), (2, ([1], [(0, []), (0, [(7, 1)]), (0, [])])), (3, ([3], [(0, []), (0, [(7, 1)]), (1024, [])])), (31, ([2, 4], [(0, []), (0, [(7, 1)])])), (32, ([2, 4], [(0, []), (0, [(7, 1)])])), (30, ([7], [(0, []), (0, [(22, 1)])])), (1084, ([6], [(0, [(13, 1)]), (0, [(14, 1)])]))])), ((2, []), ((65603, [(16, (-64))]), (0, [])))))
set_option maxRecDepth 100000 in
def u20_1 : Nat × (qS × (qL × (qL × qL))) := (30, (([(0, (2, ((26815, []), (0, [])))), (1, (0, ((0, [(0, 1)]), (0, [])))), (4, (0, ((0, [(13, 1)]), (0, [])))), (5, (0, ((0, [(14, 1)]), (0, [])))), (6, (0, ((0, [(15, 1)]), (0, [])))), (7, (0, ((0, [(16, 1)]), (0, []))))], [], ([(90, (0, [(3, 1)])), (89, (0, [(17, 1)])), (88, (0, [(18, 1)])), (40, (0, [(19, 1)])), (39, (0, [(7, 1)])), (438, (0, [(20, 1)])), (41, (0, [(21, 1)])), (5, (0, [(10, 1)])), (13, (0, [(22, 1)])), (6, (0, [(12, 1)]))], [(94, 6), (51, 1), (49, 2), (52, 3), (50, 4), (15, 7)]), (23, [(0, (1, 6)), (1, (0, 1)), (2, ((-2147483648), 2147483647)), (3, (0, 63)), (4, (0, 126)), (5, (0, 1026)), (6, (0, 1025)), (9, (0, 10)), (10, (0, 31)), (11, (0, 1024)), (12, (0, 1024)), (7, (0, 1024)), (8, (0, 1)), (13, (0, 1025)), (14, (0, 1025)), (15, (0, 1)), (16, (0, 1024)), (17, (0, 126)), (18, (0, 1026)), (19, (1, 1025)), (21, (0, 10)), (22, (0, 1024)), (20, (0, 1))], [(4, [(0, (-1)), (6, 1)]), ((-1), [(1, (-1)), (6, 1)]), ((-1), [(2, (-1)), (6, 1)]), (0, [(6, (-1)), (7, 1)]), (0, [(6, (-1)), (19, 1)]), (0, [(11, (-1)), (22, 1)]), (1, [(14, (-1)), (16, 1)]), (0, [(13, (-1)), (19, 1)]), (0, [(14, (-1)), (19, 1)]), (2, [(16, 1), (18, (-1))]), ((-1), [(16, (-1)), (19, 1)]), (0, [(20, (-1)), (21, 1)]), (0, [(20, 10), (21, (-1))]), (0, [(8, (-1)), (20, 1)]), ((-1), [(7, 1), (19, (-1))])], 8, [(6, 94), (7, 15)], [], [], [(29, ([2], [(0, [(7, 1)]), (1, [(7, 1)]), (0, [])])), (2, ([2], [(0, [(7, 1)]), (1, [(7, 1)]), (0, [])])), (27, ([1, 3], [(0, []), (0, [(7, 1)])])), (2, ([1], [(0, []), (0, [(7, 1)]), (0, [])])), (3, ([3], [(0, []), (0, [(7, 1)]), (1024, [])])), (31, ([2, 4], [(0, []), (0, [(7, 1)])])), (32, ([2, 4], [(0, []), (0, [(7, 1)])])), (30, ([7], [(0, []), (0, [(22, 1)])])), (1084, ([6], [(0, [(13, 1)]), (0, [(14, 1)])]))])), ((2, []), ((65600, [(16, (-64))]), (0, [])))))
set_option maxRecDepth 100000 in
def u20_2 : Nat × (qS × (qL × (qL × qL))) := (18, (([(0, (2, ((26815, []), (0, [])))), (1, (0, ((0, [(0, 1)]), (0, [])))), (4, (0, ((0, [(13, 1)]), (0, [])))), (5, (0, ((0, [(14, 1)]), (0, [])))), (6, (0, ((0, [(15, 1)]), (0, [])))), (7, (0, ((0, [(16, 1)]), (0, []))))], [], ([(90, (0, [(3, 1)])), (89, (0, [(17, 1)])), (88, (0, [(18, 1)])), (40, (0, [(19, 1)])), (39, (0, [(7, 1)])), (438, (0, [(20, 1)])), (41, (0, [(21, 1)])), (5, (0, [(10, 1)])), (13, (0, [(22, 1)])), (6, (0, [(12, 1)]))], [(94, 6), (51, 1), (49, 2), (52, 3), (50, 4), (15, 7)]), (23, [(0, (1, 6)), (1, (0, 1)), (2, ((-2147483648), 2147483647)), (3, (0, 63)), (4, (0, 126)), (5, (0, 1026)), (6, (0, 1025)), (9, (0, 10)), (10, (0, 31)), (11, (0, 1024)), (12, (0, 1024)), (7, (0, 1024)), (8, (0, 1)), (13, (0, 1024)), (14, (1, 1024)), (15, (0, 0)), (16, (1, 1024)), (17, (0, 126)), (18, (0, 1025)), (19, (2, 1025)), (21, (0, 10)), (22, (0, 1024)), (20, (0, 1))], [(4, [(0, (-1)), (6, 1)]), ((-1), [(1, (-1)), (6, 1)]), ((-1), [(2, (-1)), (6, 1)]), (0, [(6, (-1)), (7, 1)]), (0, [(6, (-1)), (19, 1)]), (0, [(11, (-1)), (22, 1)]), (0, [(14, (-1)), (16, 1)]), ((-1), [(13, (-1)), (19, 1)]), ((-1), [(14, (-1)), (19, 1)]), (1, [(16, 1), (18, (-1))]), ((-1), [(16, (-1)), (19, 1)]), (0, [(20, (-1)), (21, 1)]), (0, [(20, 10), (21, (-1))]), (0, [(8, (-1)), (20, 1)]), ((-1), [(7, 1), (19, (-1))])], 8, [(6, 94), (7, 15)], [], [], [(29, ([2], [(0, [(7, 1)]), (1, [(7, 1)]), (0, [])])), (2, ([2], [(0, [(7, 1)]), (1, [(7, 1)]), (0, [])])), (27, ([1, 3], [(0, []), (0, [(7, 1)])])), (2, ([1], [(0, []), (0, [(7, 1)]), (0, [])])), (3, ([3], [(0, []), (0, [(7, 1)]), (1024, [])])), (31, ([2, 4], [(0, []), (0, [(7, 1)])])), (32, ([2, 4], [(0, []), (0, [(7, 1)])])), (30, ([7], [(0, []), (0, [(22, 1)])])), (1084, ([6], [(0, [(13, 1)]), (0, [(14, 1)])]))])), ((2, []), ((65601, [(16, (-64))]), (0, [(13, 64)])))))
set_option maxRecDepth 100000 in
def u20_3 : Nat × (qS × (qL × (qL × qL))) := (31, (([(0, (2, ((26815, []), (0, [])))), (4, (0, ((0, [(13, 1)]), (0, [])))), (5, (0, ((0, [(14, 1)]), (0, [])))), (6, (0, ((0, [(15, 1)]), (0, []))))], [], ([(90, (0, [(3, 1)])), (89, (0, [(16, 1)])), (88, (0, [(17, 1)])), (40, (0, [(18, 1)])), (39, (0, [(7, 1)])), (438, (0, [(19, 1)])), (41, (0, [(20, 1)])), (5, (0, [(10, 1)])), (13, (0, [(21, 1)])), (6, (0, [(12, 1)]))], [(94, 6), (51, 1), (49, 2), (52, 3), (50, 4), (15, 7)]), (22, [(0, ((-2147483648), 2147483647)), (1, (0, 1)), (2, ((-2147483648), 2147483647)), (3, (0, 63)), (4, (0, 126)), (5, (0, 1026)), (6, (0, 1027)), (9, (0, 10)), (10, (0, 32)), (11, (0, 1024)), (12, (0, 1024)), (7, (0, 1024)), (8, (0, 1)), (13, ((-2147483648), 2147483647)), (14, (0, 1025)), (15, (0, 1)), (16, (0, 126)), (17, (0, 1026)), (18, (1, 1027)), (20, (0, 10)), (21, (0, 1024)), (19, (0, 1))], [(4, [(0, (-1)), (6, 1)]), ((-1), [(1, (-1)), (6, 1)]), ((-1), [(2, (-1)), (6, 1)]), (0, [(6, (-1)), (18, 1)]), (0, [(11, (-1)), (21, 1)]), (4096, [(13, 1), (18, (-1))]), ((-1), [(13, (-1)), (18, 1)]), (0, [(7, 1), (18, (-1))]), (0, [(19, (-1)), (20, 1)]), (0, [(19, 10), (20, (-1))]), (0, [(8, (-1)), (19, 1)])], 8, [(6, 94), (7, 15)], [], [], [(29, ([2], [(0, [(7, 1)]), (1, [(7, 1)]), (0, [])])), (2, ([2], [(0, [(7, 1)]), (1, [(7, 1)]), (0, [])])), (27, ([1, 3], [(0, []), (0, [(7, 1)])])), (2, ([1], [(0, []), (0, [(7, 1)]), (0, [])])), (3, ([3], [(0, []), (0, [(7, 1)]), (1024, [])])), (31, ([2, 4], [(0, []), (0, [(7, 1)])])), (32, ([2, 4], [(0, []), (0, [(7, 1)])])), (30, ([7], [(0, []), (0, [(21, 1)])]))])), ((1, []), ((0, []), (0, [])))))
set_option maxRecDepth 100000 in
def u20_4 : Nat × (qS × (qL × (qL × qL))) := (26, (([(0, (2, ((26815, []), (0, [])))), (1, (0, ((0, [(0, 1)]), (0, [])))), (4, (0, ((0, [(13, 1)]), (0, [])))), (5, (0, ((0, [(14, 1)]), (0, [])))), (7, (0, ((0, [(15, 1)]), (0, [])))), (8, (0, ((0, [(16, 1)]), (0, [])))), (9, (0, ((0, [(17, 1)]), (0, []))))], [], ([(90, (0, [(3, 1)])), (89, (0, [(18, 1)])), (88, (0, [(19, 1)])), (40, (0, [(20, 1)])), (39, (0, [(7, 1)])), (438, (0, [(21, 1)])), (41, (0, [(22, 1)])), (5, (0, [(10, 1)])), (13, (0, [(23, 1)])), (6, (0, [(12, 1)]))], [(94, 6), (51, 1), (49, 2), (52, 3), (50, 4), (15, 7)]), (24, [(0, (1, 6)), (1, (0, 1)), (2, ((-2147483648), 2147483647)), (3, (0, 63)), (4, (0, 126)), (5, (0, 1026)), (6, (0, 1025)), (9, (0, 10)), (10, (0, 31)), (11, (0, 1024)), (12, (0, 1024)), (7, (0, 1024)), (8, (0, 1)), (13, (0, 1024)), (14, (0, 1024)), (15, (0, 1024)), (16, (1, 127)), (17, (1, 7)), (18, (0, 126)), (19, (0, 1025)), (20, (1, 1025)), (22, (0, 10)), (23, (0, 1024)), (21, (0, 1))], [(4, [(0, (-1)), (6, 1)]), ((-1), [(1, (-1)), (6, 1)]), ((-1), [(2, (-1)), (6, 1)]), (0, [(6, (-1)), (7, 1)]), (0, [(6, (-1)), (20, 1)]), (0, [(11, (-1)), (23, 1)]), (0, [(14, (-1)), (15, 1)]), ((-1), [(13, (-1)), (20, 1)]), ((-1), [(14, (-1)), (20, 1)]), (1, [(15, 1), (19, (-1))]), ((-1), [(15, (-1)), (20, 1)]), (0, [(21, (-1)), (22, 1)]), (0, [(21, 10), (22, (-1))]), (0, [(8, (-1)), (21, 1)]), ((-1), [(7, 1), (20, (-1))])], 8, [(6, 94), (7, 15)], [], [], [(29, ([2], [(0, [(7, 1)]), (1, [(7, 1)]), (0, [])])), (2, ([2], [(0, [(7, 1)]), (1, [(7, 1)]), (0, [])])), (27, ([1, 3], [(0, []), (0, [(7, 1)])])), (2, ([1], [(0, []), (0, [(7, 1)]), (0, [])])), (3, ([3], [(0, []), (0, [(7, 1)]), (1024, [])])), (31, ([2, 4], [(0, []), (0, [(7, 1)])])), (32, ([2, 4], [(0, []), (0, [(7, 1)])])), (30, ([7], [(0, []), (0, [(23, 1)])])), (1084, ([6], [(0, [(13, 1)]), (0, [(14, 1)])])), (0, ([], [(0, []), (1, []), ((-41), [(16, 1)]), (39, [(16, (-1))])]))])), ((2, []), ((65602, [(15, (-64))]), (0, [(13, 64)])))))
set_option maxRecDepth 100000 in
def u20_5 : Nat × (qS × (qL × (qL × qL))) := (34, (([(0, (2, ((26815, []), (0, [])))), (4, (0, ((0, [(13, 1)]), (0, []))))], [], ([(90, (0, [(3, 1)])), (89, (0, [(14, 1)])), (88, (0, [(15, 1)])), (40, (0, [(16, 1)])), (39, (0, [(7, 1)])), (438, (0, [(17, 1)])), (41, (0, [(18, 1)])), (5, (0, [(10, 1)])), (13, (0, [(19, 1)])), (6, (0, [(12, 1)]))], [(94, 6), (51, 1), (49, 2), (52, 3), (50, 4), (15, 7)]), (20, [(0, ((-2147483648), 2147483647)), (1, (0, 1)), (2, ((-2147483648), 2147483647)), (3, (0, 63)), (4, (0, 126)), (5, (0, 1026)), (6, (0, 1027)), (9, (0, 10)), (10, (0, 32)), (11, (0, 1024)), (12, (0, 1024)), (7, (0, 1026)), (8, (0, 1)), (13, ((-2147483648), 1024)), (14, (0, 126)), (15, (0, 1026)), (16, (1, 1026)), (18, (0, 10)), (19, (0, 1024)), (17, (0, 1))], [(4, [(0, (-1)), (6, 1)]), ((-1), [(1, (-1)), (6, 1)]), ((-1), [(2, (-1)), (6, 1)]), (0, [(6, (-1)), (16, 1)]), (0, [(11, (-1)), (19, 1)]), (4096, [(13, 1), (16, (-1))]), (0, [(7, 1), (16, (-1))]), (0, [(17, (-1)), (18, 1)]), (0, [(17, 10), (18, (-1))]), (0, [(8, (-1)), (17, 1)])], 8, [(6, 94), (7, 15)], [], [], [(29, ([2], [(0, [(7, 1)]), (1, [(7, 1)]), (0, [])])), (2, ([2], [(0, [(7, 1)]), (1, [(7, 1)]), (0, [])])), (27, ([1, 3], [(0, []), (0, [(7, 1)])])), (2, ([1], [(0, []), (0, [(7, 1)]), (0, [])])), (3, ([3], [(0, []), (0, [(7, 1)]), (1024, [])])), (31, ([2, 4], [(0, []), (0, [(7, 1)])])), (32, ([2, 4], [(0, []), (0, [(7, 1)])])), (30, ([7], [(0, []), (0, [(19, 1)])]))])), ((0, []), ((137438953472, [(13, 64)]), (0, [])))))
def u20 : qCu := [u20_0, u20_1, u20_2, u20_3, u20_4, u20_5]
set_option maxRecDepth 100000 in
theorem z20_s : zsm (zblk gAll cq20.2.2.2 t20 ruI2 ruJ2 rqL b20 cq20 (zrun gAll cq20.2.2.2 t20 ruI2 ruJ2 rqL b20 u20 cq20 none 300) 0 cq20.2.1 []) = true := sorry
set_option maxRecDepth 100000 in
theorem z20_0 : zsm (zfrom gAll cq20.2.2.2 t20 ruI2 ruJ2 rqL b20 u20 cq20 300 u20_0 []) = true := sorry
set_option maxRecDepth 100000 in
theorem z20_1 : zsm (zfrom gAll cq20.2.2.2 t20 ruI2 ruJ2 rqL b20 u20 cq20 300 u20_1 []) = true := sorry
set_option maxRecDepth 100000 in
theorem z20_2 : zsm (zfrom gAll cq20.2.2.2 t20 ruI2 ruJ2 rqL b20 u20 cq20 300 u20_2 []) = true := sorry
set_option maxRecDepth 100000 in
theorem z20_3 : zsm (zfrom gAll cq20.2.2.2 t20 ruI2 ruJ2 rqL b20 u20 cq20 300 u20_3 []) = true := sorry
set_option maxRecDepth 100000 in
theorem z20_4 : zsm (zfrom gAll cq20.2.2.2 t20 ruI2 ruJ2 rqL b20 u20 cq20 300 u20_4 []) = true := sorry
set_option maxRecDepth 100000 in
theorem z20_5 : zsm (zfrom gAll cq20.2.2.2 t20 ruI2 ruJ2 rqL b20 u20 cq20 300 u20_5 []) = true := sorry
theorem yr20 : yRun gAll t20 b20 cq20 := yRun_p (cuts := u20) (fuel := 300) gAll_tag ruI2_RtI ruJ2_RtJ rqL_ok ⟨zsm_e _ z20_s, List.forall_mem_cons.mpr ⟨zsm_e _ z20_0, List.forall_mem_cons.mpr ⟨zsm_e _ z20_1, List.forall_mem_cons.mpr ⟨zsm_e _ z20_2, List.forall_mem_cons.mpr ⟨zsm_e _ z20_3, List.forall_mem_cons.mpr ⟨zsm_e _ z20_4, List.forall_mem_cons.mpr ⟨zsm_e _ z20_5, yA_n⟩⟩⟩⟩⟩⟩⟩
theorem zw20 : zwid cq20.2.1.1 cq20.1 0 10 = true := by decide +kernel
set_option maxRecDepth 100000 in
theorem yw20 : yRows gAll LAll yt2 mt20 gHo 10 3 (zby cX1_read) p20 b20 p20 = true := by decide +kernel
set_option maxRecDepth 100000 in
theorem m20 (l : Launch) : kMet gAll LAll vwCl rFo rZs rRs rNs rTs l yX1_read cX1_read 10 (some .boolean) 3 76 cq20 := kmet_y2 (rt := 3) (by decide +kernel) yr20 zw20 rfl yw20 LAll_ok LAll_la yt2_ok gHo_ok rfl (fun G n Qf => List.forall_mem_cons.mpr ⟨⟨cq18, rfl, st17 l (by decide) (by decide)⟩, List.forall_mem_cons.mpr ⟨⟨cq10, rfl, st18 l (by decide) (by decide)⟩, List.forall_mem_cons.mpr ⟨⟨cq19, rfl, st19 l (by decide) (by decide)⟩, yA_n⟩⟩⟩) rfl (fun G n Rr => yA_n) rfl
/-! 21 Instruction.beginAddress@x.assembler.instruction ()V -/
set_option maxRecDepth 100000 in
def b21 : qCd := [([(3, 0, 2, 0), (0, (-1), 0, 0), (38, 0, 0, 0), (26, 26829, 101, 0), (3, 0, 2, 0), (0, (-1), 0, 0), (38, 0, 0, 0), (26, 26829, 102, 0), (3, 0, 2, 0), (0, 0, 0, 0), (38, 0, 0, 0), (26, 26829, 103, 0), (3, 0, 2, 0), (0, 0, 0, 0), (38, 0, 0, 0), (26, 26829, 104, 0), (34, 101, 0, 0), (34, 102, 0, 0), (34, 104, 0, 0), (34, 103, 0, 0), (38, 0, 0, 0)], (4, 0, 0, 0, []))]
def p21 : List Nat := [0]
set_option maxRecDepth 100000 in
def cq21 : qCt := (1, (([(0, (2, ((26829, []), (0, []))))], [], ([(101, (0, [(0, 1)])), (102, (0, [(1, 1)])), (104, (0, [(2, 1)])), (103, (0, [(3, 1)]))], []), (4, [(0, ((-1), 16)), (1, ((-1), 16)), (2, (0, 1)), (3, (0, 3))], [], 0, [], [], [], [])), ([([], [], ([(101, (0, [(4, 1)])), (102, (0, [(5, 1)])), (104, (0, [(6, 1)])), (103, (0, [(7, 1)]))], []), (8, [(4, ((-1), (-1))), (5, ((-1), 16)), (6, (0, 1)), (7, (0, 3))], [], 0, [], [], [], []))], [101, 102, 103, 104])))
def t21 : List qCt := []
def mt21 : yMt := ([], ([], ([], [])))
theorem rc21 : yRc cq21 13414 0 = true := by decide +kernel
set_option maxRecDepth 100000 in
def u21 : qCu := []
set_option maxRecDepth 100000 in
theorem z21 : zchk gAll t21 ruI2 ruJ2 rqL b21 u21 cq21 300 [0, 0, 0, 0, 0, 0] = true := sorry
theorem yr21 : yRun gAll t21 b21 cq21 := yRun_z gAll_tag ruI2_RtI ruJ2_RtJ rqL_ok z21
theorem zw21 : zwid cq21.2.1.1 cq21.1 0 1 = true := by decide +kernel
set_option maxRecDepth 100000 in
theorem yw21 : yRows gAll LAll yt3 mt21 gHo 1 0 (zby cX2_beginAddress) p21 b21 p21 = true := by decide +kernel
set_option maxRecDepth 100000 in
theorem m21 (l : Launch) : kMet gAll LAll vwCl rFo rZs rRs rNs rTs l yX2_beginAddress cX2_beginAddress 1 none 0 0 cq21 := kmet_y2 (rt := 0) (by decide +kernel) yr21 zw21 rfl yw21 LAll_ok LAll_la yt3_ok gHo_ok rfl (fun G n Qf => yA_n) rfl (fun G n Rr => yA_n) rfl
/-! 22 Line.isMark (II)Z -/
set_option maxRecDepth 100000 in
def b22 : qCd := [([(3, 0, 2, 0), (25, 26731, 26747, 0), (3, 1, 0, 0), (38, 0, 0, 0), (28, 49, 0, 0), (0, 1, 0, 0)], (1, 1, 3, 1, [])),
  ([(3, 0, 2, 0), (25, 26731, 26749, 0), (3, 1, 0, 0), (38, 0, 0, 0), (28, 50, 0, 0), (3, 2, 0, 0), (21, 0, 0, 0), (23, 0, 0, 0)], (2, 1, 3, 2, [])),
  ([(0, 1, 0, 0)], (0, 0, 4, 0, [])),
  ([(0, 0, 0, 0)], (0, 0, 4, 0, [])),
  ([(34, 39, 0, 0), (34, 438, 0, 0), (35, 49, 0, 0), (35, 50, 0, 0), (38, 0, 0, 0)], (5, 0, 0, 0, [(0, 0), (1, 0)]))]
def p22 : List Nat := [0, 10, 22, 26, 27]
set_option maxRecDepth 100000 in
def cq22 : qCt := (3, (([(0, (2, ((26731, []), (0, [])))), (1, (0, ((0, [(0, 1)]), (0, [])))), (2, (0, ((0, [(1, 1)]), (0, []))))], [], ([(39, (0, [(2, 1)])), (438, (0, [(3, 1)]))], [(49, 0), (50, 1)]), (4, [(0, (1, 2147483647)), (1, (34, 52)), (2, (0, 1024)), (3, (0, 1))], [(0, [(0, (-1)), (2, 1)])], 2, [(0, 49), (1, 50)], [], [], [(29, ([0], [(0, [(2, 1)]), (1, [(2, 1)]), (0, [])])), (2, ([0], [(0, [(2, 1)]), (1, [(2, 1)]), (0, [])])), (31, ([0, 1], [(0, []), (0, [(2, 1)])])), (32, ([0, 1], [(0, []), (0, [(2, 1)])]))])), ([([], [(0, ((0, [(4, 1)]), (0, [])))], ([], []), (5, [(4, (0, 0)), (2, (0, 1026)), (3, (0, 1))], [], 2, [], [], [], [(29, ([0], [(0, [(2, 1)]), (1, [(2, 1)]), (0, [])])), (2, ([0], [(0, [(2, 1)]), (1, [(2, 1)]), (0, [])])), (31, ([0, 1], [(0, []), (0, [(2, 1)])])), (32, ([0, 1], [(0, []), (0, [(2, 1)])]))])),
   ([], [(0, ((0, [(4, 1)]), (0, [])))], ([], []), (5, [(4, (1, 1)), (2, (0, 1026)), (3, (0, 1))], [((-1), [(0, (-1)), (2, 1)])], 2, [], [], [], [(29, ([0], [(0, [(2, 1)]), (1, [(2, 1)]), (0, [])])), (2, ([0], [(0, [(2, 1)]), (1, [(2, 1)]), (0, [])])), (31, ([0, 1], [(0, []), (0, [(2, 1)])])), (32, ([0, 1], [(0, []), (0, [(2, 1)])]))]))], [])))
def t22 : List qCt := []
def mt22 : yMt := ([], ([], ([], [])))
theorem rc22 : yRc cq22 13365 2 = true := by decide +kernel
set_option maxRecDepth 100000 in
def u22 : qCu := []
set_option maxRecDepth 100000 in
theorem z22 : zchk gAll t22 ruI2 ruJ2 rqL b22 u22 cq22 300 [] = true := sorry
theorem yr22 : yRun gAll t22 b22 cq22 := yRun_z gAll_tag ruI2_RtI ruJ2_RtJ rqL_ok z22
theorem zw22 : zwid cq22.2.1.1 cq22.1 0 3 = true := by decide +kernel
set_option maxRecDepth 100000 in
theorem yw22 : yRows gAll LAll yt4 mt22 gHo 3 3 (zby cX3_isMark) p22 b22 p22 = true := by decide +kernel
set_option maxRecDepth 100000 in
theorem m22 (l : Launch) : kMet gAll LAll vwCl rFo rZs rRs rNs rTs l yX3_isMark cX3_isMark 3 (some .boolean) 0 0 cq22 := kmet_y2 (rt := 3) (by decide +kernel) yr22 zw22 rfl yw22 LAll_ok LAll_la yt4_ok gHo_ok rfl (fun G n Qf => yA_n) rfl (fun G n Rr => yA_n) rfl
/-! 23 Line.isRegister (I)Z -/
set_option maxRecDepth 100000 in
def b23 : qCd := [([(3, 0, 2, 0), (25, 26731, 26747, 0), (3, 1, 0, 0), (38, 0, 0, 0), (28, 49, 0, 0), (0, 1, 0, 0)], (1, 1, 4, 1, [])),
  ([(3, 0, 2, 0), (25, 26731, 26749, 0), (3, 1, 0, 0), (38, 0, 0, 0), (28, 50, 0, 0), (1, 0, 0, 0), (23, 0, 0, 0)], (2, 2, 4, 2, [])),
  ([(3, 0, 2, 0), (25, 26731, 26749, 0), (3, 1, 0, 0), (38, 0, 0, 0), (28, 50, 0, 0), (1, 48, 0, 0), (23, 0, 0, 0)], (2, 3, 4, 3, [])),
  ([(0, 1, 0, 0)], (0, 0, 5, 0, [])),
  ([(0, 0, 0, 0)], (0, 0, 5, 0, [])),
  ([(34, 39, 0, 0), (34, 438, 0, 0), (35, 49, 0, 0), (35, 50, 0, 0), (38, 0, 0, 0)], (5, 0, 0, 0, [(0, 0), (1, 0)]))]
def p23 : List Nat := [0, 10, 21, 34, 38, 39]
set_option maxRecDepth 100000 in
def cq23 : qCt := (2, (([(0, (2, ((26731, []), (0, [])))), (1, (0, ((0, [(0, 1)]), (0, []))))], [], ([(39, (0, [(1, 1)])), (438, (0, [(2, 1)]))], [(49, 0), (50, 1)]), (3, [(0, (1, 2147483647)), (1, (0, 1024)), (2, (0, 1))], [(0, [(0, (-1)), (1, 1)])], 2, [(0, 49), (1, 50)], [], [], [(29, ([0], [(0, [(1, 1)]), (1, [(1, 1)]), (0, [])])), (2, ([0], [(0, [(1, 1)]), (1, [(1, 1)]), (0, [])])), (31, ([0, 1], [(0, []), (0, [(1, 1)])])), (32, ([0, 1], [(0, []), (0, [(1, 1)])]))])), ([([], [(0, ((0, [(3, 1)]), (0, [])))], ([], []), (4, [(3, (0, 0)), (1, (0, 1026)), (2, (0, 1))], [], 2, [], [], [], [(29, ([0], [(0, [(1, 1)]), (1, [(1, 1)]), (0, [])])), (2, ([0], [(0, [(1, 1)]), (1, [(1, 1)]), (0, [])])), (31, ([0, 1], [(0, []), (0, [(1, 1)])])), (32, ([0, 1], [(0, []), (0, [(1, 1)])]))])),
   ([], [(0, ((0, [(3, 1)]), (0, [])))], ([], []), (4, [(3, (1, 1)), (1, (0, 1026)), (2, (0, 1))], [((-1), [(0, (-1)), (1, 1)])], 2, [], [], [], [(29, ([0], [(0, [(1, 1)]), (1, [(1, 1)]), (0, [])])), (2, ([0], [(0, [(1, 1)]), (1, [(1, 1)]), (0, [])])), (31, ([0, 1], [(0, []), (0, [(1, 1)])])), (32, ([0, 1], [(0, []), (0, [(1, 1)])])), (2, ([1], [(0, [(0, 1)]), (1, [(0, 1)]), (0, [])])), (3, ([1], [(0, [(0, 1)]), (1, [(0, 1)]), (47, [])]))]))], [])))
def t23 : List qCt := []
def mt23 : yMt := ([], ([], ([], [])))
theorem rc23 : yRc cq23 13365 1 = true := by decide +kernel
set_option maxRecDepth 100000 in
def u23 : qCu := []
set_option maxRecDepth 100000 in
theorem z23 : zchk gAll t23 ruI2 ruJ2 rqL b23 u23 cq23 300 [] = true := sorry
theorem yr23 : yRun gAll t23 b23 cq23 := yRun_z gAll_tag ruI2_RtI ruJ2_RtJ rqL_ok z23
theorem zw23 : zwid cq23.2.1.1 cq23.1 0 2 = true := by decide +kernel
set_option maxRecDepth 100000 in
theorem yw23 : yRows gAll LAll yt4 mt23 gHo 2 3 (zby cX3_isRegister) p23 b23 p23 = true := by decide +kernel
set_option maxRecDepth 100000 in
theorem m23 (l : Launch) : kMet gAll LAll vwCl rFo rZs rRs rNs rTs l yX3_isRegister cX3_isRegister 2 (some .boolean) 0 0 cq23 := kmet_y2 (rt := 3) (by decide +kernel) yr23 zw23 rfl yw23 LAll_ok LAll_la yt4_ok gHo_ok rfl (fun G n Qf => yA_n) rfl (fun G n Rr => yA_n) rfl
/-! 24 Assembler.address ()Z -/
set_option maxRecDepth 100000 in
def b24 : qCd := [([(3, 0, 2, 0), (25, 26729, 26731, 0), (7, 0, 0, 0), (24, 26731, 40, 0), (0, 1, 0, 0), (38, 0, 0, 0), (14, 0, 0, 0), (36, 0, 0, 0), (38, 0, 0, 0), (26, 26731, 40, 0), (3, 0, 2, 0), (25, 26729, 26829, 0), (34, 101, 0, 0), (34, 102, 0, 0), (34, 104, 0, 0), (34, 103, 0, 0), (38, 0, 0, 0), (33, 0, 0, 0), (3, 0, 2, 0), (25, 26729, 26815, 0), (34, 438, 0, 0), (38, 0, 0, 0), (33, 1, 0, 0), (3, 0, 2, 0), (25, 26729, 26731, 0), (3, 0, 2, 0), (25, 26729, 26731, 0), (24, 26731, 40, 0), (0, 51, 0, 0), (34, 39, 0, 0), (34, 438, 0, 0), (35, 49, 0, 0), (35, 50, 0, 0), (38, 0, 0, 0), (33, 2, 0, 0)], (2, 0, 2, 1, [])),
  ([(3, 0, 2, 0), (25, 26729, 26731, 0), (7, 0, 0, 0), (24, 26731, 40, 0), (0, 1, 0, 0), (38, 0, 0, 0), (14, 0, 0, 0), (36, 0, 0, 0), (38, 0, 0, 0), (26, 26731, 40, 0), (3, 0, 2, 0), (25, 26729, 26829, 0), (0, 16, 0, 0), (38, 0, 0, 0), (26, 26829, 101, 0), (3, 0, 2, 0), (25, 26729, 26815, 0), (0, 1, 0, 0), (0, 0, 0, 0), (0, 0, 0, 0), (34, 90, 0, 0), (34, 89, 0, 0), (34, 88, 0, 0), (34, 40, 0, 0), (34, 39, 0, 0), (34, 438, 0, 0), (34, 41, 0, 0), (34, 5, 0, 0), (34, 13, 0, 0), (34, 6, 0, 0), (35, 94, 0, 0), (35, 51, 0, 0), (35, 49, 0, 0), (35, 52, 0, 0), (35, 50, 0, 0), (35, 15, 0, 0), (38, 0, 0, 0), (33, 3, 0, 0), (34, 90, 0, 0), (34, 89, 0, 0), (34, 88, 0, 0), (34, 101, 0, 0), (34, 40, 0, 0), (34, 39, 0, 0), (34, 438, 0, 0), (34, 41, 0, 0), (34, 5, 0, 0), (34, 13, 0, 0), (34, 6, 0, 0), (35, 51, 0, 0), (35, 49, 0, 0), (35, 52, 0, 0), (35, 50, 0, 0), (35, 15, 0, 0), (38, 0, 0, 0)], (5, 0, 0, 0, [(0, 0), (1, 0)])),
  ([(0, 0, 0, 0), (4, 1, 0, 0), (0, 0, 0, 0), (4, 2, 0, 0), (0, 0, 0, 0), (4, 3, 0, 0), (34, 90, 0, 0), (34, 89, 0, 0), (34, 88, 0, 0), (34, 101, 0, 0), (34, 40, 0, 0), (34, 39, 0, 0), (34, 438, 0, 0), (34, 41, 0, 0), (34, 5, 0, 0), (34, 13, 0, 0), (34, 6, 0, 0), (35, 51, 0, 0), (35, 49, 0, 0), (35, 52, 0, 0), (35, 50, 0, 0), (35, 15, 0, 0), (40, 3, 0, 0), (38, 0, 0, 0)], (0, 0, 3, 0, [])),
  ([(3, 3, 0, 0), (36, 0, 0, 0), (0, 1024, 0, 0)], (1, 4, 27, 4, [])),
  ([(3, 0, 2, 0), (25, 26729, 26731, 0), (3, 0, 2, 0), (25, 26729, 26731, 0), (24, 26731, 40, 0), (34, 39, 0, 0), (34, 438, 0, 0), (35, 49, 0, 0), (35, 50, 0, 0), (38, 0, 0, 0), (33, 4, 0, 0)], (2, 0, 8, 5, [])),
  ([(3, 2, 0, 0), (0, 45, 0, 0)], (1, 0, 7, 6, [])),
  ([(3, 0, 2, 0), (34, 40, 0, 0), (34, 39, 0, 0), (34, 438, 0, 0), (35, 49, 0, 0), (35, 50, 0, 0), (38, 0, 0, 0), (33, 5, 0, 0)], (2, 1, 28, 7, [])),
  ([(0, 0, 0, 0), (34, 90, 0, 0), (34, 89, 0, 0), (34, 88, 0, 0), (34, 101, 0, 0), (34, 40, 0, 0), (34, 39, 0, 0), (34, 438, 0, 0), (34, 41, 0, 0), (34, 5, 0, 0), (34, 13, 0, 0), (34, 6, 0, 0), (35, 51, 0, 0), (35, 49, 0, 0), (35, 52, 0, 0), (35, 50, 0, 0), (35, 15, 0, 0), (38, 0, 0, 0)], (5, 0, 0, 0, [(0, 0), (1, 0)])),
  ([(3, 0, 2, 0), (25, 26729, 26815, 0), (0, 6, 0, 0), (3, 1, 0, 0)], (2, 1, 11, 9, [])),
  ([(3, 2, 0, 0), (0, 45, 0, 0)], (1, 1, 11, 10, [])),
  ([(0, 1, 0, 0)], (0, 0, 12, 0, [])),
  ([(0, 0, 0, 0)], (0, 0, 12, 0, [])),
  ([(3, 1, 0, 0)], (2, 0, 14, 13, [])),
  ([(0, 1, 0, 0)], (0, 0, 15, 0, [])),
  ([(0, 0, 0, 0)], (0, 0, 15, 0, [])),
  ([(34, 90, 0, 0), (34, 89, 0, 0), (34, 88, 0, 0), (34, 40, 0, 0), (34, 39, 0, 0), (34, 438, 0, 0), (34, 41, 0, 0), (34, 5, 0, 0), (34, 13, 0, 0), (34, 6, 0, 0), (35, 94, 0, 0), (35, 51, 0, 0), (35, 49, 0, 0), (35, 52, 0, 0), (35, 50, 0, 0), (35, 15, 0, 0), (38, 0, 0, 0), (33, 3, 0, 0)], (2, 1, 17, 16, [])),
  ([(0, 0, 0, 0), (34, 90, 0, 0), (34, 89, 0, 0), (34, 88, 0, 0), (34, 101, 0, 0), (34, 40, 0, 0), (34, 39, 0, 0), (34, 438, 0, 0), (34, 41, 0, 0), (34, 5, 0, 0), (34, 13, 0, 0), (34, 6, 0, 0), (35, 51, 0, 0), (35, 49, 0, 0), (35, 52, 0, 0), (35, 50, 0, 0), (35, 15, 0, 0), (38, 0, 0, 0)], (5, 0, 0, 0, [(0, 0), (1, 0)])),
  ([(3, 1, 0, 0)], (2, 0, 19, 18, [])),
  ([(3, 0, 2, 0), (25, 26729, 26815, 0), (3, 2, 0, 0), (34, 88, 0, 0), (34, 40, 0, 0), (34, 39, 0, 0), (34, 438, 0, 0), (34, 41, 0, 0), (38, 0, 0, 0), (33, 6, 0, 0)], (0, 0, 19, 0, [])),
  ([(0, 1, 0, 0), (4, 1, 0, 0), (34, 90, 0, 0), (34, 89, 0, 0), (34, 88, 0, 0), (34, 101, 0, 0), (34, 40, 0, 0), (34, 39, 0, 0), (34, 438, 0, 0), (34, 41, 0, 0), (34, 5, 0, 0), (34, 13, 0, 0), (34, 6, 0, 0), (35, 51, 0, 0), (35, 49, 0, 0), (35, 52, 0, 0), (35, 50, 0, 0), (35, 15, 0, 0), (40, 3, 0, 0), (38, 0, 0, 0)], (0, 0, 20, 0, [])),
  ([(3, 0, 2, 0), (25, 26729, 26731, 0), (25, 26731, 26747, 0), (3, 0, 2, 0), (25, 26729, 26731, 0), (24, 26731, 40, 0), (38, 0, 0, 0), (28, 49, 0, 0), (4, 2, 0, 0), (3, 2, 0, 0), (0, 43, 0, 0)], (1, 0, 26, 21, [])),
  ([(3, 2, 0, 0), (0, 45, 0, 0)], (1, 0, 26, 22, [])),
  ([(3, 2, 0, 0), (0, 93, 0, 0)], (1, 1, 24, 23, [])),
  ([(0, 1, 0, 0)], (0, 0, 25, 0, [])),
  ([(0, 0, 0, 0)], (0, 0, 25, 0, [])),
  ([(34, 90, 0, 0), (34, 89, 0, 0), (34, 88, 0, 0), (34, 101, 0, 0), (34, 40, 0, 0), (34, 39, 0, 0), (34, 438, 0, 0), (34, 41, 0, 0), (34, 5, 0, 0), (34, 13, 0, 0), (34, 6, 0, 0), (35, 51, 0, 0), (35, 49, 0, 0), (35, 52, 0, 0), (35, 50, 0, 0), (35, 15, 0, 0), (38, 0, 0, 0)], (5, 0, 0, 0, [(0, 0), (1, 0)])),
  ([(3, 0, 2, 0), (25, 26729, 26731, 0), (7, 0, 0, 0), (24, 26731, 40, 0), (0, 1, 0, 0), (38, 0, 0, 0), (14, 0, 0, 0), (36, 0, 0, 0), (38, 0, 0, 0), (26, 26731, 40, 0), (5, 3, 1, 0), (34, 90, 0, 0), (34, 89, 0, 0), (34, 88, 0, 0), (34, 101, 0, 0), (34, 40, 0, 0), (34, 39, 0, 0), (34, 438, 0, 0), (34, 41, 0, 0), (34, 5, 0, 0), (34, 13, 0, 0), (34, 6, 0, 0), (35, 51, 0, 0), (35, 49, 0, 0), (35, 52, 0, 0), (35, 50, 0, 0), (35, 15, 0, 0), (40, 3, 0, 0), (38, 0, 0, 0)], (0, 0, 3, 0, [])),
  ([(0, 0, 0, 0), (34, 90, 0, 0), (34, 89, 0, 0), (34, 88, 0, 0), (34, 101, 0, 0), (34, 40, 0, 0), (34, 39, 0, 0), (34, 438, 0, 0), (34, 41, 0, 0), (34, 5, 0, 0), (34, 13, 0, 0), (34, 6, 0, 0), (35, 51, 0, 0), (35, 49, 0, 0), (35, 52, 0, 0), (35, 50, 0, 0), (35, 15, 0, 0), (38, 0, 0, 0)], (5, 0, 0, 0, [(0, 0), (1, 0)])),
  ([(34, 90, 0, 0), (34, 89, 0, 0), (34, 88, 0, 0), (34, 101, 0, 0), (34, 40, 0, 0), (34, 39, 0, 0), (34, 438, 0, 0), (34, 41, 0, 0), (34, 5, 0, 0), (34, 13, 0, 0), (34, 6, 0, 0), (35, 51, 0, 0), (35, 49, 0, 0), (35, 52, 0, 0), (35, 50, 0, 0), (35, 15, 0, 0), (40, 3, 0, 0), (38, 0, 0, 0)], (0, 0, 20, 0, []))]
def p24 : List Nat := [0, 46, 79, 85, 92, 109, 115, 122, 124, 134, 140, 144, 145, 149, 153, 154, 160, 162, 166, 174, 176, 198, 204, 210, 214, 215, 216, 235, 176]
set_option maxRecDepth 100000 in
def cq24 : qCt := (1, (([(0, (2, ((26729, []), (0, []))))], [], ([(90, (0, [(0, 1)])), (89, (0, [(1, 1)])), (88, (0, [(2, 1)])), (101, (0, [(3, 1)])), (40, (0, [(4, 1)])), (39, (0, [(5, 1)])), (438, (0, [(6, 1)])), (41, (0, [(7, 1)])), (5, (0, [(8, 1)])), (13, (0, [(9, 1)])), (6, (0, [(10, 1)]))], [(51, 0), (49, 1), (52, 2), (50, 3), (15, 4)]), (11, [(0, (0, 63)), (1, (0, 126)), (2, (0, 1026)), (4, (1, 1025)), (7, (0, 10)), (8, (0, 31)), (9, (0, 1024)), (10, (0, 1024)), (3, ((-1), 16)), (5, (0, 1024)), (6, (0, 1))], [(0, [(6, (-1)), (7, 1)]), (0, [(6, 10), (7, (-1))]), ((-1), [(4, (-1)), (5, 1)])], 5, [(0, 51), (1, 49), (2, 52), (3, 50), (4, 15)], [], [], [(29, ([1], [(0, [(5, 1)]), (1, [(5, 1)]), (0, [])])), (2, ([1], [(0, [(5, 1)]), (1, [(5, 1)]), (0, [])])), (27, ([0, 2], [(0, []), (0, [(5, 1)])])), (2, ([0], [(0, []), (0, [(5, 1)]), (0, [])])), (3, ([2], [(0, []), (0, [(5, 1)]), (1024, [])])), (31, ([1, 3], [(0, []), (0, [(5, 1)])])), (32, ([1, 3], [(0, []), (0, [(5, 1)])])), (30, ([4], [(0, []), (0, [(9, 1)])]))])), ([([], [(0, ((0, [(11, 1)]), (0, [])))], ([(89, (0, [(12, 1)])), (88, (0, [(13, 1)])), (101, (0, [(14, 1)])), (40, (0, [(15, 1)])), (438, (0, [(16, 1)])), (41, (0, [(17, 1)])), (13, (0, [(18, 1)]))], [(15, 5)]), (19, [(11, (1, 1)), (12, (0, 126)), (13, (0, 1026)), (14, ((-1), 16)), (15, (2, 1026)), (17, (0, 10)), (18, (0, 1024)), (16, (0, 1)), (5, (0, 1026))], [((-1), [(4, (-1)), (15, 1)]), (0, [(9, (-1)), (18, 1)]), (0, [(5, 1), (15, (-1))]), (0, [(16, (-1)), (17, 1)]), (0, [(16, 10), (17, (-1))]), (0, [(6, (-1)), (16, 1)])], 6, [(5, 15)], [], [], [(29, ([1], [(0, [(5, 1)]), (1, [(5, 1)]), (0, [])])), (2, ([1], [(0, [(5, 1)]), (1, [(5, 1)]), (0, [])])), (27, ([0, 2], [(0, []), (0, [(5, 1)])])), (2, ([0], [(0, []), (0, [(5, 1)]), (0, [])])), (3, ([2], [(0, []), (0, [(5, 1)]), (1024, [])])), (31, ([1, 3], [(0, []), (0, [(5, 1)])])), (32, ([1, 3], [(0, []), (0, [(5, 1)])])), (30, ([5], [(0, []), (0, [(18, 1)])]))])),
   ([], [(0, ((0, [(11, 1)]), (0, [])))], ([(89, (0, [(12, 1)])), (88, (0, [(13, 1)])), (101, (0, [(14, 1)])), (40, (0, [(15, 1)])), (438, (0, [(16, 1)])), (41, (0, [(17, 1)])), (13, (0, [(18, 1)]))], [(15, 5)]), (19, [(11, (0, 0)), (12, (0, 126)), (13, (0, 1026)), (14, ((-1), 16)), (15, (2, 1027)), (17, (0, 10)), (18, (0, 1024)), (16, (0, 1)), (5, (0, 1026))], [(0, [(9, (-1)), (18, 1)])], 6, [(5, 15)], [], [], [(27, ([0, 2], [(0, []), (0, [(5, 1)])])), (2, ([0], [(0, []), (0, [(5, 1)]), (0, [])])), (3, ([2], [(0, []), (0, [(5, 1)]), (1024, [])])), (31, ([1, 3], [(0, []), (0, [(5, 1)])])), (32, ([1, 3], [(0, []), (0, [(5, 1)])])), (30, ([5], [(0, []), (0, [(18, 1)])]))]))], [13, 14, 15, 16, 17, 18, 19, 40, 41, 88, 89, 91, 92, 93, 94, 95, 101, 102, 103, 104, 438])))
def t24 : List qCt := [cq21, cq11, cq22, cq20, cq23, cq2, cq10]
theorem hdV_X2_beginAddress : yX2_beginAddress.cls = RX2 ∧ yX2_beginAddress.cls ≠ "java/lang/invoke/MethodHandle" ∧ yX2_beginAddress.cls ≠ "java/lang/invoke/VarHandle" ∧ (parseMethodDescriptor yX2_beginAddress.desc).map (fun d => d.parameters.length) = some 0 := by decide +kernel
theorem st20 (l : Launch) {G : rGm} {cc : ByteArray} {nL n fr lo : Nat} {ret : Option FieldType} {Qf : kQf} (hf : 1 ≤ fr) (hlo : 20 ≤ lo) : ySite gAll LAll vwCl rFo rZs rRs rNs rTs G l cc nL RX0 ret fr lo n Qf 182 413 cq21 := ys_V 0 13414 4 rc21 lo_13414 kc4 (m21 l) kGood kw1145 kw1146 kw1147 kw142 kw1515 hdV_X2_beginAddress hf hlo
theorem hdV_X1_beZero : yX1_beZero.cls = RX1 ∧ yX1_beZero.cls ≠ "java/lang/invoke/MethodHandle" ∧ yX1_beZero.cls ≠ "java/lang/invoke/VarHandle" ∧ (parseMethodDescriptor yX1_beZero.desc).map (fun d => d.parameters.length) = some 0 := by decide +kernel
theorem st21 (l : Launch) {G : rGm} {cc : ByteArray} {nL n fr lo : Nat} {ret : Option FieldType} {Qf : kQf} (hf : 1 ≤ fr) (hlo : 20 ≤ lo) : ySite gAll LAll vwCl rFo rZs rRs rNs rTs G l cc nL RX0 ret fr lo n Qf 182 416 cq11 := ys_V 0 13407 3 rc11 lo_13407 kc3 (m11 l) kGood kw1148 kw1149 kw1150 kw181 kw1463 hdV_X1_beZero hf hlo
theorem hdV_X3_isMark : yX3_isMark.cls = RX3 ∧ yX3_isMark.cls ≠ "java/lang/invoke/MethodHandle" ∧ yX3_isMark.cls ≠ "java/lang/invoke/VarHandle" ∧ (parseMethodDescriptor yX3_isMark.desc).map (fun d => d.parameters.length) = some 2 := by decide +kernel
theorem st22 (l : Launch) {G : rGm} {cc : ByteArray} {nL n fr lo : Nat} {ret : Option FieldType} {Qf : kQf} (hf : 1 ≤ fr) (hlo : 22 ≤ lo) : ySite gAll LAll vwCl rFo rZs rRs rNs rTs G l cc nL RX0 ret fr lo n Qf 182 200 cq22 := ys_V 2 13365 5 rc22 lo_13365 kc5 (m22 l) kGood kw1151 kw1152 kw1153 kw90 kw1628 hdV_X3_isMark hf hlo
theorem hdV_X1_read : yX1_read.cls = RX1 ∧ yX1_read.cls ≠ "java/lang/invoke/MethodHandle" ∧ yX1_read.cls ≠ "java/lang/invoke/VarHandle" ∧ (parseMethodDescriptor yX1_read.desc).map (fun d => d.parameters.length) = some 3 := by decide +kernel
theorem st23 (l : Launch) {G : rGm} {cc : ByteArray} {nL n fr lo : Nat} {ret : Option FieldType} {Qf : kQf} (hf : 4 ≤ fr) (hlo : 105 ≤ lo) : ySite gAll LAll vwCl rFo rZs rRs rNs rTs G l cc nL RX0 ret fr lo n Qf 182 286 cq20 := ys_V 3 13407 3 rc20 lo_13407 kc3 (m20 l) kGood kw1155 kw1156 kw1157 kw181 kw1495 hdV_X1_read hf hlo
theorem hdV_X3_isRegister : yX3_isRegister.cls = RX3 ∧ yX3_isRegister.cls ≠ "java/lang/invoke/MethodHandle" ∧ yX3_isRegister.cls ≠ "java/lang/invoke/VarHandle" ∧ (parseMethodDescriptor yX3_isRegister.desc).map (fun d => d.parameters.length) = some 1 := by decide +kernel
theorem st24 (l : Launch) {G : rGm} {cc : ByteArray} {nL n fr lo : Nat} {ret : Option FieldType} {Qf : kQf} (hf : 1 ≤ fr) (hlo : 21 ≤ lo) : ySite gAll LAll vwCl rFo rZs rRs rNs rTs G l cc nL RX0 ret fr lo n Qf 182 388 cq23 := ys_V 1 13365 5 rc23 lo_13365 kc5 (m23 l) kGood kw1158 kw1159 kw1160 kw90 kw1629 hdV_X3_isRegister hf hlo
theorem hdV_X0_registerTerm : yX0_registerTerm.cls = RX0 ∧ yX0_registerTerm.cls ≠ "java/lang/invoke/MethodHandle" ∧ yX0_registerTerm.cls ≠ "java/lang/invoke/VarHandle" ∧ (parseMethodDescriptor yX0_registerTerm.desc).map (fun d => d.parameters.length) = some 0 := by decide +kernel
theorem st25 (l : Launch) {G : rGm} {cc : ByteArray} {nL n fr lo : Nat} {ret : Option FieldType} {Qf : kQf} (hf : 3 ≤ fr) (hlo : 66 ≤ lo) : ySite gAll LAll vwCl rFo rZs rRs rNs rTs G l cc nL RX0 ret fr lo n Qf 182 422 cq2 := ys_V 0 13364 2 rc2 lo_13364 kc2 (m2 l) kGood kw1161 kw1162 kw1163 kw249 kw1380 hdV_X0_registerTerm hf hlo
theorem st26 (l : Launch) {G : rGm} {cc : ByteArray} {nL n fr lo : Nat} {ret : Option FieldType} {Qf : kQf} (hf : 3 ≤ fr) (hlo : 66 ≤ lo) : ySite gAll LAll vwCl rFo rZs rRs rNs rTs G l cc nL RX0 ret fr lo n Qf 182 425 cq10 := ys_V 1 13407 3 rc10 lo_13407 kc3 (m10 l) kGood kw1164 kw1165 kw1166 kw181 kw1438 hdV_X1_apply hf hlo
def mt24 : yMt := ([(182, (413, 0)), (182, (416, 1)), (182, (200, 2)), (182, (286, 3)), (182, (388, 4)), (182, (422, 5)), (182, (425, 6))], ([], ([], [])))
theorem rc24 : yRc cq24 13364 0 = true := by decide +kernel
set_option maxRecDepth 100000 in
def u24_0 : Nat × (qS × (qL × (qL × qL))) := (3, (([(0, (2, ((26729, []), (0, [])))), (1, (0, ((0, [(11, 1)]), (0, [])))), (2, (0, ((0, [(12, 1)]), (0, [])))), (3, (0, ((0, [(13, 1)]), (0, []))))], [], ([(90, (0, [(0, 1)])), (89, (0, [(14, 1)])), (88, (0, [(15, 1)])), (101, (0, [(16, 1)])), (40, (0, [(17, 1)])), (39, (0, [(5, 1)])), (438, (0, [(18, 1)])), (41, (0, [(19, 1)])), (5, (0, [(8, 1)])), (13, (0, [(20, 1)])), (6, (0, [(10, 1)]))], [(51, 0), (49, 1), (52, 2), (50, 3), (15, 5)]), (21, [(0, (0, 63)), (1, (0, 126)), (2, (0, 1026)), (4, (0, 1027)), (7, (0, 10)), (8, (0, 31)), (9, (0, 1024)), (10, (0, 1024)), (3, ((-1), 16)), (5, (0, 1024)), (6, (0, 1)), (11, (0, 1)), (12, (0, 49)), (13, (0, 1024)), (14, (0, 126)), (15, (0, 1026)), (16, ((-1), 16)), (17, (2, 1026)), (19, (0, 10)), (20, (0, 1024)), (18, (0, 1))], [((-1), [(4, (-1)), (17, 1)]), (0, [(9, (-1)), (20, 1)]), (45, [(11, 1), (12, (-1))]), ((-2), [(13, (-1)), (17, 1)]), (0, [(5, 1), (17, (-1))]), (0, [(18, (-1)), (19, 1)]), (0, [(18, 10), (19, (-1))]), (0, [(6, (-1)), (18, 1)])], 6, [(5, 15)], [], [], [(29, ([1], [(0, [(5, 1)]), (1, [(5, 1)]), (0, [])])), (2, ([1], [(0, [(5, 1)]), (1, [(5, 1)]), (0, [])])), (27, ([0, 2], [(0, []), (0, [(5, 1)])])), (2, ([0], [(0, []), (0, [(5, 1)]), (0, [])])), (3, ([2], [(0, []), (0, [(5, 1)]), (1024, [])])), (31, ([1, 3], [(0, []), (0, [(5, 1)])])), (32, ([1, 3], [(0, []), (0, [(5, 1)])])), (30, ([5], [(0, []), (0, [(20, 1)])]))])), ((0, []), ((65665, [(17, (-64))]), (0, [])))))
set_option maxRecDepth 100000 in
def u24_1 : Nat × (qS × (qL × (qL × qL))) := (20, (([(0, (2, ((26729, []), (0, [])))), (1, (0, ((0, [(11, 1)]), (0, [])))), (3, (0, ((0, [(12, 1)]), (0, []))))], [], ([(90, (0, [(0, 1)])), (89, (0, [(13, 1)])), (88, (0, [(14, 1)])), (101, (0, [(15, 1)])), (40, (0, [(16, 1)])), (39, (0, [(5, 1)])), (438, (0, [(17, 1)])), (41, (0, [(18, 1)])), (5, (0, [(8, 1)])), (13, (0, [(19, 1)])), (6, (0, [(10, 1)]))], [(51, 0), (49, 1), (52, 2), (50, 3), (15, 5)]), (20, [(0, (0, 63)), (1, (0, 126)), (2, (0, 1026)), (4, (0, 1027)), (7, (0, 10)), (8, (0, 31)), (9, (0, 1024)), (10, (0, 1024)), (3, ((-1), 16)), (5, (0, 1024)), (6, (0, 1)), (11, (0, 1)), (12, (0, 1023)), (13, (0, 126)), (14, (0, 1026)), (15, ((-1), 16)), (16, (2, 1026)), (18, (0, 10)), (19, (0, 1024)), (17, (0, 1))], [((-1), [(4, (-1)), (16, 1)]), (0, [(9, (-1)), (19, 1)]), ((-2), [(12, (-1)), (16, 1)]), (0, [(5, 1), (16, (-1))]), (0, [(17, (-1)), (18, 1)]), (0, [(17, 10), (18, (-1))]), (0, [(6, (-1)), (17, 1)])], 6, [(5, 15)], [], [], [(29, ([1], [(0, [(5, 1)]), (1, [(5, 1)]), (0, [])])), (2, ([1], [(0, [(5, 1)]), (1, [(5, 1)]), (0, [])])), (27, ([0, 2], [(0, []), (0, [(5, 1)])])), (2, ([0], [(0, []), (0, [(5, 1)]), (0, [])])), (3, ([2], [(0, []), (0, [(5, 1)]), (1024, [])])), (31, ([1, 3], [(0, []), (0, [(5, 1)])])), (32, ([1, 3], [(0, []), (0, [(5, 1)])])), (30, ([5], [(0, []), (0, [(19, 1)])]))])), ((0, []), ((65664, [(16, (-64))]), (0, [])))))
def u24 : qCu := [u24_0, u24_1]
set_option maxRecDepth 100000 in
theorem z24_s : zsm (zblk gAll cq24.2.2.2 t24 ruI2 ruJ2 rqL b24 cq24 (zrun gAll cq24.2.2.2 t24 ruI2 ruJ2 rqL b24 u24 cq24 none 300) 0 cq24.2.1 []) = true := sorry
set_option maxRecDepth 100000 in
theorem z24_0 : zsm (zfrom gAll cq24.2.2.2 t24 ruI2 ruJ2 rqL b24 u24 cq24 300 u24_0 []) = true := sorry
set_option maxRecDepth 100000 in
theorem z24_1 : zsm (zfrom gAll cq24.2.2.2 t24 ruI2 ruJ2 rqL b24 u24 cq24 300 u24_1 []) = true := sorry
theorem yr24 : yRun gAll t24 b24 cq24 := yRun_p (cuts := u24) (fuel := 300) gAll_tag ruI2_RtI ruJ2_RtJ rqL_ok ⟨zsm_e _ z24_s, List.forall_mem_cons.mpr ⟨zsm_e _ z24_0, List.forall_mem_cons.mpr ⟨zsm_e _ z24_1, yA_n⟩⟩⟩
theorem zw24 : zwid cq24.2.1.1 cq24.1 0 4 = true := by decide +kernel
set_option maxRecDepth 100000 in
theorem yw24 : yRows gAll LAll yt1 mt24 gHo 4 3 (zby cX0_address) p24 b24 p24 = true := by decide +kernel
set_option maxRecDepth 100000 in
theorem m24 (l : Launch) : kMet gAll LAll vwCl rFo rZs rRs rNs rTs l yX0_address cX0_address 4 (some .boolean) 4 105 cq24 := kmet_y2 (rt := 3) (by decide +kernel) yr24 zw24 rfl yw24 LAll_ok LAll_la yt1_ok gHo_ok rfl (fun G n Qf => List.forall_mem_cons.mpr ⟨⟨cq21, rfl, st20 l (by decide) (by decide)⟩, List.forall_mem_cons.mpr ⟨⟨cq11, rfl, st21 l (by decide) (by decide)⟩, List.forall_mem_cons.mpr ⟨⟨cq22, rfl, st22 l (by decide) (by decide)⟩, List.forall_mem_cons.mpr ⟨⟨cq20, rfl, st23 l (by decide) (by decide)⟩, List.forall_mem_cons.mpr ⟨⟨cq23, rfl, st24 l (by decide) (by decide)⟩, List.forall_mem_cons.mpr ⟨⟨cq2, rfl, st25 l (by decide) (by decide)⟩, List.forall_mem_cons.mpr ⟨⟨cq10, rfl, st26 l (by decide) (by decide)⟩, yA_n⟩⟩⟩⟩⟩⟩⟩) rfl (fun G n Rr => yA_n) rfl
/-! 25 Assembler.blameIf (ZI)V -/
set_option maxRecDepth 100000 in
def b25 : qCd := [([(3, 1, 0, 0)], (2, 0, 2, 1, [])),
  ([(3, 0, 2, 0), (25, 26729, 26731, 0), (3, 2, 0, 0), (34, 438, 0, 0), (34, 41, 0, 0), (38, 0, 0, 0), (33, 0, 0, 0)], (0, 0, 2, 0, [])),
  ([(34, 438, 0, 0), (34, 41, 0, 0), (38, 0, 0, 0)], (4, 0, 0, 0, []))]
def p25 : List Nat := [0, 4, 12]
set_option maxRecDepth 100000 in
def cq25 : qCt := (3, (([(0, (2, ((26729, []), (0, [])))), (1, (0, ((0, [(0, 1)]), (0, [])))), (2, (0, ((0, [(1, 1)]), (0, []))))], [], ([(438, (0, [(2, 1)])), (41, (0, [(3, 1)]))], []), (4, [(0, (0, 1)), (1, (4, 10)), (3, (0, 10)), (2, (0, 1))], [(0, [(2, (-1)), (3, 1)]), (0, [(2, 10), (3, (-1))])], 0, [], [], [], [])), ([([], [], ([(438, (0, [(4, 1)])), (41, (0, [(5, 1)]))], []), (6, [(5, (0, 10)), (4, (0, 1)), (0, ((-9223372036854775808), 0))], [(0, [(4, (-1)), (5, 1)]), (0, [(4, 10), (5, (-1))]), (0, [(0, (-1))]), (0, [(3, (-1)), (5, 1)]), (0, [(3, 1), (5, (-1))]), (0, [(2, (-1)), (4, 1)]), (0, [(2, 1), (4, (-1))])], 0, [], [], [], [])),
   ([], [], ([(438, (0, [(4, 1)])), (41, (0, [(5, 1)]))], []), (6, [(5, (1, 10)), (4, (1, 1)), (0, (1, 9223372036854775807))], [((-1), [(0, 1)]), (0, [(1, 1), (5, (-1))])], 0, [], [], [], []))], [41, 438])))
def t25 : List qCt := [cq9]
theorem st27 (l : Launch) {G : rGm} {cc : ByteArray} {nL n fr lo : Nat} {ret : Option FieldType} {Qf : kQf} (hf : 2 ≤ fr) (hlo : 42 ≤ lo) : ySite gAll LAll vwCl rFo rZs rRs rNs rTs G l cc nL RX0 ret fr lo n Qf 182 88 cq9 := ys_V 1 13365 5 rc9 lo_13365 kc5 (m9 l) kGood kw1172 kw1173 kw1174 kw90 kw1591 hdV_X3_blame hf hlo
def mt25 : yMt := ([(182, (88, 0))], ([], ([], [])))
theorem rc25 : yRc cq25 13364 2 = true := by decide +kernel
set_option maxRecDepth 100000 in
def u25 : qCu := []
set_option maxRecDepth 100000 in
theorem z25 : zchk gAll t25 ruI2 ruJ2 rqL b25 u25 cq25 300 [] = true := sorry
theorem yr25 : yRun gAll t25 b25 cq25 := yRun_z gAll_tag ruI2_RtI ruJ2_RtJ rqL_ok z25
theorem zw25 : zwid cq25.2.1.1 cq25.1 0 3 = true := by decide +kernel
set_option maxRecDepth 100000 in
theorem yw25 : yRows gAll LAll yt1 mt25 gHo 3 0 (zby cX0_blameIf) p25 b25 p25 = true := by decide +kernel
set_option maxRecDepth 100000 in
theorem m25 (l : Launch) : kMet gAll LAll vwCl rFo rZs rRs rNs rTs l yX0_blameIf cX0_blameIf 3 none 2 42 cq25 := kmet_y2 (rt := 0) (by decide +kernel) yr25 zw25 rfl yw25 LAll_ok LAll_la yt1_ok gHo_ok rfl (fun G n Qf => List.forall_mem_cons.mpr ⟨⟨cq9, rfl, st27 l (by decide) (by decide)⟩, yA_n⟩) rfl (fun G n Rr => yA_n) rfl
/-! 26 Expression.known ()I -/
set_option maxRecDepth 100000 in
def b26 : qCd := [([(3, 0, 2, 0), (25, 26815, 5, 0), (25, 5, 7, 0), (3, 0, 2, 0), (25, 26815, 26825, 0), (0, 0, 0, 0), (3, 0, 2, 0), (24, 26815, 89, 0), (3, 0, 2, 0), (25, 26815, 5, 0), (25, 5, 7, 0), (24, 7, 13, 0), (34, 13, 0, 0), (35, 15, 0, 0), (38, 0, 0, 0), (33, 0, 0, 0), (4, 1, 0, 0), (3, 1, 0, 0), (3, 0, 2, 0), (25, 26815, 5, 0), (24, 5, 6, 0)], (1, 3, 2, 1, [])),
  ([(0, (-1), 0, 0)], (0, 0, 3, 0, [])),
  ([(3, 1, 0, 0)], (0, 0, 3, 0, [])),
  ([(34, 89, 0, 0), (34, 438, 0, 0), (34, 13, 0, 0), (34, 6, 0, 0), (35, 15, 0, 0), (38, 0, 0, 0)], (5, 0, 0, 0, [((-2147483648), 0), (2147483647, 0)]))]
def p26 : List Nat := [0, 41, 45, 46]
set_option maxRecDepth 100000 in
def cq26 : qCt := (1, (([(0, (2, ((26815, []), (0, []))))], [], ([(89, (0, [(0, 1)])), (438, (0, [(1, 1)])), (13, (0, [(2, 1)])), (6, (0, [(3, 1)]))], [(15, 0)]), (4, [(0, (0, 126)), (2, (0, 1024)), (3, (0, 1024)), (1, (0, 1))], [], 1, [(0, 15)], [], [], [(30, ([0], [(0, []), (0, [(2, 1)])]))])), ([([], [(0, ((0, [(4, 1)]), (0, [])))], ([], []), (5, [(4, ((-1), (-1))), (1, (0, 1))], [], 1, [], [], [], [(30, ([0], [(0, []), (0, [(2, 1)])]))])),
   ([], [(0, ((0, [(4, 1)]), (0, [])))], ([], []), (5, [(4, (0, 1023)), (1, (0, 1))], [((-1), [(2, 1), (4, (-1))])], 1, [], [], [], [(30, ([0], [(0, []), (0, [(2, 1)])]))]))], [])))
def t26 : List qCt := [cq15]
def mt26 : yMt := ([(182, (85, 0))], ([], ([], [])))
theorem rc26 : yRc cq26 13407 0 = true := by decide +kernel
set_option maxRecDepth 100000 in
def u26 : qCu := []
set_option maxRecDepth 100000 in
theorem z26 : zchk gAll t26 ruI2 ruJ2 rqL b26 u26 cq26 300 [] = true := sorry
theorem yr26 : yRun gAll t26 b26 cq26 := yRun_z gAll_tag ruI2_RtI ruJ2_RtJ rqL_ok z26
theorem zw26 : zwid cq26.2.1.1 cq26.1 0 2 = true := by decide +kernel
set_option maxRecDepth 100000 in
theorem yw26 : yRows gAll LAll yt2 mt26 gHo 2 1 (zby cX1_known) p26 b26 p26 = true := by decide +kernel
set_option maxRecDepth 100000 in
theorem m26 (l : Launch) : kMet gAll LAll vwCl rFo rZs rRs rNs rTs l yX1_known cX1_known 2 (some .int) 1 28 cq26 := kmet_y2 (rt := 1) (by decide +kernel) yr26 zw26 rfl yw26 LAll_ok LAll_la yt2_ok gHo_ok rfl (fun G n Qf => List.forall_mem_cons.mpr ⟨⟨cq15, rfl, st14 l (by decide) (by decide)⟩, yA_n⟩) rfl (fun G n Rr => yA_n) rfl
/-! 27 Assembler.isDefined (I)Z -/
set_option maxRecDepth 100000 in
def b27 : qCd := [([(3, 0, 2, 0), (25, 26729, 26815, 0), (34, 89, 0, 0), (34, 438, 0, 0), (34, 13, 0, 0), (34, 6, 0, 0), (35, 15, 0, 0), (38, 0, 0, 0), (33, 0, 0, 0), (4, 2, 0, 0), (3, 2, 0, 0), (0, (-1), 0, 0)], (1, 0, 3, 1, [])),
  ([(3, 0, 2, 0), (25, 26729, 5, 0), (25, 5, 19, 0), (3, 2, 0, 0), (38, 0, 0, 0), (27, 19, 19, 0), (0, 1, 0, 0), (38, 0, 0, 0), (28, 19, 0, 0), (3, 1, 0, 0), (38, 0, 0, 0), (18, 0, 0, 0)], (2, 0, 3, 2, [])),
  ([(0, 1, 0, 0)], (0, 0, 4, 0, [])),
  ([(0, 0, 0, 0)], (0, 0, 4, 0, [])),
  ([(34, 89, 0, 0), (34, 438, 0, 0), (34, 13, 0, 0), (34, 6, 0, 0), (35, 15, 0, 0), (38, 0, 0, 0)], (5, 0, 0, 0, [(0, 0), (1, 0)]))]
def p27 : List Nat := [0, 13, 29, 33, 34]
set_option maxRecDepth 100000 in
def cq27 : qCt := (2, (([(0, (2, ((26729, []), (0, [])))), (1, (0, ((0, [(0, 1)]), (0, []))))], [], ([(89, (0, [(1, 1)])), (438, (0, [(2, 1)])), (13, (0, [(3, 1)])), (6, (0, [(4, 1)]))], [(15, 0)]), (5, [(0, (2, 3)), (1, (0, 126)), (3, (0, 1024)), (4, (0, 1024)), (2, (0, 1))], [], 1, [(0, 15)], [], [], [(30, ([0], [(0, []), (0, [(3, 1)])]))])), ([([], [(0, ((0, [(5, 1)]), (0, [])))], ([], []), (6, [(5, (0, 0)), (2, (0, 1))], [((-2), [(0, 1), (5, (-1))])], 1, [], [], [], [(30, ([0], [(0, []), (0, [(3, 1)])]))])),
   ([], [(0, ((0, [(5, 1)]), (0, [])))], ([], []), (6, [(5, (1, 1)), (2, (0, 1))], [], 1, [], [], [], [(30, ([0], [(0, []), (0, [(3, 1)])]))]))], [])))
def t27 : List qCt := [cq26]
theorem hdV_X1_known : yX1_known.cls = RX1 ∧ yX1_known.cls ≠ "java/lang/invoke/MethodHandle" ∧ yX1_known.cls ≠ "java/lang/invoke/VarHandle" ∧ (parseMethodDescriptor yX1_known.desc).map (fun d => d.parameters.length) = some 0 := by decide +kernel
theorem st28 (l : Launch) {G : rGm} {cc : ByteArray} {nL n fr lo : Nat} {ret : Option FieldType} {Qf : kQf} (hf : 2 ≤ fr) (hlo : 49 ≤ lo) : ySite gAll LAll vwCl rFo rZs rRs rNs rTs G l cc nL RX0 ret fr lo n Qf 182 190 cq26 := ys_V 0 13407 3 rc26 lo_13407 kc3 (m26 l) kGood kw1220 kw1221 kw1222 kw181 kw1471 hdV_X1_known hf hlo
def mt27 : yMt := ([(182, (190, 0))], ([], ([], [])))
theorem rc27 : yRc cq27 13364 1 = true := by decide +kernel
set_option maxRecDepth 100000 in
def u27 : qCu := []
set_option maxRecDepth 100000 in
theorem z27 : zchk gAll t27 ruI2 ruJ2 rqL b27 u27 cq27 300 [] = true := sorry
theorem yr27 : yRun gAll t27 b27 cq27 := yRun_z gAll_tag ruI2_RtI ruJ2_RtJ rqL_ok z27
theorem zw27 : zwid cq27.2.1.1 cq27.1 0 3 = true := by decide +kernel
set_option maxRecDepth 100000 in
theorem yw27 : yRows gAll LAll yt1 mt27 gHo 3 3 (zby cX0_isDefined) p27 b27 p27 = true := by decide +kernel
set_option maxRecDepth 100000 in
theorem m27 (l : Launch) : kMet gAll LAll vwCl rFo rZs rRs rNs rTs l yX0_isDefined cX0_isDefined 3 (some .boolean) 2 49 cq27 := kmet_y2 (rt := 3) (by decide +kernel) yr27 zw27 rfl yw27 LAll_ok LAll_la yt1_ok gHo_ok rfl (fun G n Qf => List.forall_mem_cons.mpr ⟨⟨cq26, rfl, st28 l (by decide) (by decide)⟩, yA_n⟩) rfl (fun G n Rr => yA_n) rfl
/-! 28 Names.find/name@x.assembler.reader.source.macros ([BIII)I -/
set_option maxRecDepth 100000 in
def b28 : qCd := [([(0, 0, 0, 0), (4, 5, 0, 0), (3, 2, 0, 0), (4, 6, 0, 0), (34, 59, 0, 0), (34, 65, 0, 0), (35, 71, 0, 0), (35, 72, 0, 0), (35, 73, 0, 0), (35, 67, 0, 0), (40, 6, 0, 0), (38, 0, 0, 0)], (0, 0, 1, 0, [])),
  ([(3, 6, 0, 0), (36, 0, 0, 0), (3, 2, 0, 0), (3, 3, 0, 0), (38, 0, 0, 0), (14, 0, 0, 0), (36, 0, 0, 0)], (1, 3, 3, 2, [])),
  ([(0, 31, 0, 0), (3, 5, 0, 0), (16, 0, 0, 0), (36, 0, 0, 0), (3, 1, 2, 0), (3, 6, 0, 0), (36, 0, 0, 0), (38, 0, 0, 0), (28, 95, 0, 0), (38, 0, 0, 0), (14, 0, 0, 0), (36, 0, 0, 0), (4, 5, 0, 0), (5, 6, 1, 0), (34, 59, 0, 0), (34, 65, 0, 0), (35, 71, 0, 0), (35, 72, 0, 0), (35, 73, 0, 0), (35, 67, 0, 0), (40, 6, 0, 0), (38, 0, 0, 0)], (0, 0, 1, 0, [])),
  ([(3, 0, 2, 0), (25, 26769, 26779, 0), (3, 5, 0, 0), (0, 1023, 0, 0), (38, 0, 0, 0), (18, 0, 0, 0), (38, 0, 0, 0), (28, 70, 0, 0), (4, 6, 0, 0), (0, 0, 0, 0), (4, 7, 0, 0), (34, 59, 0, 0), (34, 65, 0, 0), (35, 71, 0, 0), (35, 72, 0, 0), (35, 73, 0, 0), (35, 67, 0, 0), (40, 6, 0, 0), (40, 7, 0, 0), (38, 0, 0, 0)], (0, 0, 4, 0, [])),
  ([(3, 7, 0, 0), (36, 0, 0, 0), (3, 0, 2, 0), (24, 26769, 65, 0)], (1, 3, 15, 5, [])),
  ([(3, 6, 0, 0), (36, 0, 0, 0), (0, (-1), 0, 0)], (1, 0, 15, 6, [])),
  ([(3, 6, 0, 0), (36, 0, 0, 0), (3, 4, 0, 0)], (1, 3, 14, 7, [])),
  ([(3, 0, 2, 0), (25, 26769, 26773, 0), (3, 6, 0, 0), (36, 0, 0, 0), (0, 1, 0, 0), (38, 0, 0, 0), (14, 0, 0, 0), (36, 0, 0, 0), (38, 0, 0, 0), (28, 67, 0, 0), (3, 0, 2, 0), (25, 26769, 26773, 0), (3, 6, 0, 0), (36, 0, 0, 0), (38, 0, 0, 0), (28, 67, 0, 0), (38, 0, 0, 0), (15, 0, 0, 0), (36, 0, 0, 0), (3, 3, 0, 0)], (1, 1, 14, 8, [])),
  ([(0, 0, 0, 0), (4, 8, 0, 0), (34, 59, 0, 0), (34, 65, 0, 0), (35, 71, 0, 0), (35, 72, 0, 0), (35, 73, 0, 0), (35, 67, 0, 0), (40, 6, 0, 0), (40, 7, 0, 0), (40, 8, 0, 0), (38, 0, 0, 0)], (0, 0, 9, 0, [])),
  ([(3, 8, 0, 0), (36, 0, 0, 0), (3, 3, 0, 0)], (1, 3, 12, 10, [])),
  ([(3, 0, 2, 0), (25, 26769, 26771, 0), (3, 0, 2, 0), (25, 26769, 26773, 0), (3, 6, 0, 0), (36, 0, 0, 0), (38, 0, 0, 0), (28, 67, 0, 0), (3, 8, 0, 0), (36, 0, 0, 0), (38, 0, 0, 0), (14, 0, 0, 0), (36, 0, 0, 0), (38, 0, 0, 0), (28, 66, 0, 0), (3, 1, 2, 0), (3, 2, 0, 0), (3, 8, 0, 0), (36, 0, 0, 0), (38, 0, 0, 0), (14, 0, 0, 0), (36, 0, 0, 0), (38, 0, 0, 0), (28, 95, 0, 0)], (1, 1, 12, 11, [])),
  ([(5, 8, 1, 0), (34, 59, 0, 0), (34, 65, 0, 0), (35, 71, 0, 0), (35, 72, 0, 0), (35, 73, 0, 0), (35, 67, 0, 0), (40, 6, 0, 0), (40, 7, 0, 0), (40, 8, 0, 0), (38, 0, 0, 0)], (0, 0, 9, 0, [])),
  ([(3, 8, 0, 0), (36, 0, 0, 0), (3, 3, 0, 0)], (1, 1, 14, 13, [])),
  ([(3, 6, 0, 0), (36, 0, 0, 0), (34, 59, 0, 0), (34, 65, 0, 0), (35, 71, 0, 0), (35, 72, 0, 0), (35, 73, 0, 0), (35, 67, 0, 0), (38, 0, 0, 0)], (5, 0, 0, 0, [((-2147483648), 0), (2147483647, 0)])),
  ([(3, 0, 2, 0), (25, 26769, 26775, 0), (3, 6, 0, 0), (36, 0, 0, 0), (38, 0, 0, 0), (28, 68, 0, 0), (4, 6, 0, 0), (5, 7, 1, 0), (34, 59, 0, 0), (34, 65, 0, 0), (35, 71, 0, 0), (35, 72, 0, 0), (35, 73, 0, 0), (35, 67, 0, 0), (40, 6, 0, 0), (40, 7, 0, 0), (38, 0, 0, 0)], (0, 0, 4, 0, [])),
  ([(0, (-1), 0, 0), (34, 59, 0, 0), (34, 65, 0, 0), (35, 71, 0, 0), (35, 72, 0, 0), (35, 73, 0, 0), (35, 67, 0, 0), (38, 0, 0, 0)], (5, 0, 0, 0, [((-2147483648), 0), (2147483647, 0)]))]
def p28 : List Nat := [0, 6, 14, 32, 48, 57, 63, 70, 91, 94, 100, 124, 130, 136, 139, 154]
set_option maxRecDepth 100000 in
def cq28 : qCt := (5, (([(0, (2, ((26769, []), (0, [])))), (1, (2, ((26825, []), (0, [])))), (2, (0, ((0, [(0, 1)]), (0, [])))), (3, (0, ((0, [(1, 1)]), (0, [])))), (4, (0, ((0, [(2, 1)]), (0, []))))], [], ([(59, (0, [(3, 1)])), (65, (0, [(4, 1)]))], [(71, 0), (72, 1), (73, 2), (67, 3)]), (5, [(0, (0, 0)), (1, (0, 126)), (2, (0, 5500)), (4, (0, 5500)), (3, (0, 961))], [(0, [(2, 1), (4, (-1))])], 4, [(0, 71), (1, 72), (2, 73), (3, 67)], [], [], [(3, ([3], [(0, []), (1, [(4, 1)]), (65536, [])])), (2, ([3], [(0, []), (1, [(4, 1)]), (0, [])])), (30, ([2], [(0, []), (0, [(4, 1)])])), (3, ([2], [(0, []), (1, [(4, 1)]), (32768, [])])), (2, ([2], [(0, []), (1, [(4, 1)]), (0, [])])), (3, ([0], [(0, []), (0, [(4, 1)]), (0, [(3, 1)])])), (3, ([1], [(0, []), (0, [(4, 1)]), (0, [(3, 1)])]))])), ([([], [(0, ((0, [(5, 1)]), (0, [])))], ([], []), (6, [(5, ((-1), (-1))), (3, (0, 961))], [], 4, [], [], [], [(3, ([3], [(0, []), (1, [(4, 1)]), (65536, [])])), (2, ([3], [(0, []), (1, [(4, 1)]), (0, [])])), (30, ([2], [(0, []), (0, [(4, 1)])])), (3, ([2], [(0, []), (1, [(4, 1)]), (32768, [])])), (2, ([2], [(0, []), (1, [(4, 1)]), (0, [])])), (3, ([0], [(0, []), (0, [(4, 1)]), (0, [(3, 1)])])), (3, ([1], [(0, []), (0, [(4, 1)]), (0, [(3, 1)])]))])),
   ([], [(0, ((0, [(5, 1)]), (0, [])))], ([], []), (6, [(5, (0, 5499)), (3, (0, 961))], [], 4, [], [], [], [(3, ([3], [(0, []), (1, [(4, 1)]), (65536, [])])), (2, ([3], [(0, []), (1, [(4, 1)]), (0, [])])), (30, ([2], [(0, []), (0, [(4, 1)])])), (3, ([2], [(0, []), (1, [(4, 1)]), (32768, [])])), (2, ([2], [(0, []), (1, [(4, 1)]), (0, [])])), (3, ([0], [(0, []), (0, [(4, 1)]), (0, [(3, 1)])])), (3, ([1], [(0, []), (0, [(4, 1)]), (0, [(3, 1)])]))]))], [])))
def t28 : List qCt := []
def mt28 : yMt := ([], ([], ([], [])))
theorem rc28 : yRc cq28 13384 4 = true := by decide +kernel
set_option maxRecDepth 100000 in
def u28_0 : Nat × (qS × (qL × (qL × qL))) := (1, (([(0, (2, ((26769, []), (0, [])))), (1, (2, ((26825, []), (0, [])))), (2, (0, ((0, [(0, 1)]), (0, [])))), (3, (0, ((0, [(1, 1)]), (0, [])))), (4, (0, ((0, [(2, 1)]), (0, [])))), (5, (0, ((0, [(5, 1)]), (0, [])))), (6, (0, ((0, [(6, 1)]), (0, []))))], [], ([(59, (0, [(3, 1)])), (65, (0, [(4, 1)]))], [(71, 0), (72, 1), (73, 2), (67, 3)]), (7, [(0, (0, 0)), (1, (0, 126)), (2, (0, 5500)), (4, (0, 5500)), (3, (0, 961)), (5, ((-2147483648), 2147483647)), (6, (0, 126))], [(0, [(2, 1), (4, (-1))])], 4, [], [], [], [(3, ([3], [(0, []), (1, [(4, 1)]), (65536, [])])), (2, ([3], [(0, []), (1, [(4, 1)]), (0, [])])), (30, ([2], [(0, []), (0, [(4, 1)])])), (3, ([2], [(0, []), (1, [(4, 1)]), (32768, [])])), (2, ([2], [(0, []), (1, [(4, 1)]), (0, [])])), (3, ([0], [(0, []), (0, [(4, 1)]), (0, [(3, 1)])])), (3, ([1], [(0, []), (0, [(4, 1)]), (0, [(3, 1)])]))])), ((1, []), ((8064, [(0, 64), (1, 64), (6, (-64))]), (0, [])))))
set_option maxRecDepth 100000 in
def u28_1 : Nat × (qS × (qL × (qL × qL))) := (4, (([(0, (2, ((26769, []), (0, [])))), (1, (2, ((26825, []), (0, [])))), (2, (0, ((0, [(0, 1)]), (0, [])))), (3, (0, ((0, [(1, 1)]), (0, [])))), (4, (0, ((0, [(2, 1)]), (0, [])))), (6, (0, ((0, [(5, 1)]), (0, [])))), (7, (0, ((0, [(6, 1)]), (0, []))))], [], ([(59, (0, [(3, 1)])), (65, (0, [(4, 1)]))], [(71, 0), (72, 1), (73, 2), (67, 3)]), (7, [(0, (0, 0)), (1, (0, 126)), (2, (0, 5500)), (4, (0, 5500)), (3, (0, 961)), (5, ((-1), 5499)), (6, (0, 5500))], [(0, [(2, 1), (4, (-1))]), (0, [(4, 1), (6, (-1))])], 4, [], [], [], [(3, ([3], [(0, []), (1, [(4, 1)]), (65536, [])])), (2, ([3], [(0, []), (1, [(4, 1)]), (0, [])])), (30, ([2], [(0, []), (0, [(4, 1)])])), (3, ([2], [(0, []), (1, [(4, 1)]), (32768, [])])), (2, ([2], [(0, []), (1, [(4, 1)]), (0, [])])), (3, ([0], [(0, []), (0, [(4, 1)]), (0, [(3, 1)])])), (3, ([1], [(0, []), (0, [(4, 1)]), (0, [(3, 1)])]))])), ((0, []), ((352001, [(4, 64), (6, (-64))]), (0, [])))))
set_option maxRecDepth 100000 in
def u28_2 : Nat × (qS × (qL × (qL × qL))) := (9, (([(0, (2, ((26769, []), (0, [])))), (1, (2, ((26825, []), (0, [])))), (2, (0, ((0, [(0, 1)]), (0, [])))), (3, (0, ((0, [(1, 1)]), (0, [])))), (4, (0, ((0, [(2, 1)]), (0, [])))), (6, (0, ((0, [(5, 1)]), (0, [])))), (7, (0, ((0, [(6, 1)]), (0, [])))), (8, (0, ((0, [(7, 1)]), (0, []))))], [], ([(59, (0, [(3, 1)])), (65, (0, [(4, 1)]))], [(71, 0), (72, 1), (73, 2), (67, 3)]), (8, [(0, (0, 0)), (1, (0, 126)), (2, (1, 5500)), (4, (1, 5500)), (3, (0, 961)), (5, (0, 5499)), (6, (0, 5499)), (7, (0, 126))], [(0, [(2, 1), (4, (-1))]), (0, [(1, 1), (7, (-1))]), ((-1), [(4, 1), (6, (-1))])], 4, [], [], [], [(3, ([3], [(0, []), (1, [(4, 1)]), (65536, [])])), (2, ([3], [(0, []), (1, [(4, 1)]), (0, [])])), (30, ([2], [(0, []), (0, [(4, 1)])])), (3, ([2], [(0, []), (1, [(4, 1)]), (32768, [])])), (2, ([2], [(0, []), (1, [(4, 1)]), (0, [])])), (3, ([0], [(0, []), (0, [(4, 1)]), (0, [(3, 1)])])), (3, ([1], [(0, []), (0, [(4, 1)]), (0, [(3, 1)])])), (3, ([3], [(0, [(5, 1)]), (1, [(5, 1)]), (65536, [(1, (-1))])]))])), ((0, []), ((352000, [(4, 64), (6, (-64))]), (8064, [(1, 64), (7, (-64))])))))
def u28 : qCu := [u28_0, u28_1, u28_2]
set_option maxRecDepth 100000 in
theorem z28_s : zsm (zblk gAll cq28.2.2.2 t28 ruI2 ruJ2 rqL b28 cq28 (zrun gAll cq28.2.2.2 t28 ruI2 ruJ2 rqL b28 u28 cq28 none 300) 0 cq28.2.1 [0, 0, 1, 0, 1, 0, 1, 2, 3, 4, 5, 6]) = true := sorry
set_option maxRecDepth 100000 in
theorem z28_0 : zsm (zfrom gAll cq28.2.2.2 t28 ruI2 ruJ2 rqL b28 u28 cq28 300 u28_0 []) = true := sorry
set_option maxRecDepth 100000 in
theorem z28_1 : zsm (zfrom gAll cq28.2.2.2 t28 ruI2 ruJ2 rqL b28 u28 cq28 300 u28_1 []) = true := sorry
set_option maxRecDepth 100000 in
theorem z28_2 : zsm (zfrom gAll cq28.2.2.2 t28 ruI2 ruJ2 rqL b28 u28 cq28 300 u28_2 []) = true := sorry
theorem yr28 : yRun gAll t28 b28 cq28 := yRun_p (cuts := u28) (fuel := 300) gAll_tag ruI2_RtI ruJ2_RtJ rqL_ok ⟨zsm_e _ z28_s, List.forall_mem_cons.mpr ⟨zsm_e _ z28_0, List.forall_mem_cons.mpr ⟨zsm_e _ z28_1, List.forall_mem_cons.mpr ⟨zsm_e _ z28_2, yA_n⟩⟩⟩⟩
theorem zw28 : zwid cq28.2.1.1 cq28.1 0 9 = true := by decide +kernel
set_option maxRecDepth 100000 in
theorem yw28 : yRows gAll LAll yt8 mt28 gHo 9 1 (zby cX7_find) p28 b28 p28 = true := by decide +kernel
set_option maxRecDepth 100000 in
theorem m28 (l : Launch) : kMet gAll LAll vwCl rFo rZs rRs rNs rTs l yX7_find cX7_find 9 (some .int) 0 0 cq28 := kmet_y2 (rt := 1) (by decide +kernel) yr28 zw28 rfl yw28 LAll_ok LAll_la yt8_ok gHo_ok rfl (fun G n Qf => yA_n) rfl (fun G n Rr => yA_n) rfl
/-! 29 Assembler.isMacro ()Z -/
set_option maxRecDepth 100000 in
def b29 : qCd := [([(3, 0, 2, 0), (25, 26729, 26755, 0), (25, 26755, 26757, 0), (25, 26757, 26769, 0), (4, 1, 2, 0), (3, 1, 2, 0), (3, 0, 2, 0), (25, 26729, 26815, 0), (25, 26815, 26825, 0), (0, 0, 0, 0), (3, 0, 2, 0), (25, 26729, 26815, 0), (24, 26815, 89, 0), (3, 1, 2, 0), (24, 26769, 65, 0), (34, 59, 0, 0), (34, 65, 0, 0), (35, 71, 0, 0), (35, 72, 0, 0), (35, 73, 0, 0), (35, 67, 0, 0), (38, 0, 0, 0), (33, 0, 0, 0), (0, (-1), 0, 0)], (1, 0, 2, 1, [])),
  ([(0, 1, 0, 0)], (0, 0, 3, 0, [])),
  ([(0, 0, 0, 0)], (0, 0, 3, 0, [])),
  ([(34, 89, 0, 0), (34, 438, 0, 0), (34, 59, 0, 0), (34, 65, 0, 0), (35, 71, 0, 0), (35, 72, 0, 0), (35, 73, 0, 0), (35, 67, 0, 0), (38, 0, 0, 0)], (5, 0, 0, 0, [(0, 0), (1, 0)]))]
def p29 : List Nat := [0, 38, 42, 43]
set_option maxRecDepth 100000 in
def cq29 : qCt := (1, (([(0, (2, ((26729, []), (0, []))))], [], ([(89, (0, [(0, 1)])), (438, (0, [(1, 1)])), (59, (0, [(2, 1)])), (65, (0, [(3, 1)]))], [(71, 0), (72, 1), (73, 2), (67, 3)]), (4, [(0, (0, 126)), (3, (0, 5500)), (1, (0, 1)), (2, (0, 961))], [], 4, [(0, 71), (1, 72), (2, 73), (3, 67)], [], [], [(3, ([3], [(0, []), (1, [(3, 1)]), (65536, [])])), (2, ([3], [(0, []), (1, [(3, 1)]), (0, [])])), (30, ([2], [(0, []), (0, [(3, 1)])])), (3, ([2], [(0, []), (1, [(3, 1)]), (32768, [])])), (2, ([2], [(0, []), (1, [(3, 1)]), (0, [])])), (3, ([0], [(0, []), (0, [(3, 1)]), (0, [(2, 1)])])), (3, ([1], [(0, []), (0, [(3, 1)]), (0, [(2, 1)])]))])), ([([], [(0, ((0, [(4, 1)]), (0, [])))], ([], []), (5, [(4, (0, 0)), (2, (0, 961)), (1, (0, 1))], [], 4, [], [], [], [(3, ([3], [(0, []), (1, [(3, 1)]), (65536, [])])), (2, ([3], [(0, []), (1, [(3, 1)]), (0, [])])), (30, ([2], [(0, []), (0, [(3, 1)])])), (3, ([2], [(0, []), (1, [(3, 1)]), (32768, [])])), (2, ([2], [(0, []), (1, [(3, 1)]), (0, [])])), (3, ([0], [(0, []), (0, [(3, 1)]), (0, [(2, 1)])])), (3, ([1], [(0, []), (0, [(3, 1)]), (0, [(2, 1)])]))])),
   ([], [(0, ((0, [(4, 1)]), (0, [])))], ([], []), (5, [(4, (1, 1)), (2, (0, 961)), (1, (0, 1))], [], 4, [], [], [], [(3, ([3], [(0, []), (1, [(3, 1)]), (65536, [])])), (2, ([3], [(0, []), (1, [(3, 1)]), (0, [])])), (30, ([2], [(0, []), (0, [(3, 1)])])), (3, ([2], [(0, []), (1, [(3, 1)]), (32768, [])])), (2, ([2], [(0, []), (1, [(3, 1)]), (0, [])])), (3, ([0], [(0, []), (0, [(3, 1)]), (0, [(2, 1)])])), (3, ([1], [(0, []), (0, [(3, 1)]), (0, [(2, 1)])]))]))], [])))
def t29 : List qCt := [cq28]
theorem st29 (l : Launch) {G : rGm} {cc : ByteArray} {nL n fr lo : Nat} {ret : Option FieldType} {Qf : kQf} (hf : 1 ≤ fr) (hlo : 28 ≤ lo) : ySite gAll LAll vwCl rFo rZs rRs rNs rTs G l cc nL RX0 ret fr lo n Qf 182 223 cq28 := ys_V 4 13384 9 rc28 lo_13384 kc9 (m28 l) kGood kw1342 kw734 kw735 kw18 kw732 hdV_X7_find hf hlo
def mt29 : yMt := ([(182, (223, 0))], ([], ([], [])))
theorem rc29 : yRc cq29 13364 0 = true := by decide +kernel
set_option maxRecDepth 100000 in
def u29 : qCu := []
set_option maxRecDepth 100000 in
theorem z29 : zchk gAll t29 ruI2 ruJ2 rqL b29 u29 cq29 300 [] = true := sorry
theorem yr29 : yRun gAll t29 b29 cq29 := yRun_z gAll_tag ruI2_RtI ruJ2_RtJ rqL_ok z29
theorem zw29 : zwid cq29.2.1.1 cq29.1 0 2 = true := by decide +kernel
set_option maxRecDepth 100000 in
theorem yw29 : yRows gAll LAll yt1 mt29 gHo 2 3 (zby cX0_isMacro) p29 b29 p29 = true := by decide +kernel
set_option maxRecDepth 100000 in
theorem m29 (l : Launch) : kMet gAll LAll vwCl rFo rZs rRs rNs rTs l yX0_isMacro cX0_isMacro 2 (some .boolean) 1 28 cq29 := kmet_y2 (rt := 3) (by decide +kernel) yr29 zw29 rfl yw29 LAll_ok LAll_la yt1_ok gHo_ok rfl (fun G n Qf => List.forall_mem_cons.mpr ⟨⟨cq28, rfl, st29 l (by decide) (by decide)⟩, yA_n⟩) rfl (fun G n Rr => yA_n) rfl
/-! 30 Expression.beLatest (I)V -/
set_option maxRecDepth 100000 in
def b30 : qCd := [([(3, 0, 2, 0), (25, 26815, 26731, 0), (25, 26731, 26733, 0), (3, 0, 2, 0), (25, 26815, 26731, 0), (25, 26731, 26751, 0), (3, 1, 0, 0), (38, 0, 0, 0), (28, 51, 0, 0), (38, 0, 0, 0), (28, 42, 0, 0), (0, 46, 0, 0)], (1, 0, 2, 1, [])),
  ([(3, 0, 2, 0), (3, 0, 2, 0), (25, 26815, 26731, 0), (25, 26731, 26753, 0), (3, 1, 0, 0), (38, 0, 0, 0), (28, 52, 0, 0), (3, 0, 2, 0), (25, 26815, 26731, 0), (25, 26731, 26751, 0), (3, 1, 0, 0), (38, 0, 0, 0), (28, 51, 0, 0), (38, 0, 0, 0), (15, 0, 0, 0), (36, 0, 0, 0), (0, 63, 0, 0), (38, 0, 0, 0), (33, 0, 0, 0), (38, 0, 0, 0), (26, 26815, 90, 0), (3, 0, 2, 0), (25, 26815, 26731, 0), (25, 26731, 26733, 0), (3, 0, 2, 0), (25, 26815, 26731, 0), (25, 26731, 26751, 0), (3, 1, 0, 0), (38, 0, 0, 0), (28, 51, 0, 0), (3, 0, 2, 0), (25, 26815, 26827, 0), (0, 0, 0, 0), (3, 0, 2, 0), (24, 26815, 90, 0), (38, 0, 0, 0), (33, 1, 0, 0)], (0, 0, 2, 0, [])),
  ([(34, 90, 0, 0), (34, 39, 0, 0), (34, 438, 0, 0), (35, 51, 0, 0), (35, 52, 0, 0), (38, 0, 0, 0)], (4, 0, 0, 0, []))]
def p30 : List Nat := [0, 22, 78]
set_option maxRecDepth 100000 in
def cq30 : qCt := (2, (([(0, (2, ((26815, []), (0, [])))), (1, (0, ((0, [(0, 1)]), (0, []))))], [], ([(90, (0, [(1, 1)])), (39, (0, [(2, 1)])), (438, (0, [(3, 1)]))], [(51, 0), (52, 1)]), (4, [(0, (0, 1024)), (1, (0, 63)), (2, (0, 1026)), (3, (0, 1))], [((-1), [(0, (-1)), (2, 1)])], 2, [(0, 51), (1, 52)], [], [], [(27, ([0, 1], [(0, []), (0, [(2, 1)])])), (2, ([0], [(0, []), (0, [(2, 1)]), (0, [])])), (3, ([1], [(0, []), (0, [(2, 1)]), (1024, [])]))])), ([([], [], ([(90, (0, [(4, 1)]))], []), (5, [(4, (0, 63)), (2, (0, 1026)), (3, (0, 1))], [], 2, [], [], [], [(27, ([0, 1], [(0, []), (0, [(2, 1)])])), (2, ([0], [(0, []), (0, [(2, 1)]), (0, [])])), (3, ([1], [(0, []), (0, [(2, 1)]), (1024, [])]))]))], [90, 96])))
def cA3 : qCt := (5, (([(0, (2, ((26733, [(3, 2)]), (0, [])))), (1, (0, ((0, [(0, 1)]), (0, [])))), (2, (2, ((26827, [(4, 2)]), (0, [])))), (3, (0, ((0, [(1, 1)]), (0, [])))), (4, (0, ((0, [(2, 1)]), (0, []))))], [], ([], []), (5, [(0, (0, 1024)), (1, (0, 64)), (2, (0, 64)), (3, (0, 0)), (4, (0, 0))], [(1024, [(0, (-1)), (2, (-1))]), (64, [(1, (-1)), (2, (-1))])], 0, [], [], [], [])), ([([], [], ([], []), (5, [], [], 0, [], [], [], []))], [96])))
theorem cA3_e : cA3 = cpC 26733 1 1024 (2 * ((13413 : Nat) : Int) + 1) 1 64 96 := by rfl
theorem sA3 {own : String} {ix : Nat} (l : Launch) {G : rGm} {cc : ByteArray} {nL n fr lo : Nat} {ret : Option FieldType} {Qf : kQf} (w1 : Cond.methodLink own ix arraycopyName ∈ rTs) (hf : 1 ≤ fr) (hlo : 26 ≤ lo) : ySite gAll LAll vwCl rFo rZs rRs rNs rTs G l cc nL own ret fr lo n Qf 184 ix cA3 := by
  rw [cA3_e]
  exact ys_A (t := 2) (c1 := ((-128), 127)) (c2 := ((-128), 127)) LAll_ok (Or.inl ⟨13366, _, List.mem_of_getElem? (i := 16) rfl, rfl⟩) rfl (List.mem_of_getElem? (i := 58) rfl) rfl (by decide) (fun z h1 h2 => y_fb ⟨Int.le_trans (by decide) h1, Int.le_trans h2 (by decide)⟩) w1 kw62 kw63 kw64 hf (Nat.le_trans (by decide +kernel) hlo)
def t30 : List qCt := [cq8, cA3]
def mt30 : yMt := ([(184, (52, 0)), (184, (65, 1))], ([], ([], [])))
theorem rc30 : yRc cq30 13407 1 = true := by decide +kernel
set_option maxRecDepth 100000 in
def u30 : qCu := []
set_option maxRecDepth 100000 in
theorem z30 : zchk gAll t30 ruI2 ruJ2 rqL b30 u30 cq30 300 [] = true := sorry
theorem yr30 : yRun gAll t30 b30 cq30 := yRun_z gAll_tag ruI2_RtI ruJ2_RtJ rqL_ok z30
theorem zw30 : zwid cq30.2.1.1 cq30.1 0 2 = true := by decide +kernel
set_option maxRecDepth 100000 in
theorem yw30 : yRows gAll LAll yt2 mt30 gHo 2 0 (zby cX1_beLatest) p30 b30 p30 = true := by decide +kernel
set_option maxRecDepth 100000 in
theorem m30 (l : Launch) : kMet gAll LAll vwCl rFo rZs rRs rNs rTs l yX1_beLatest cX1_beLatest 2 none 1 26 cq30 := kmet_y2 (rt := 0) (by decide +kernel) yr30 zw30 rfl yw30 LAll_ok LAll_la yt2_ok gHo_ok rfl (fun G n Qf => List.forall_mem_cons.mpr ⟨⟨cq8, rfl, st10 l (by decide) (by decide)⟩, List.forall_mem_cons.mpr ⟨⟨cA3, rfl, sA3 l kw1462 (by decide) (by decide)⟩, yA_n⟩⟩) rfl (fun G n Rr => yA_n) rfl
/-! 31 Expression.made ()I -/
set_option maxRecDepth 100000 in
def b31 : qCd := [([(3, 0, 2, 0), (34, 89, 0, 0), (34, 438, 0, 0), (34, 13, 0, 0), (34, 6, 0, 0), (35, 15, 0, 0), (38, 0, 0, 0), (33, 0, 0, 0), (4, 1, 0, 0), (3, 1, 0, 0), (0, (-1), 0, 0)], (1, 0, 2, 1, [])),
  ([(3, 1, 0, 0), (34, 89, 0, 0), (34, 438, 0, 0), (34, 41, 0, 0), (34, 5, 0, 0), (34, 13, 0, 0), (34, 6, 0, 0), (35, 15, 0, 0), (38, 0, 0, 0)], (5, 0, 0, 0, [((-2147483648), 0), (2147483647, 0)])),
  ([(3, 0, 2, 0), (25, 26815, 5, 0), (25, 5, 7, 0), (3, 0, 2, 0), (25, 26815, 26825, 0), (0, 0, 0, 0), (3, 0, 2, 0), (24, 26815, 89, 0), (34, 13, 0, 0), (35, 15, 0, 0), (38, 0, 0, 0), (33, 1, 0, 0), (4, 1, 0, 0), (3, 1, 0, 0), (0, (-1), 0, 0)], (1, 1, 4, 3, [])),
  ([(3, 0, 2, 0), (25, 26815, 26731, 0), (0, 10, 0, 0), (34, 438, 0, 0), (34, 41, 0, 0), (38, 0, 0, 0), (33, 2, 0, 0)], (0, 0, 5, 0, [])),
  ([(3, 0, 2, 0), (25, 26815, 5, 0), (3, 1, 0, 0), (34, 5, 0, 0), (38, 0, 0, 0), (33, 3, 0, 0)], (0, 0, 5, 0, [])),
  ([(3, 1, 0, 0), (34, 89, 0, 0), (34, 438, 0, 0), (34, 41, 0, 0), (34, 5, 0, 0), (34, 13, 0, 0), (34, 6, 0, 0), (35, 15, 0, 0), (38, 0, 0, 0)], (5, 0, 0, 0, [((-2147483648), 0), (2147483647, 0)]))]
def p31 : List Nat := [0, 10, 12, 37, 49, 57]
set_option maxRecDepth 100000 in
def cq31 : qCt := (1, (([(0, (2, ((26815, []), (0, []))))], [], ([(89, (0, [(0, 1)])), (438, (0, [(1, 1)])), (41, (0, [(2, 1)])), (5, (0, [(3, 1)])), (13, (0, [(4, 1)])), (6, (0, [(5, 1)]))], [(15, 0)]), (6, [(0, (0, 126)), (2, (0, 10)), (3, (0, 31)), (4, (0, 1024)), (5, (0, 1024)), (1, (0, 1))], [(0, [(1, (-1)), (2, 1)]), (0, [(1, 10), (2, (-1))])], 1, [(0, 15)], [], [], [(30, ([0], [(0, []), (0, [(4, 1)])]))])), ([([], [(0, ((0, [(6, 1)]), (0, [])))], ([(438, (0, [(7, 1)])), (41, (0, [(8, 1)])), (13, (0, [(9, 1)]))], [(15, 1)]), (10, [(6, ((-1), (-1))), (8, (1, 10)), (9, (0, 1024)), (7, (0, 1))], [(0, [(4, (-1)), (9, 1)]), (0, [(7, 10), (8, (-1))]), (0, [(1, (-1)), (7, 1)])], 2, [(1, 15)], [], [], [(30, ([1], [(0, []), (0, [(9, 1)])]))])),
   ([], [(0, ((0, [(6, 1)]), (0, [])))], ([(438, (0, [(7, 1)])), (41, (0, [(8, 1)])), (13, (0, [(9, 1)]))], [(15, 1)]), (10, [(6, (0, 1023)), (8, (0, 10)), (9, (1, 1024)), (7, (0, 1))], [(0, [(4, (-1)), (9, 1)]), (0, [(7, (-1)), (8, 1)]), (0, [(7, 10), (8, (-1))]), (0, [(1, (-1)), (7, 1)])], 2, [(1, 15)], [], [], [(30, ([1], [(0, []), (0, [(9, 1)])]))]))], [13, 14, 15, 16, 17, 18, 19, 41, 438])))
def t31 : List qCt := [cq26, cq14, cq9, cq17]
theorem st30 (l : Launch) {G : rGm} {cc : ByteArray} {nL n fr lo : Nat} {ret : Option FieldType} {Qf : kQf} (hf : 2 ≤ fr) (hlo : 49 ≤ lo) : ySite gAll LAll vwCl rFo rZs rRs rNs rTs G l cc nL RX1 ret fr lo n Qf 182 92 cq26 := ys_V 0 13407 3 rc26 lo_13407 kc3 (m26 l) kGood kw1478 kw1221 kw1222 kw181 kw1471 hdV_X1_known hf hlo
def mt31 : yMt := ([(182, (92, 0)), (182, (96, 1)), (182, (100, 2)), (182, (104, 3))], ([], ([], [])))
theorem rc31 : yRc cq31 13407 0 = true := by decide +kernel
set_option maxRecDepth 100000 in
def u31 : qCu := []
set_option maxRecDepth 100000 in
theorem z31 : zchk gAll t31 ruI2 ruJ2 rqL b31 u31 cq31 300 [] = true := sorry
theorem yr31 : yRun gAll t31 b31 cq31 := yRun_z gAll_tag ruI2_RtI ruJ2_RtJ rqL_ok z31
theorem zw31 : zwid cq31.2.1.1 cq31.1 0 2 = true := by decide +kernel
set_option maxRecDepth 100000 in
theorem yw31 : yRows gAll LAll yt2 mt31 gHo 2 1 (zby cX1_made) p31 b31 p31 = true := by decide +kernel
set_option maxRecDepth 100000 in
theorem m31 (l : Launch) : kMet gAll LAll vwCl rFo rZs rRs rNs rTs l yX1_made cX1_made 2 (some .int) 2 51 cq31 := kmet_y2 (rt := 1) (by decide +kernel) yr31 zw31 rfl yw31 LAll_ok LAll_la yt2_ok gHo_ok rfl (fun G n Qf => List.forall_mem_cons.mpr ⟨⟨cq26, rfl, st30 l (by decide) (by decide)⟩, List.forall_mem_cons.mpr ⟨⟨cq14, rfl, st15 l (by decide) (by decide)⟩, List.forall_mem_cons.mpr ⟨⟨cq9, rfl, st9 l (by decide) (by decide)⟩, List.forall_mem_cons.mpr ⟨⟨cq17, rfl, st16 l (by decide) (by decide)⟩, yA_n⟩⟩⟩⟩) rfl (fun G n Rr => yA_n) rfl
/-! 32 Line.isWord (I)Z -/
set_option maxRecDepth 100000 in
def b32 : qCd := [([(3, 0, 2, 0), (25, 26731, 26747, 0), (3, 1, 0, 0), (38, 0, 0, 0), (28, 49, 0, 0), (0, 1, 0, 0)], (1, 1, 4, 1, [])),
  ([(3, 0, 2, 0), (25, 26731, 26749, 0), (3, 1, 0, 0), (38, 0, 0, 0), (28, 50, 0, 0), (1, 0, 0, 0), (23, 0, 0, 0)], (2, 2, 4, 2, [])),
  ([(3, 0, 2, 0), (25, 26731, 26749, 0), (3, 1, 0, 0), (38, 0, 0, 0), (28, 50, 0, 0), (1, 185, 0, 0), (23, 0, 0, 0)], (2, 3, 4, 3, [])),
  ([(0, 1, 0, 0)], (0, 0, 5, 0, [])),
  ([(0, 0, 0, 0)], (0, 0, 5, 0, [])),
  ([(34, 39, 0, 0), (34, 438, 0, 0), (35, 49, 0, 0), (35, 50, 0, 0), (38, 0, 0, 0)], (5, 0, 0, 0, [(0, 0), (1, 0)]))]
def p32 : List Nat := [0, 10, 21, 34, 38, 39]
set_option maxRecDepth 100000 in
def cq32 : qCt := (2, (([(0, (2, ((26731, []), (0, [])))), (1, (0, ((0, [(0, 1)]), (0, []))))], [], ([(39, (0, [(1, 1)])), (438, (0, [(2, 1)]))], [(49, 0), (50, 1)]), (3, [(0, (0, 1025)), (1, (0, 1026)), (2, (0, 1))], [], 2, [(0, 49), (1, 50)], [], [], [(29, ([0], [(0, [(1, 1)]), (1, [(1, 1)]), (0, [])])), (2, ([0], [(0, [(1, 1)]), (1, [(1, 1)]), (0, [])])), (31, ([0, 1], [(0, []), (0, [(1, 1)])])), (32, ([0, 1], [(0, []), (0, [(1, 1)])]))])), ([([], [(0, ((0, [(3, 1)]), (0, [])))], ([], []), (4, [(3, (0, 0)), (1, (0, 1026)), (2, (0, 1))], [], 2, [], [], [], [(29, ([0], [(0, [(1, 1)]), (1, [(1, 1)]), (0, [])])), (2, ([0], [(0, [(1, 1)]), (1, [(1, 1)]), (0, [])])), (31, ([0, 1], [(0, []), (0, [(1, 1)])])), (32, ([0, 1], [(0, []), (0, [(1, 1)])]))])),
   ([], [(0, ((0, [(3, 1)]), (0, [])))], ([], []), (4, [(3, (1, 1)), (1, (0, 1026)), (2, (0, 1))], [], 2, [], [], [], [(29, ([0], [(0, [(1, 1)]), (1, [(1, 1)]), (0, [])])), (2, ([0], [(0, [(1, 1)]), (1, [(1, 1)]), (0, [])])), (31, ([0, 1], [(0, []), (0, [(1, 1)])])), (32, ([0, 1], [(0, []), (0, [(1, 1)])]))]))], [])))
def t32 : List qCt := []
def mt32 : yMt := ([], ([], ([], [])))
theorem rc32 : yRc cq32 13365 1 = true := by decide +kernel
set_option maxRecDepth 100000 in
def u32 : qCu := []
set_option maxRecDepth 100000 in
theorem z32 : zchk gAll t32 ruI2 ruJ2 rqL b32 u32 cq32 300 [] = true := sorry
theorem yr32 : yRun gAll t32 b32 cq32 := yRun_z gAll_tag ruI2_RtI ruJ2_RtJ rqL_ok z32
theorem zw32 : zwid cq32.2.1.1 cq32.1 0 2 = true := by decide +kernel
set_option maxRecDepth 100000 in
theorem yw32 : yRows gAll LAll yt4 mt32 gHo 2 3 (zby cX3_isWord) p32 b32 p32 = true := by decide +kernel
set_option maxRecDepth 100000 in
theorem m32 (l : Launch) : kMet gAll LAll vwCl rFo rZs rRs rNs rTs l yX3_isWord cX3_isWord 2 (some .boolean) 0 0 cq32 := kmet_y2 (rt := 3) (by decide +kernel) yr32 zw32 rfl yw32 LAll_ok LAll_la yt4_ok gHo_ok rfl (fun G n Qf => yA_n) rfl (fun G n Rr => yA_n) rfl
/-! 33 Units.beLabel (III)V -/
set_option maxRecDepth 100000 in
def b33 : qCd := [([(3, 0, 2, 0), (25, 5, 19, 0), (3, 1, 0, 0), (38, 0, 0, 0), (27, 19, 19, 0), (4, 4, 2, 0), (3, 4, 2, 0), (0, 1, 0, 0), (11, 0, 0, 0), (38, 0, 0, 0), (28, 19, 0, 0), (0, 1, 0, 0), (38, 0, 0, 0), (18, 1, 0, 0), (38, 0, 0, 0), (29, 19, 0, 0), (3, 4, 2, 0), (0, 2, 0, 0), (3, 2, 0, 0), (38, 0, 0, 0), (29, 19, 0, 0), (3, 4, 2, 0), (0, 3, 0, 0), (3, 0, 2, 0), (24, 5, 8, 0), (38, 0, 0, 0), (29, 19, 0, 0), (3, 4, 2, 0), (0, 5, 0, 0), (3, 3, 0, 0), (38, 0, 0, 0), (29, 19, 0, 0), (3, 0, 2, 0), (24, 5, 7, 0), (0, 1024, 0, 0)], (1, 3, 2, 1, [])),
  ([(3, 0, 2, 0), (25, 5, 2071, 0), (3, 0, 2, 0), (7, 0, 0, 0), (24, 5, 7, 0), (8, 0, 0, 0), (0, 1, 0, 0), (38, 0, 0, 0), (14, 0, 0, 0), (36, 0, 0, 0), (38, 0, 0, 0), (26, 5, 7, 0), (3, 1, 0, 0), (38, 0, 0, 0), (29, 21, 0, 0)], (0, 0, 2, 0, [])),
  ([(34, 7, 0, 0), (34, 8, 0, 0), (38, 0, 0, 0)], (4, 0, 0, 0, []))]
def p33 : List Nat := [0, 44, 61]
set_option maxRecDepth 100000 in
def cq33 : qCt := (4, (([(0, (2, ((5, []), (0, [])))), (1, (0, ((0, [(0, 1)]), (0, [])))), (2, (0, ((0, [(1, 1)]), (0, [])))), (3, (0, ((0, [(2, 1)]), (0, []))))], [], ([(7, (0, [(3, 1)])), (8, (0, [(4, 1)]))], []), (5, [(0, (0, 1023)), (1, (0, 3)), (2, (0, 1024)), (3, (0, 1024)), (4, (0, 8192))], [], 0, [], [], [], [])), ([([], [], ([(7, (0, [(5, 1)]))], []), (6, [(5, (1, 1024))], [], 0, [], [], [], []))], [7, 19, 21])))
def t33 : List qCt := []
def mt33 : yMt := ([], ([], ([], [])))
theorem rc33 : yRc cq33 2 3 = true := by decide +kernel
set_option maxRecDepth 100000 in
def u33 : qCu := []
set_option maxRecDepth 100000 in
theorem z33 : zchk gAll t33 ruI2 ruJ2 rqL b33 u33 cq33 300 [] = true := sorry
theorem yr33 : yRun gAll t33 b33 cq33 := yRun_z gAll_tag ruI2_RtI ruJ2_RtJ rqL_ok z33
theorem zw33 : zwid cq33.2.1.1 cq33.1 0 5 = true := by decide +kernel
set_option maxRecDepth 100000 in
theorem yw33 : yRows gAll LAll yt11 mt33 gHo 5 0 (zby cX10_beLabel) p33 b33 p33 = true := by decide +kernel
set_option maxRecDepth 100000 in
theorem m33 (l : Launch) : kMet gAll LAll vwCl rFo rZs rRs rNs rTs l yX10_beLabel cX10_beLabel 5 none 0 0 cq33 := kmet_y2 (rt := 0) (by decide +kernel) yr33 zw33 rfl yw33 LAll_ok LAll_la yt11_ok gHo_ok rfl (fun G n Qf => yA_n) rfl (fun G n Rr => yA_n) rfl
/-! 34 Assembler.label (I)V -/
set_option maxRecDepth 100000 in
def b34 : qCd := [([(3, 0, 2, 0), (25, 26729, 26815, 0), (3, 1, 0, 0), (0, 1, 0, 0), (34, 90, 0, 0), (34, 89, 0, 0), (34, 39, 0, 0), (34, 438, 0, 0), (35, 51, 0, 0), (35, 52, 0, 0), (38, 0, 0, 0), (33, 0, 0, 0), (3, 0, 2, 0), (25, 26729, 26731, 0), (3, 1, 0, 0), (34, 39, 0, 0), (34, 438, 0, 0), (35, 49, 0, 0), (35, 50, 0, 0), (38, 0, 0, 0), (33, 1, 0, 0)], (2, 1, 3, 1, [])),
  ([(3, 0, 2, 0), (34, 89, 0, 0), (34, 438, 0, 0), (34, 59, 0, 0), (34, 65, 0, 0), (35, 71, 0, 0), (35, 72, 0, 0), (35, 73, 0, 0), (35, 67, 0, 0), (38, 0, 0, 0), (33, 2, 0, 0)], (2, 1, 3, 2, [])),
  ([(3, 0, 2, 0), (0, 3, 0, 0), (34, 89, 0, 0), (34, 438, 0, 0), (34, 13, 0, 0), (34, 6, 0, 0), (35, 15, 0, 0), (38, 0, 0, 0), (33, 3, 0, 0)], (2, 0, 4, 3, [])),
  ([(3, 0, 2, 0), (25, 26729, 26731, 0), (0, 4, 0, 0), (34, 438, 0, 0), (34, 41, 0, 0), (38, 0, 0, 0), (33, 4, 0, 0), (34, 90, 0, 0), (34, 89, 0, 0), (34, 39, 0, 0), (34, 438, 0, 0), (34, 41, 0, 0), (34, 59, 0, 0), (34, 65, 0, 0), (34, 55, 0, 0), (34, 29, 0, 0), (34, 5, 0, 0), (34, 7, 0, 0), (34, 13, 0, 0), (34, 8, 0, 0), (34, 6, 0, 0), (35, 51, 0, 0), (35, 49, 0, 0), (35, 52, 0, 0), (35, 50, 0, 0), (35, 71, 0, 0), (35, 72, 0, 0), (35, 73, 0, 0), (35, 67, 0, 0), (35, 15, 0, 0), (38, 0, 0, 0)], (4, 0, 0, 0, [])),
  ([(3, 0, 2, 0), (25, 26729, 26815, 0), (34, 89, 0, 0), (34, 438, 0, 0), (34, 41, 0, 0), (34, 5, 0, 0), (34, 13, 0, 0), (34, 6, 0, 0), (35, 15, 0, 0), (38, 0, 0, 0), (33, 5, 0, 0), (4, 2, 0, 0), (3, 2, 0, 0), (0, (-1), 0, 0)], (1, 0, 6, 5, [])),
  ([(3, 0, 2, 0), (25, 26729, 5, 0), (3, 2, 0, 0), (3, 0, 2, 0), (24, 26729, 29, 0), (3, 0, 2, 0), (25, 26729, 26755, 0), (24, 26755, 55, 0), (34, 7, 0, 0), (34, 8, 0, 0), (38, 0, 0, 0), (33, 6, 0, 0), (3, 0, 2, 0), (25, 26729, 26815, 0), (3, 1, 0, 0), (34, 90, 0, 0), (34, 39, 0, 0), (34, 438, 0, 0), (35, 51, 0, 0), (35, 52, 0, 0), (38, 0, 0, 0), (33, 7, 0, 0)], (0, 0, 6, 0, [])),
  ([(34, 90, 0, 0), (34, 89, 0, 0), (34, 39, 0, 0), (34, 438, 0, 0), (34, 41, 0, 0), (34, 59, 0, 0), (34, 65, 0, 0), (34, 55, 0, 0), (34, 29, 0, 0), (34, 5, 0, 0), (34, 7, 0, 0), (34, 13, 0, 0), (34, 8, 0, 0), (34, 6, 0, 0), (35, 51, 0, 0), (35, 49, 0, 0), (35, 52, 0, 0), (35, 50, 0, 0), (35, 71, 0, 0), (35, 72, 0, 0), (35, 73, 0, 0), (35, 67, 0, 0), (35, 15, 0, 0), (38, 0, 0, 0)], (4, 0, 0, 0, []))]
def p34 : List Nat := [0, 20, 27, 35, 44, 57, 84]
set_option maxRecDepth 100000 in
def cq34 : qCt := (2, (([(0, (2, ((26729, []), (0, [])))), (1, (0, ((0, [(0, 1)]), (0, []))))], [], ([(90, (0, [(1, 1)])), (89, (0, [(2, 1)])), (39, (0, [(3, 1)])), (438, (0, [(4, 1)])), (41, (0, [(5, 1)])), (59, (0, [(6, 1)])), (65, (0, [(7, 1)])), (55, (0, [(8, 1)])), (29, (0, [(9, 1)])), (5, (0, [(10, 1)])), (7, (0, [(11, 1)])), (13, (0, [(12, 1)])), (8, (0, [(13, 1)])), (6, (0, [(14, 1)]))], [(51, 0), (49, 1), (52, 2), (50, 3), (71, 4), (72, 5), (73, 6), (67, 7), (15, 8)]), (15, [(0, (0, 1024)), (1, (0, 63)), (2, (0, 126)), (5, (0, 10)), (7, (0, 5500)), (8, (1, 1024)), (9, (0, 3)), (10, (0, 31)), (11, (0, 1024)), (12, (0, 1024)), (13, (0, 8192)), (14, (0, 1024)), (3, (0, 1026)), (4, (0, 1)), (6, (0, 961))], [(0, [(4, (-1)), (5, 1)]), (0, [(4, 10), (5, (-1))]), ((-1), [(0, (-1)), (3, 1)])], 9, [(0, 51), (1, 49), (2, 52), (3, 50), (4, 71), (5, 72), (6, 73), (7, 67), (8, 15)], [], [], [(29, ([1], [(0, [(3, 1)]), (1, [(3, 1)]), (0, [])])), (2, ([1], [(0, [(3, 1)]), (1, [(3, 1)]), (0, [])])), (27, ([0, 2], [(0, []), (0, [(3, 1)])])), (2, ([0], [(0, []), (0, [(3, 1)]), (0, [])])), (3, ([2], [(0, []), (0, [(3, 1)]), (1024, [])])), (3, ([7], [(0, []), (1, [(7, 1)]), (65536, [])])), (2, ([7], [(0, []), (1, [(7, 1)]), (0, [])])), (30, ([6], [(0, []), (0, [(7, 1)])])), (3, ([6], [(0, []), (1, [(7, 1)]), (32768, [])])), (2, ([6], [(0, []), (1, [(7, 1)]), (0, [])])), (31, ([1, 3], [(0, []), (0, [(3, 1)])])), (32, ([1, 3], [(0, []), (0, [(3, 1)])])), (30, ([8], [(0, []), (0, [(12, 1)])])), (3, ([4], [(0, []), (0, [(7, 1)]), (0, [(6, 1)])])), (3, ([5], [(0, []), (0, [(7, 1)]), (0, [(6, 1)])]))])), ([([], [], ([(90, (0, [(15, 1)])), (89, (0, [(16, 1)])), (438, (0, [(17, 1)])), (41, (0, [(18, 1)])), (7, (0, [(19, 1)])), (13, (0, [(20, 1)]))], [(15, 9)]), (21, [(15, (0, 63)), (16, (0, 126)), (18, (0, 10)), (19, (0, 1024)), (20, (0, 1024)), (17, (0, 1)), (3, (0, 1026)), (6, (0, 961))], [(0, [(12, (-1)), (20, 1)]), (0, [(17, (-1)), (18, 1)]), (0, [(17, 10), (18, (-1))])], 10, [(9, 15)], [], [], [(29, ([1], [(0, [(3, 1)]), (1, [(3, 1)]), (0, [])])), (2, ([1], [(0, [(3, 1)]), (1, [(3, 1)]), (0, [])])), (27, ([0, 2], [(0, []), (0, [(3, 1)])])), (2, ([0], [(0, []), (0, [(3, 1)]), (0, [])])), (3, ([2], [(0, []), (0, [(3, 1)]), (1024, [])])), (3, ([7], [(0, []), (1, [(7, 1)]), (65536, [])])), (2, ([7], [(0, []), (1, [(7, 1)]), (0, [])])), (30, ([6], [(0, []), (0, [(7, 1)])])), (3, ([6], [(0, []), (1, [(7, 1)]), (32768, [])])), (2, ([6], [(0, []), (1, [(7, 1)]), (0, [])])), (31, ([1, 3], [(0, []), (0, [(3, 1)])])), (32, ([1, 3], [(0, []), (0, [(3, 1)])])), (30, ([9], [(0, []), (0, [(20, 1)])])), (3, ([4], [(0, []), (0, [(7, 1)]), (0, [(6, 1)])])), (3, ([5], [(0, []), (0, [(7, 1)]), (0, [(6, 1)])]))]))], [7, 13, 14, 15, 16, 17, 18, 19, 21, 41, 89, 90, 95, 96, 438])))
def t34 : List qCt := [cq13, cq32, cq29, cq27, cq9, cq31, cq33, cq30]
theorem st31 (l : Launch) {G : rGm} {cc : ByteArray} {nL n fr lo : Nat} {ret : Option FieldType} {Qf : kQf} (hf : 2 ≤ fr) (hlo : 50 ≤ lo) : ySite gAll LAll vwCl rFo rZs rRs rNs rTs G l cc nL RX0 ret fr lo n Qf 182 180 cq13 := ys_V 2 13407 3 rc13 lo_13407 kc3 (m13 l) kGood kw1211 kw1212 kw1213 kw181 kw1503 hdV_X1_spell hf hlo
theorem hdV_X3_isWord : yX3_isWord.cls = RX3 ∧ yX3_isWord.cls ≠ "java/lang/invoke/MethodHandle" ∧ yX3_isWord.cls ≠ "java/lang/invoke/VarHandle" ∧ (parseMethodDescriptor yX3_isWord.desc).map (fun d => d.parameters.length) = some 1 := by decide +kernel
theorem st32 (l : Launch) {G : rGm} {cc : ByteArray} {nL n fr lo : Nat} {ret : Option FieldType} {Qf : kQf} (hf : 1 ≤ fr) (hlo : 21 ≤ lo) : ySite gAll LAll vwCl rFo rZs rRs rNs rTs G l cc nL RX0 ret fr lo n Qf 182 184 cq32 := ys_V 1 13365 5 rc32 lo_13365 kc5 (m32 l) kGood kw1214 kw1215 kw1216 kw90 kw1631 hdV_X3_isWord hf hlo
theorem hdV_X0_isMacro : yX0_isMacro.cls = RX0 ∧ yX0_isMacro.cls ≠ "java/lang/invoke/MethodHandle" ∧ yX0_isMacro.cls ≠ "java/lang/invoke/VarHandle" ∧ (parseMethodDescriptor yX0_isMacro.desc).map (fun d => d.parameters.length) = some 0 := by decide +kernel
theorem st33 (l : Launch) {G : rGm} {cc : ByteArray} {nL n fr lo : Nat} {ret : Option FieldType} {Qf : kQf} (hf : 2 ≤ fr) (hlo : 49 ≤ lo) : ySite gAll LAll vwCl rFo rZs rRs rNs rTs G l cc nL RX0 ret fr lo n Qf 182 187 cq29 := ys_V 0 13364 2 rc29 lo_13364 kc2 (m29 l) kGood kw1217 kw1218 kw1219 kw249 kw1337 hdV_X0_isMacro hf hlo
theorem hdV_X0_isDefined : yX0_isDefined.cls = RX0 ∧ yX0_isDefined.cls ≠ "java/lang/invoke/MethodHandle" ∧ yX0_isDefined.cls ≠ "java/lang/invoke/VarHandle" ∧ (parseMethodDescriptor yX0_isDefined.desc).map (fun d => d.parameters.length) = some 1 := by decide +kernel
theorem st34 (l : Launch) {G : rGm} {cc : ByteArray} {nL n fr lo : Nat} {ret : Option FieldType} {Qf : kQf} (hf : 3 ≤ fr) (hlo : 71 ≤ lo) : ySite gAll LAll vwCl rFo rZs rRs rNs rTs G l cc nL RX0 ret fr lo n Qf 182 197 cq27 := ys_V 1 13364 2 rc27 lo_13364 kc2 (m27 l) kGood kw1226 kw1227 kw1228 kw249 kw1336 hdV_X0_isDefined hf hlo
theorem hdV_X1_made : yX1_made.cls = RX1 ∧ yX1_made.cls ≠ "java/lang/invoke/MethodHandle" ∧ yX1_made.cls ≠ "java/lang/invoke/VarHandle" ∧ (parseMethodDescriptor yX1_made.desc).map (fun d => d.parameters.length) = some 0 := by decide +kernel
theorem st35 (l : Launch) {G : rGm} {cc : ByteArray} {nL n fr lo : Nat} {ret : Option FieldType} {Qf : kQf} (hf : 3 ≤ fr) (hlo : 72 ≤ lo) : ySite gAll LAll vwCl rFo rZs rRs rNs rTs G l cc nL RX0 ret fr lo n Qf 182 237 cq31 := ys_V 0 13407 3 rc31 lo_13407 kc3 (m31 l) kGood kw1303 kw1304 kw1305 kw181 kw1477 hdV_X1_made hf hlo
theorem hdV_X10_beLabel : yX10_beLabel.cls = RX10 ∧ yX10_beLabel.cls ≠ "java/lang/invoke/MethodHandle" ∧ yX10_beLabel.cls ≠ "java/lang/invoke/VarHandle" ∧ (parseMethodDescriptor yX10_beLabel.desc).map (fun d => d.parameters.length) = some 3 := by decide +kernel
theorem st36 (l : Launch) {G : rGm} {cc : ByteArray} {nL n fr lo : Nat} {ret : Option FieldType} {Qf : kQf} (hf : 1 ≤ fr) (hlo : 24 ≤ lo) : ySite gAll LAll vwCl rFo rZs rRs rNs rTs G l cc nL RX0 ret fr lo n Qf 182 240 cq33 := ys_V 3 2 12 rc33 lo_2 kc12 (m33 l) kGood kw1349 kw1350 kw1351 kw241 kw2113 hdV_X10_beLabel hf hlo
theorem hdV_X1_beLatest : yX1_beLatest.cls = RX1 ∧ yX1_beLatest.cls ≠ "java/lang/invoke/MethodHandle" ∧ yX1_beLatest.cls ≠ "java/lang/invoke/VarHandle" ∧ (parseMethodDescriptor yX1_beLatest.desc).map (fun d => d.parameters.length) = some 1 := by decide +kernel
theorem st37 (l : Launch) {G : rGm} {cc : ByteArray} {nL n fr lo : Nat} {ret : Option FieldType} {Qf : kQf} (hf : 2 ≤ fr) (hlo : 47 ≤ lo) : ySite gAll LAll vwCl rFo rZs rRs rNs rTs G l cc nL RX0 ret fr lo n Qf 182 244 cq30 := ys_V 1 13407 3 rc30 lo_13407 kc3 (m30 l) kGood kw1352 kw1353 kw1354 kw181 kw1456 hdV_X1_beLatest hf hlo
def mt34 : yMt := ([(182, (180, 0)), (182, (184, 1)), (182, (187, 2)), (182, (197, 3)), (182, (88, 4)), (182, (237, 5)), (182, (240, 6)), (182, (244, 7))], ([], ([], [])))
theorem rc34 : yRc cq34 13364 1 = true := by decide +kernel
set_option maxRecDepth 100000 in
def u34 : qCu := []
set_option maxRecDepth 100000 in
theorem z34 : zchk gAll t34 ruI2 ruJ2 rqL b34 u34 cq34 300 [] = true := sorry
theorem yr34 : yRun gAll t34 b34 cq34 := yRun_z gAll_tag ruI2_RtI ruJ2_RtJ rqL_ok z34
theorem zw34 : zwid cq34.2.1.1 cq34.1 0 3 = true := by decide +kernel
set_option maxRecDepth 100000 in
theorem yw34 : yRows gAll LAll yt1 mt34 gHo 3 0 (zby cX0_label) p34 b34 p34 = true := by decide +kernel
set_option maxRecDepth 100000 in
theorem m34 (l : Launch) : kMet gAll LAll vwCl rFo rZs rRs rNs rTs l yX0_label cX0_label 3 none 3 72 cq34 := kmet_y2 (rt := 0) (by decide +kernel) yr34 zw34 rfl yw34 LAll_ok LAll_la yt1_ok gHo_ok rfl (fun G n Qf => List.forall_mem_cons.mpr ⟨⟨cq13, rfl, st31 l (by decide) (by decide)⟩, List.forall_mem_cons.mpr ⟨⟨cq32, rfl, st32 l (by decide) (by decide)⟩, List.forall_mem_cons.mpr ⟨⟨cq29, rfl, st33 l (by decide) (by decide)⟩, List.forall_mem_cons.mpr ⟨⟨cq27, rfl, st34 l (by decide) (by decide)⟩, List.forall_mem_cons.mpr ⟨⟨cq9, rfl, st27 l (by decide) (by decide)⟩, List.forall_mem_cons.mpr ⟨⟨cq31, rfl, st35 l (by decide) (by decide)⟩, List.forall_mem_cons.mpr ⟨⟨cq33, rfl, st36 l (by decide) (by decide)⟩, List.forall_mem_cons.mpr ⟨⟨cq30, rfl, st37 l (by decide) (by decide)⟩, yA_n⟩⟩⟩⟩⟩⟩⟩⟩) rfl (fun G n Rr => yA_n) rfl
/-! 35 Names.find/text@x.assembler.reader.source.macros ([BIII)I -/
set_option maxRecDepth 100000 in
def b35 : qCd := [([(0, 0, 0, 0), (4, 5, 0, 0), (3, 2, 0, 0), (4, 6, 0, 0), (34, 59, 0, 0), (34, 65, 0, 0), (35, 71, 0, 0), (35, 72, 0, 0), (35, 73, 0, 0), (35, 67, 0, 0), (40, 6, 0, 0), (38, 0, 0, 0)], (0, 0, 1, 0, [])),
  ([(3, 6, 0, 0), (36, 0, 0, 0), (3, 2, 0, 0), (3, 3, 0, 0), (38, 0, 0, 0), (14, 0, 0, 0), (36, 0, 0, 0)], (1, 3, 3, 2, [])),
  ([(0, 31, 0, 0), (3, 5, 0, 0), (16, 0, 0, 0), (36, 0, 0, 0), (3, 1, 2, 0), (3, 6, 0, 0), (36, 0, 0, 0), (38, 0, 0, 0), (28, 42, 0, 0), (38, 0, 0, 0), (14, 0, 0, 0), (36, 0, 0, 0), (4, 5, 0, 0), (5, 6, 1, 0), (34, 59, 0, 0), (34, 65, 0, 0), (35, 71, 0, 0), (35, 72, 0, 0), (35, 73, 0, 0), (35, 67, 0, 0), (40, 6, 0, 0), (38, 0, 0, 0)], (0, 0, 1, 0, [])),
  ([(3, 0, 2, 0), (25, 26769, 26779, 0), (3, 5, 0, 0), (0, 1023, 0, 0), (38, 0, 0, 0), (18, 0, 0, 0), (38, 0, 0, 0), (28, 70, 0, 0), (4, 6, 0, 0), (0, 0, 0, 0), (4, 7, 0, 0), (34, 59, 0, 0), (34, 65, 0, 0), (35, 71, 0, 0), (35, 72, 0, 0), (35, 73, 0, 0), (35, 67, 0, 0), (40, 6, 0, 0), (40, 7, 0, 0), (38, 0, 0, 0)], (0, 0, 4, 0, [])),
  ([(3, 7, 0, 0), (36, 0, 0, 0), (3, 0, 2, 0), (24, 26769, 65, 0)], (1, 3, 15, 5, [])),
  ([(3, 6, 0, 0), (36, 0, 0, 0), (0, (-1), 0, 0)], (1, 0, 15, 6, [])),
  ([(3, 6, 0, 0), (36, 0, 0, 0), (3, 4, 0, 0)], (1, 3, 14, 7, [])),
  ([(3, 0, 2, 0), (25, 26769, 26773, 0), (3, 6, 0, 0), (36, 0, 0, 0), (0, 1, 0, 0), (38, 0, 0, 0), (14, 0, 0, 0), (36, 0, 0, 0), (38, 0, 0, 0), (28, 67, 0, 0), (3, 0, 2, 0), (25, 26769, 26773, 0), (3, 6, 0, 0), (36, 0, 0, 0), (38, 0, 0, 0), (28, 67, 0, 0), (38, 0, 0, 0), (15, 0, 0, 0), (36, 0, 0, 0), (3, 3, 0, 0)], (1, 1, 14, 8, [])),
  ([(0, 0, 0, 0), (4, 8, 0, 0), (34, 59, 0, 0), (34, 65, 0, 0), (35, 71, 0, 0), (35, 72, 0, 0), (35, 73, 0, 0), (35, 67, 0, 0), (40, 6, 0, 0), (40, 7, 0, 0), (40, 8, 0, 0), (38, 0, 0, 0)], (0, 0, 9, 0, [])),
  ([(3, 8, 0, 0), (36, 0, 0, 0), (3, 3, 0, 0)], (1, 3, 12, 10, [])),
  ([(3, 0, 2, 0), (25, 26769, 26771, 0), (3, 0, 2, 0), (25, 26769, 26773, 0), (3, 6, 0, 0), (36, 0, 0, 0), (38, 0, 0, 0), (28, 67, 0, 0), (3, 8, 0, 0), (36, 0, 0, 0), (38, 0, 0, 0), (14, 0, 0, 0), (36, 0, 0, 0), (38, 0, 0, 0), (28, 66, 0, 0), (3, 1, 2, 0), (3, 2, 0, 0), (3, 8, 0, 0), (36, 0, 0, 0), (38, 0, 0, 0), (14, 0, 0, 0), (36, 0, 0, 0), (38, 0, 0, 0), (28, 42, 0, 0)], (1, 1, 12, 11, [])),
  ([(5, 8, 1, 0), (34, 59, 0, 0), (34, 65, 0, 0), (35, 71, 0, 0), (35, 72, 0, 0), (35, 73, 0, 0), (35, 67, 0, 0), (40, 6, 0, 0), (40, 7, 0, 0), (40, 8, 0, 0), (38, 0, 0, 0)], (0, 0, 9, 0, [])),
  ([(3, 8, 0, 0), (36, 0, 0, 0), (3, 3, 0, 0)], (1, 1, 14, 13, [])),
  ([(3, 6, 0, 0), (36, 0, 0, 0), (34, 59, 0, 0), (34, 65, 0, 0), (35, 71, 0, 0), (35, 72, 0, 0), (35, 73, 0, 0), (35, 67, 0, 0), (38, 0, 0, 0)], (5, 0, 0, 0, [((-2147483648), 0), (2147483647, 0)])),
  ([(3, 0, 2, 0), (25, 26769, 26775, 0), (3, 6, 0, 0), (36, 0, 0, 0), (38, 0, 0, 0), (28, 68, 0, 0), (4, 6, 0, 0), (5, 7, 1, 0), (34, 59, 0, 0), (34, 65, 0, 0), (35, 71, 0, 0), (35, 72, 0, 0), (35, 73, 0, 0), (35, 67, 0, 0), (40, 6, 0, 0), (40, 7, 0, 0), (38, 0, 0, 0)], (0, 0, 4, 0, [])),
  ([(0, (-1), 0, 0), (34, 59, 0, 0), (34, 65, 0, 0), (35, 71, 0, 0), (35, 72, 0, 0), (35, 73, 0, 0), (35, 67, 0, 0), (38, 0, 0, 0)], (5, 0, 0, 0, [((-2147483648), 0), (2147483647, 0)]))]
def p35 : List Nat := [0, 6, 14, 32, 48, 57, 63, 70, 91, 94, 100, 124, 130, 136, 139, 154]
set_option maxRecDepth 100000 in
def cq35 : qCt := (5, (([(0, (2, ((26769, []), (0, [])))), (1, (2, ((26733, []), (0, [])))), (2, (0, ((0, [(0, 1)]), (0, [])))), (3, (0, ((0, [(1, 1)]), (0, [])))), (4, (0, ((0, [(2, 1)]), (0, []))))], [], ([(59, (0, [(3, 1)])), (65, (0, [(4, 1)]))], [(71, 0), (72, 1), (73, 2), (67, 3)]), (5, [(0, (0, 1023)), (1, (0, 1027)), (2, (0, 5500)), (4, (0, 5500)), (3, (0, 961))], [(0, [(2, 1), (4, (-1))]), (0, [(2, (-1)), (4, 1)]), (1024, [(0, (-1)), (1, (-1))])], 4, [(0, 71), (1, 72), (2, 73), (3, 67)], [], [], [(3, ([3], [(0, []), (1, [(4, 1)]), (65536, [])])), (2, ([3], [(0, []), (1, [(4, 1)]), (0, [])])), (30, ([2], [(0, []), (0, [(4, 1)])])), (3, ([2], [(0, []), (1, [(4, 1)]), (32768, [])])), (2, ([2], [(0, []), (1, [(4, 1)]), (0, [])])), (3, ([0], [(0, []), (0, [(4, 1)]), (0, [(3, 1)])])), (3, ([1], [(0, []), (0, [(4, 1)]), (0, [(3, 1)])]))])), ([([], [(0, ((0, [(5, 1)]), (0, [])))], ([], []), (6, [(5, ((-1), (-1))), (3, (0, 961))], [], 4, [], [], [], [(3, ([3], [(0, []), (1, [(4, 1)]), (65536, [])])), (2, ([3], [(0, []), (1, [(4, 1)]), (0, [])])), (30, ([2], [(0, []), (0, [(4, 1)])])), (3, ([2], [(0, []), (1, [(4, 1)]), (32768, [])])), (2, ([2], [(0, []), (1, [(4, 1)]), (0, [])])), (3, ([0], [(0, []), (0, [(4, 1)]), (0, [(3, 1)])])), (3, ([1], [(0, []), (0, [(4, 1)]), (0, [(3, 1)])]))])),
   ([], [(0, ((0, [(5, 1)]), (0, [])))], ([], []), (6, [(5, (0, 5499)), (3, (0, 961))], [((-1), [(4, 1), (5, (-1))])], 4, [], [], [], [(3, ([3], [(0, []), (1, [(4, 1)]), (65536, [])])), (2, ([3], [(0, []), (1, [(4, 1)]), (0, [])])), (30, ([2], [(0, []), (0, [(4, 1)])])), (3, ([2], [(0, []), (1, [(4, 1)]), (32768, [])])), (2, ([2], [(0, []), (1, [(4, 1)]), (0, [])])), (3, ([0], [(0, []), (0, [(4, 1)]), (0, [(3, 1)])])), (3, ([1], [(0, []), (0, [(4, 1)]), (0, [(3, 1)])]))]))], [])))
def t35 : List qCt := []
def mt35 : yMt := ([], ([], ([], [])))
theorem rc35 : yRc cq35 13384 4 = true := by decide +kernel
set_option maxRecDepth 100000 in
def u35_0 : Nat × (qS × (qL × (qL × qL))) := (1, (([(0, (2, ((26769, []), (0, [])))), (1, (2, ((26733, []), (0, [])))), (2, (0, ((0, [(0, 1)]), (0, [])))), (3, (0, ((0, [(1, 1)]), (0, [])))), (4, (0, ((0, [(2, 1)]), (0, [])))), (5, (0, ((0, [(5, 1)]), (0, [])))), (6, (0, ((0, [(6, 1)]), (0, []))))], [], ([(59, (0, [(3, 1)])), (65, (0, [(4, 1)]))], [(71, 0), (72, 1), (73, 2), (67, 3)]), (7, [(0, (0, 1023)), (1, (0, 1027)), (2, (0, 5500)), (4, (0, 5500)), (3, (0, 961)), (5, ((-2147483648), 2147483647)), (6, (0, 1024))], [(0, [(2, 1), (4, (-1))]), (0, [(2, (-1)), (4, 1)]), (1024, [(0, (-1)), (1, (-1))])], 4, [], [], [], [(3, ([3], [(0, []), (1, [(4, 1)]), (65536, [])])), (2, ([3], [(0, []), (1, [(4, 1)]), (0, [])])), (30, ([2], [(0, []), (0, [(4, 1)])])), (3, ([2], [(0, []), (1, [(4, 1)]), (32768, [])])), (2, ([2], [(0, []), (1, [(4, 1)]), (0, [])])), (3, ([0], [(0, []), (0, [(4, 1)]), (0, [(3, 1)])])), (3, ([1], [(0, []), (0, [(4, 1)]), (0, [(3, 1)])]))])), ((1, []), ((65536, [(0, 64), (1, 64), (6, (-64))]), (0, [])))))
set_option maxRecDepth 100000 in
def u35_1 : Nat × (qS × (qL × (qL × qL))) := (4, (([(0, (2, ((26769, []), (0, [])))), (1, (2, ((26733, []), (0, [])))), (2, (0, ((0, [(0, 1)]), (0, [])))), (3, (0, ((0, [(1, 1)]), (0, [])))), (4, (0, ((0, [(2, 1)]), (0, [])))), (6, (0, ((0, [(5, 1)]), (0, [])))), (7, (0, ((0, [(6, 1)]), (0, []))))], [], ([(59, (0, [(3, 1)])), (65, (0, [(4, 1)]))], [(71, 0), (72, 1), (73, 2), (67, 3)]), (7, [(0, (0, 2147483647)), (1, (0, 1024)), (2, (0, 5500)), (4, (0, 5500)), (3, (0, 961)), (5, ((-1), 5499)), (6, (0, 5500))], [(0, [(2, 1), (4, (-1))]), (0, [(2, (-1)), (4, 1)]), (1024, [(0, (-1)), (1, (-1))]), (0, [(4, 1), (6, (-1))])], 4, [], [], [], [(3, ([3], [(0, []), (1, [(4, 1)]), (65536, [])])), (2, ([3], [(0, []), (1, [(4, 1)]), (0, [])])), (30, ([2], [(0, []), (0, [(4, 1)])])), (3, ([2], [(0, []), (1, [(4, 1)]), (32768, [])])), (2, ([2], [(0, []), (1, [(4, 1)]), (0, [])])), (3, ([0], [(0, []), (0, [(4, 1)]), (0, [(3, 1)])])), (3, ([1], [(0, []), (0, [(4, 1)]), (0, [(3, 1)])]))])), ((0, []), ((352001, [(4, 64), (6, (-64))]), (0, [])))))
set_option maxRecDepth 100000 in
def u35_2 : Nat × (qS × (qL × (qL × qL))) := (9, (([(0, (2, ((26769, []), (0, [])))), (1, (2, ((26733, []), (0, [])))), (2, (0, ((0, [(0, 1)]), (0, [])))), (3, (0, ((0, [(1, 1)]), (0, [])))), (4, (0, ((0, [(2, 1)]), (0, [])))), (6, (0, ((0, [(5, 1)]), (0, [])))), (7, (0, ((0, [(6, 1)]), (0, [])))), (8, (0, ((0, [(7, 1)]), (0, []))))], [], ([(59, (0, [(3, 1)])), (65, (0, [(4, 1)]))], [(71, 0), (72, 1), (73, 2), (67, 3)]), (8, [(0, (0, 2147483647)), (1, (0, 1024)), (2, (1, 5500)), (4, (1, 5500)), (3, (0, 961)), (5, (0, 5499)), (6, (0, 5499)), (7, (0, 1024))], [(0, [(2, 1), (4, (-1))]), (0, [(2, (-1)), (4, 1)]), (1024, [(0, (-1)), (1, (-1))]), (1023, [(1, 1), (7, (-1))]), ((-1), [(4, 1), (5, (-1))]), ((-1), [(4, 1), (6, (-1))])], 4, [], [], [], [(3, ([3], [(0, []), (1, [(4, 1)]), (65536, [])])), (2, ([3], [(0, []), (1, [(4, 1)]), (0, [])])), (30, ([2], [(0, []), (0, [(4, 1)])])), (3, ([2], [(0, []), (1, [(4, 1)]), (32768, [])])), (2, ([2], [(0, []), (1, [(4, 1)]), (0, [])])), (3, ([0], [(0, []), (0, [(4, 1)]), (0, [(3, 1)])])), (3, ([1], [(0, []), (0, [(4, 1)]), (0, [(3, 1)])])), (3, ([3], [(0, [(5, 1)]), (1, [(5, 1)]), (65536, [(1, (-1))])]))])), ((0, []), ((352000, [(4, 64), (6, (-64))]), (65536, [(1, 64), (7, (-64))])))))
def u35 : qCu := [u35_0, u35_1, u35_2]
set_option maxRecDepth 100000 in
theorem z35_s : zsm (zblk gAll cq35.2.2.2 t35 ruI2 ruJ2 rqL b35 cq35 (zrun gAll cq35.2.2.2 t35 ruI2 ruJ2 rqL b35 u35 cq35 none 300) 0 cq35.2.1 [0, 0, 1, 0, 1, 1, 1, 1, 1, 2, 1, 0, 1, 2, 3, 4, 5, 6]) = true := sorry
set_option maxRecDepth 100000 in
theorem z35_0 : zsm (zfrom gAll cq35.2.2.2 t35 ruI2 ruJ2 rqL b35 u35 cq35 300 u35_0 []) = true := sorry
set_option maxRecDepth 100000 in
theorem z35_1 : zsm (zfrom gAll cq35.2.2.2 t35 ruI2 ruJ2 rqL b35 u35 cq35 300 u35_1 []) = true := sorry
set_option maxRecDepth 100000 in
theorem z35_2 : zsm (zfrom gAll cq35.2.2.2 t35 ruI2 ruJ2 rqL b35 u35 cq35 300 u35_2 []) = true := sorry
theorem yr35 : yRun gAll t35 b35 cq35 := yRun_p (cuts := u35) (fuel := 300) gAll_tag ruI2_RtI ruJ2_RtJ rqL_ok ⟨zsm_e _ z35_s, List.forall_mem_cons.mpr ⟨zsm_e _ z35_0, List.forall_mem_cons.mpr ⟨zsm_e _ z35_1, List.forall_mem_cons.mpr ⟨zsm_e _ z35_2, yA_n⟩⟩⟩⟩
theorem zw35 : zwid cq35.2.1.1 cq35.1 0 9 = true := by decide +kernel
set_option maxRecDepth 100000 in
theorem yw35 : yRows gAll LAll yt8 mt35 gHo 9 1 (zby cX7_find) p35 b35 p35 = true := by decide +kernel
set_option maxRecDepth 100000 in
theorem m35 (l : Launch) : kMet gAll LAll vwCl rFo rZs rRs rNs rTs l yX7_find cX7_find 9 (some .int) 0 0 cq35 := kmet_y2 (rt := 1) (by decide +kernel) yr35 zw35 rfl yw35 LAll_ok LAll_la yt8_ok gHo_ok rfl (fun G n Qf => yA_n) rfl (fun G n Rr => yA_n) rfl
/-! 36 Assembler.wordAt (I)I -/
set_option maxRecDepth 100000 in
def b36 : qCd := [([(3, 0, 2, 0), (25, 26729, 26731, 0), (25, 26731, 26747, 0), (3, 1, 0, 0), (38, 0, 0, 0), (28, 49, 0, 0)], (2, 1, 2, 1, [])),
  ([(0, (-2), 0, 0), (34, 39, 0, 0), (34, 438, 0, 0), (34, 32, 0, 0), (34, 59, 0, 0), (34, 65, 0, 0), (35, 51, 0, 0), (35, 49, 0, 0), (35, 52, 0, 0), (35, 50, 0, 0), (35, 71, 0, 0), (35, 72, 0, 0), (35, 73, 0, 0), (35, 67, 0, 0), (38, 0, 0, 0)], (5, 0, 0, 0, [((-2147483648), 0), (2147483647, 0)])),
  ([(3, 0, 2, 0), (25, 26729, 26731, 0), (25, 26731, 26747, 0), (3, 1, 0, 0), (38, 0, 0, 0), (28, 49, 0, 0), (0, 1, 0, 0)], (1, 0, 4, 3, [])),
  ([(0, (-3), 0, 0), (34, 39, 0, 0), (34, 438, 0, 0), (34, 32, 0, 0), (34, 59, 0, 0), (34, 65, 0, 0), (35, 51, 0, 0), (35, 49, 0, 0), (35, 52, 0, 0), (35, 50, 0, 0), (35, 71, 0, 0), (35, 72, 0, 0), (35, 73, 0, 0), (35, 67, 0, 0), (38, 0, 0, 0)], (5, 0, 0, 0, [((-2147483648), 0), (2147483647, 0)])),
  ([(3, 0, 2, 0), (25, 26729, 26731, 0), (3, 1, 0, 0), (0, 1, 0, 0), (38, 0, 0, 0), (14, 0, 0, 0), (36, 0, 0, 0), (0, 52, 0, 0), (34, 39, 0, 0), (34, 438, 0, 0), (35, 49, 0, 0), (35, 50, 0, 0), (38, 0, 0, 0), (33, 0, 0, 0)], (2, 0, 6, 5, [])),
  ([(0, (-6), 0, 0), (34, 39, 0, 0), (34, 438, 0, 0), (34, 32, 0, 0), (34, 59, 0, 0), (34, 65, 0, 0), (35, 51, 0, 0), (35, 49, 0, 0), (35, 52, 0, 0), (35, 50, 0, 0), (35, 71, 0, 0), (35, 72, 0, 0), (35, 73, 0, 0), (35, 67, 0, 0), (38, 0, 0, 0)], (5, 0, 0, 0, [((-2147483648), 0), (2147483647, 0)])),
  ([(3, 0, 2, 0), (25, 26729, 26731, 0), (25, 26731, 26749, 0), (3, 1, 0, 0), (38, 0, 0, 0), (28, 50, 0, 0), (38, 0, 0, 0), (22, 0, 0, 0), (36, 0, 0, 0), (4, 2, 0, 0), (3, 2, 0, 0), (0, 53, 0, 0)], (1, 2, 9, 7, [])),
  ([(3, 2, 0, 0), (0, 185, 0, 0)], (1, 3, 9, 8, [])),
  ([(3, 2, 0, 0), (34, 39, 0, 0), (34, 438, 0, 0), (34, 32, 0, 0), (34, 59, 0, 0), (34, 65, 0, 0), (35, 51, 0, 0), (35, 49, 0, 0), (35, 52, 0, 0), (35, 50, 0, 0), (35, 71, 0, 0), (35, 72, 0, 0), (35, 73, 0, 0), (35, 67, 0, 0), (38, 0, 0, 0)], (5, 0, 0, 0, [((-2147483648), 0), (2147483647, 0)])),
  ([(3, 0, 2, 0), (25, 26729, 26755, 0), (25, 26755, 26757, 0), (25, 26757, 26769, 0), (4, 3, 2, 0), (3, 0, 2, 0), (3, 3, 2, 0), (3, 0, 2, 0), (25, 26729, 26731, 0), (25, 26731, 26733, 0), (3, 0, 2, 0), (25, 26729, 26731, 0), (25, 26731, 26751, 0), (3, 1, 0, 0), (38, 0, 0, 0), (28, 51, 0, 0), (3, 0, 2, 0), (25, 26729, 26731, 0), (25, 26731, 26753, 0), (3, 1, 0, 0), (38, 0, 0, 0), (28, 52, 0, 0), (3, 0, 2, 0), (25, 26729, 26731, 0), (25, 26731, 26751, 0), (3, 1, 0, 0), (38, 0, 0, 0), (28, 51, 0, 0), (38, 0, 0, 0), (15, 0, 0, 0), (36, 0, 0, 0), (3, 3, 2, 0), (24, 26769, 65, 0), (34, 59, 0, 0), (34, 65, 0, 0), (35, 71, 0, 0), (35, 72, 0, 0), (35, 73, 0, 0), (35, 67, 0, 0), (38, 0, 0, 0), (33, 1, 0, 0), (38, 0, 0, 0), (26, 26729, 32, 0), (3, 0, 2, 0), (24, 26729, 32, 0), (0, (-1), 0, 0)], (1, 1, 11, 10, [])),
  ([(0, (-4), 0, 0)], (0, 0, 12, 0, [])),
  ([(0, (-5), 0, 0)], (0, 0, 12, 0, [])),
  ([(34, 39, 0, 0), (34, 438, 0, 0), (34, 32, 0, 0), (34, 59, 0, 0), (34, 65, 0, 0), (35, 51, 0, 0), (35, 49, 0, 0), (35, 52, 0, 0), (35, 50, 0, 0), (35, 71, 0, 0), (35, 72, 0, 0), (35, 73, 0, 0), (35, 67, 0, 0), (38, 0, 0, 0)], (5, 0, 0, 0, [((-2147483648), 0), (2147483647, 0)]))]
def p36 : List Nat := [0, 12, 15, 28, 31, 46, 49, 66, 73, 75, 141, 146, 148]
set_option maxRecDepth 100000 in
def cq36 : qCt := (2, (([(0, (2, ((26729, []), (0, [])))), (1, (0, ((0, [(0, 1)]), (0, []))))], [], ([(39, (0, [(1, 1)])), (438, (0, [(2, 1)])), (32, (0, [(3, 1)])), (59, (0, [(4, 1)])), (65, (0, [(5, 1)]))], [(51, 0), (49, 1), (52, 2), (50, 3), (71, 4), (72, 5), (73, 6), (67, 7)]), (6, [(0, (0, 1025)), (3, ((-1), 5499)), (5, (0, 5500)), (1, (0, 1024)), (2, (0, 1)), (4, (0, 961))], [(0, [(0, (-1)), (1, 1)])], 8, [(0, 51), (1, 49), (2, 52), (3, 50), (4, 71), (5, 72), (6, 73), (7, 67)], [], [], [(29, ([1], [(0, [(1, 1)]), (1, [(1, 1)]), (0, [])])), (2, ([1], [(0, [(1, 1)]), (1, [(1, 1)]), (0, [])])), (27, ([0, 2], [(0, []), (0, [(1, 1)])])), (2, ([0], [(0, []), (0, [(1, 1)]), (0, [])])), (3, ([2], [(0, []), (0, [(1, 1)]), (1024, [])])), (3, ([7], [(0, []), (1, [(5, 1)]), (65536, [])])), (2, ([7], [(0, []), (1, [(5, 1)]), (0, [])])), (30, ([6], [(0, []), (0, [(5, 1)])])), (3, ([6], [(0, []), (1, [(5, 1)]), (32768, [])])), (2, ([6], [(0, []), (1, [(5, 1)]), (0, [])])), (31, ([1, 3], [(0, []), (0, [(1, 1)])])), (32, ([1, 3], [(0, []), (0, [(1, 1)])])), (3, ([4], [(0, []), (0, [(5, 1)]), (0, [(4, 1)])])), (3, ([5], [(0, []), (0, [(5, 1)]), (0, [(4, 1)])]))])), ([([], [(0, ((0, [(6, 1)]), (0, [])))], ([(32, (0, [(7, 1)]))], []), (8, [(6, ((-2), (-2))), (7, ((-1), 5499)), (1, (0, 1026)), (4, (0, 961)), (2, (0, 1))], [], 8, [], [], [], [(29, ([1], [(0, [(1, 1)]), (1, [(1, 1)]), (0, [])])), (2, ([1], [(0, [(1, 1)]), (1, [(1, 1)]), (0, [])])), (27, ([0, 2], [(0, []), (0, [(1, 1)])])), (2, ([0], [(0, []), (0, [(1, 1)]), (0, [])])), (3, ([2], [(0, []), (0, [(1, 1)]), (1024, [])])), (3, ([7], [(0, []), (1, [(5, 1)]), (65536, [])])), (2, ([7], [(0, []), (1, [(5, 1)]), (0, [])])), (30, ([6], [(0, []), (0, [(5, 1)])])), (3, ([6], [(0, []), (1, [(5, 1)]), (32768, [])])), (2, ([6], [(0, []), (1, [(5, 1)]), (0, [])])), (31, ([1, 3], [(0, []), (0, [(1, 1)])])), (32, ([1, 3], [(0, []), (0, [(1, 1)])])), (3, ([4], [(0, []), (0, [(5, 1)]), (0, [(4, 1)])])), (3, ([5], [(0, []), (0, [(5, 1)]), (0, [(4, 1)])])), (1, ([], [(0, []), (1, []), ((-6), [(6, (-1))]), (4, [(6, 1)]), (0, [(7, 1)])])), (1, ([], [(0, []), (1, []), ((-6), [(6, (-1))]), (4, [(6, 1)]), ((-1), [(5, 1), (7, (-1))])]))])),
   ([], [(0, ((0, [(6, 1)]), (0, [])))], ([(32, (0, [(7, 1)]))], []), (8, [(6, ((-1), (-2))), (7, ((-1), 5499)), (1, (0, 1026)), (4, (0, 961)), (2, (0, 1))], [((-1), [(0, (-1)), (1, 1)])], 8, [], [], [], [(29, ([1], [(0, [(1, 1)]), (1, [(1, 1)]), (0, [])])), (2, ([1], [(0, [(1, 1)]), (1, [(1, 1)]), (0, [])])), (27, ([0, 2], [(0, []), (0, [(1, 1)])])), (2, ([0], [(0, []), (0, [(1, 1)]), (0, [])])), (3, ([2], [(0, []), (0, [(1, 1)]), (1024, [])])), (3, ([7], [(0, []), (1, [(5, 1)]), (65536, [])])), (2, ([7], [(0, []), (1, [(5, 1)]), (0, [])])), (30, ([6], [(0, []), (0, [(5, 1)])])), (3, ([6], [(0, []), (1, [(5, 1)]), (32768, [])])), (2, ([6], [(0, []), (1, [(5, 1)]), (0, [])])), (31, ([1, 3], [(0, []), (0, [(1, 1)])])), (32, ([1, 3], [(0, []), (0, [(1, 1)])])), (3, ([4], [(0, []), (0, [(5, 1)]), (0, [(4, 1)])])), (3, ([5], [(0, []), (0, [(5, 1)]), (0, [(4, 1)])])), (1, ([], [(0, []), (1, []), ((-6), [(6, (-1))]), (4, [(6, 1)]), (0, [(7, 1)])])), (1, ([], [(0, []), (1, []), ((-6), [(6, (-1))]), (4, [(6, 1)]), ((-1), [(5, 1), (7, (-1))])]))])),
   ([], [(0, ((0, [(6, 1)]), (0, [])))], ([(32, (0, [(7, 1)]))], []), (8, [(6, ((-4), (-3))), (7, ((-1), 5499)), (1, (0, 1026)), (4, (0, 961)), (2, (0, 1))], [((-1), [(0, (-1)), (1, 1)])], 8, [], [], [], [(29, ([1], [(0, [(1, 1)]), (1, [(1, 1)]), (0, [])])), (2, ([1], [(0, [(1, 1)]), (1, [(1, 1)]), (0, [])])), (27, ([0, 2], [(0, []), (0, [(1, 1)])])), (2, ([0], [(0, []), (0, [(1, 1)]), (0, [])])), (3, ([2], [(0, []), (0, [(1, 1)]), (1024, [])])), (3, ([7], [(0, []), (1, [(5, 1)]), (65536, [])])), (2, ([7], [(0, []), (1, [(5, 1)]), (0, [])])), (30, ([6], [(0, []), (0, [(5, 1)])])), (3, ([6], [(0, []), (1, [(5, 1)]), (32768, [])])), (2, ([6], [(0, []), (1, [(5, 1)]), (0, [])])), (31, ([1, 3], [(0, []), (0, [(1, 1)])])), (32, ([1, 3], [(0, []), (0, [(1, 1)])])), (3, ([4], [(0, []), (0, [(5, 1)]), (0, [(4, 1)])])), (3, ([5], [(0, []), (0, [(5, 1)]), (0, [(4, 1)])])), (1, ([], [(0, []), (1, []), ((-6), [(6, (-1))]), (4, [(6, 1)]), (0, [(7, 1)])])), (1, ([], [(0, []), (1, []), ((-6), [(6, (-1))]), (4, [(6, 1)]), ((-1), [(5, 1), (7, (-1))])]))])),
   ([], [(0, ((0, [(6, 1)]), (0, [])))], ([(32, (0, [(7, 1)]))], []), (8, [(6, ((-5), (-5))), (7, (0, 5499)), (1, (0, 1026)), (4, (0, 961)), (2, (0, 1))], [((-1), [(0, (-1)), (1, 1)])], 8, [], [], [], [(29, ([1], [(0, [(1, 1)]), (1, [(1, 1)]), (0, [])])), (2, ([1], [(0, [(1, 1)]), (1, [(1, 1)]), (0, [])])), (27, ([0, 2], [(0, []), (0, [(1, 1)])])), (2, ([0], [(0, []), (0, [(1, 1)]), (0, [])])), (3, ([2], [(0, []), (0, [(1, 1)]), (1024, [])])), (3, ([7], [(0, []), (1, [(5, 1)]), (65536, [])])), (2, ([7], [(0, []), (1, [(5, 1)]), (0, [])])), (30, ([6], [(0, []), (0, [(5, 1)])])), (3, ([6], [(0, []), (1, [(5, 1)]), (32768, [])])), (2, ([6], [(0, []), (1, [(5, 1)]), (0, [])])), (31, ([1, 3], [(0, []), (0, [(1, 1)])])), (32, ([1, 3], [(0, []), (0, [(1, 1)])])), (3, ([4], [(0, []), (0, [(5, 1)]), (0, [(4, 1)])])), (3, ([5], [(0, []), (0, [(5, 1)]), (0, [(4, 1)])])), (1, ([], [(0, []), (1, []), ((-6), [(6, (-1))]), (4, [(6, 1)]), (0, [(7, 1)])])), (1, ([], [(0, []), (1, []), ((-6), [(6, (-1))]), (4, [(6, 1)]), ((-1), [(5, 1), (7, (-1))])]))])),
   ([], [(0, ((0, [(6, 1)]), (0, [])))], ([(32, (0, [(7, 1)]))], []), (8, [(6, ((-128), (-6))), (7, ((-1), 5499)), (1, (0, 1026)), (4, (0, 961)), (2, (0, 1))], [((-2), [(0, (-1)), (1, 1)])], 8, [], [], [], [(29, ([1], [(0, [(1, 1)]), (1, [(1, 1)]), (0, [])])), (2, ([1], [(0, [(1, 1)]), (1, [(1, 1)]), (0, [])])), (27, ([0, 2], [(0, []), (0, [(1, 1)])])), (2, ([0], [(0, []), (0, [(1, 1)]), (0, [])])), (3, ([2], [(0, []), (0, [(1, 1)]), (1024, [])])), (3, ([7], [(0, []), (1, [(5, 1)]), (65536, [])])), (2, ([7], [(0, []), (1, [(5, 1)]), (0, [])])), (30, ([6], [(0, []), (0, [(5, 1)])])), (3, ([6], [(0, []), (1, [(5, 1)]), (32768, [])])), (2, ([6], [(0, []), (1, [(5, 1)]), (0, [])])), (31, ([1, 3], [(0, []), (0, [(1, 1)])])), (32, ([1, 3], [(0, []), (0, [(1, 1)])])), (3, ([4], [(0, []), (0, [(5, 1)]), (0, [(4, 1)])])), (3, ([5], [(0, []), (0, [(5, 1)]), (0, [(4, 1)])])), (1, ([], [(0, []), (1, []), ((-6), [(6, (-1))]), (4, [(6, 1)]), (0, [(7, 1)])])), (1, ([], [(0, []), (1, []), ((-6), [(6, (-1))]), (4, [(6, 1)]), ((-1), [(5, 1), (7, (-1))])]))])),
   ([], [(0, ((0, [(6, 1)]), (0, [])))], ([(32, (0, [(7, 1)]))], []), (8, [(6, (53, 184)), (7, ((-1), 5499)), (1, (0, 1026)), (4, (0, 961)), (2, (0, 1))], [((-1), [(0, (-1)), (1, 1)])], 8, [], [], [], [(29, ([1], [(0, [(1, 1)]), (1, [(1, 1)]), (0, [])])), (2, ([1], [(0, [(1, 1)]), (1, [(1, 1)]), (0, [])])), (27, ([0, 2], [(0, []), (0, [(1, 1)])])), (2, ([0], [(0, []), (0, [(1, 1)]), (0, [])])), (3, ([2], [(0, []), (0, [(1, 1)]), (1024, [])])), (3, ([7], [(0, []), (1, [(5, 1)]), (65536, [])])), (2, ([7], [(0, []), (1, [(5, 1)]), (0, [])])), (30, ([6], [(0, []), (0, [(5, 1)])])), (3, ([6], [(0, []), (1, [(5, 1)]), (32768, [])])), (2, ([6], [(0, []), (1, [(5, 1)]), (0, [])])), (31, ([1, 3], [(0, []), (0, [(1, 1)])])), (32, ([1, 3], [(0, []), (0, [(1, 1)])])), (3, ([4], [(0, []), (0, [(5, 1)]), (0, [(4, 1)])])), (3, ([5], [(0, []), (0, [(5, 1)]), (0, [(4, 1)])])), (1, ([], [(0, []), (1, []), ((-6), [(6, (-1))]), (4, [(6, 1)]), (0, [(7, 1)])])), (1, ([], [(0, []), (1, []), ((-6), [(6, (-1))]), (4, [(6, 1)]), ((-1), [(5, 1), (7, (-1))])]))]))], [32])))
def t36 : List qCt := [cq22, cq35]
theorem st38 (l : Launch) {G : rGm} {cc : ByteArray} {nL n fr lo : Nat} {ret : Option FieldType} {Qf : kQf} (hf : 1 ≤ fr) (hlo : 28 ≤ lo) : ySite gAll LAll vwCl rFo rZs rRs rNs rTs G l cc nL RX0 ret fr lo n Qf 182 223 cq35 := ys_V 4 13384 9 rc35 lo_13384 kc9 (m35 l) kGood kw1342 kw734 kw735 kw18 kw732 hdV_X7_find hf hlo
def mt36 : yMt := ([(182, (200, 0)), (182, (223, 1))], ([], ([], [])))
theorem rc36 : yRc cq36 13364 1 = true := by decide +kernel
set_option maxRecDepth 100000 in
def u36 : qCu := []
set_option maxRecDepth 100000 in
theorem z36 : zchk gAll t36 ruI2 ruJ2 rqL b36 u36 cq36 300 [] = true := sorry
theorem yr36 : yRun gAll t36 b36 cq36 := yRun_z gAll_tag ruI2_RtI ruJ2_RtJ rqL_ok z36
theorem zw36 : zwid cq36.2.1.1 cq36.1 0 4 = true := by decide +kernel
set_option maxRecDepth 100000 in
theorem yw36 : yRows gAll LAll yt1 mt36 gHo 4 1 (zby cX0_wordAt) p36 b36 p36 = true := by decide +kernel
set_option maxRecDepth 100000 in
theorem m36 (l : Launch) : kMet gAll LAll vwCl rFo rZs rRs rNs rTs l yX0_wordAt cX0_wordAt 4 (some .int) 1 28 cq36 := kmet_y2 (rt := 1) (by decide +kernel) yr36 zw36 rfl yw36 LAll_ok LAll_la yt1_ok gHo_ok rfl (fun G n Qf => List.forall_mem_cons.mpr ⟨⟨cq22, rfl, st22 l (by decide) (by decide)⟩, List.forall_mem_cons.mpr ⟨⟨cq35, rfl, st38 l (by decide) (by decide)⟩, yA_n⟩⟩) rfl (fun G n Rr => yA_n) rfl
/-! 37 Reader.current ()I -/
set_option maxRecDepth 100000 in
def b37 : qCd := [([(3, 0, 2, 0), (25, 26755, 26795, 0), (3, 0, 2, 0), (24, 26755, 53, 0), (38, 0, 0, 0), (28, 78, 0, 0), (0, 1, 0, 0), (38, 0, 0, 0), (15, 0, 0, 0), (36, 0, 0, 0), (34, 53, 0, 0), (34, 59, 0, 0), (35, 77, 0, 0), (35, 76, 0, 0), (35, 81, 0, 0), (35, 78, 0, 0), (38, 0, 0, 0)], (5, 0, 0, 0, [((-2147483648), 0), (2147483647, 0)]))]
def p37 : List Nat := [0]
set_option maxRecDepth 100000 in
def cq37 : qCt := (1, (([(0, (2, ((26755, []), (0, []))))], [], ([(53, (0, [(0, 1)])), (59, (0, [(1, 1)]))], [(77, 0), (76, 1), (81, 2), (78, 3)]), (2, [(0, (0, 20)), (1, (0, 961))], [], 4, [(0, 77), (1, 76), (2, 81), (3, 78)], [], [], [(3, ([0], [(0, []), (1, [(0, 1)]), (0, [(1, 1)])])), (3, ([3], [(0, []), (1, [(0, 1)]), (0, [(1, 1)])])), (3, ([1], [(0, []), (1, [(0, 1)]), (0, [(1, 1)])])), (2, ([3], [(0, [(0, 1)]), (1, [(0, 1)]), (1, [])]))])), ([([], [(0, ((0, [(2, 1)]), (0, [])))], ([], []), (3, [(2, (0, 1022)), (0, (0, 20)), (1, (0, 961))], [((-1), [(1, 1), (2, (-1))])], 4, [], [], [], [(3, ([0], [(0, []), (1, [(0, 1)]), (0, [(1, 1)])])), (3, ([3], [(0, []), (1, [(0, 1)]), (0, [(1, 1)])])), (3, ([1], [(0, []), (1, [(0, 1)]), (0, [(1, 1)])])), (2, ([3], [(0, [(0, 1)]), (1, [(0, 1)]), (1, [])]))]))], [])))
def t37 : List qCt := []
def mt37 : yMt := ([], ([], ([], [])))
theorem rc37 : yRc cq37 13377 0 = true := by decide +kernel
set_option maxRecDepth 100000 in
def u37 : qCu := []
set_option maxRecDepth 100000 in
theorem z37 : zchk gAll t37 ruI2 ruJ2 rqL b37 u37 cq37 300 [] = true := sorry
theorem yr37 : yRun gAll t37 b37 cq37 := yRun_z gAll_tag ruI2_RtI ruJ2_RtJ rqL_ok z37
theorem zw37 : zwid cq37.2.1.1 cq37.1 0 1 = true := by decide +kernel
set_option maxRecDepth 100000 in
theorem yw37 : yRows gAll LAll yt9 mt37 gHo 1 1 (zby cX8_current) p37 b37 p37 = true := by decide +kernel
set_option maxRecDepth 100000 in
theorem m37 (l : Launch) : kMet gAll LAll vwCl rFo rZs rRs rNs rTs l yX8_current cX8_current 1 (some .int) 0 0 cq37 := kmet_y2 (rt := 1) (by decide +kernel) yr37 zw37 rfl yw37 LAll_ok LAll_la yt9_ok gHo_ok rfl (fun G n Qf => yA_n) rfl (fun G n Rr => yA_n) rfl
/-! 38 Reader.full ()Z -/
set_option maxRecDepth 100000 in
def b38 : qCd := [([(3, 0, 2, 0), (24, 26755, 54, 0), (3, 0, 2, 0), (24, 26755, 53, 0), (38, 0, 0, 0), (14, 0, 0, 0), (36, 0, 0, 0), (0, 20, 0, 0)], (1, 2, 2, 1, [])),
  ([(0, 1, 0, 0)], (0, 0, 3, 0, [])),
  ([(0, 0, 0, 0)], (0, 0, 3, 0, [])),
  ([(34, 53, 0, 0), (34, 54, 0, 0), (34, 59, 0, 0), (35, 77, 0, 0), (35, 76, 0, 0), (35, 81, 0, 0), (35, 78, 0, 0), (38, 0, 0, 0)], (5, 0, 0, 0, [(0, 0), (1, 0)]))]
def p38 : List Nat := [0, 14, 18, 19]
set_option maxRecDepth 100000 in
def cq38 : qCt := (1, (([(0, (2, ((26755, []), (0, []))))], [], ([(53, (0, [(0, 1)])), (54, (0, [(1, 1)])), (59, (0, [(2, 1)]))], [(77, 0), (76, 1), (81, 2), (78, 3)]), (3, [(0, (0, 20)), (1, (0, 20)), (2, (0, 961))], [], 4, [(0, 77), (1, 76), (2, 81), (3, 78)], [], [], [(3, ([0], [(0, []), (1, [(0, 1)]), (0, [(2, 1)])])), (3, ([3], [(0, []), (1, [(0, 1)]), (0, [(2, 1)])])), (3, ([1], [(0, []), (1, [(0, 1)]), (0, [(2, 1)])]))])), ([([], [(0, ((0, [(3, 1)]), (0, [])))], ([], []), (4, [(3, (0, 0)), (1, (0, 20)), (0, (0, 20)), (2, (0, 961))], [(19, [(0, (-1)), (1, (-1))])], 4, [], [], [], [(3, ([0], [(0, []), (1, [(0, 1)]), (0, [(2, 1)])])), (3, ([3], [(0, []), (1, [(0, 1)]), (0, [(2, 1)])])), (3, ([1], [(0, []), (1, [(0, 1)]), (0, [(2, 1)])]))])),
   ([], [(0, ((0, [(3, 1)]), (0, [])))], ([], []), (4, [(3, (1, 1)), (1, (0, 20)), (0, (0, 20)), (2, (0, 961))], [], 4, [], [], [], [(3, ([0], [(0, []), (1, [(0, 1)]), (0, [(2, 1)])])), (3, ([3], [(0, []), (1, [(0, 1)]), (0, [(2, 1)])])), (3, ([1], [(0, []), (1, [(0, 1)]), (0, [(2, 1)])]))]))], [])))
def t38 : List qCt := []
def mt38 : yMt := ([], ([], ([], [])))
theorem rc38 : yRc cq38 13377 0 = true := by decide +kernel
set_option maxRecDepth 100000 in
def u38 : qCu := []
set_option maxRecDepth 100000 in
theorem z38 : zchk gAll t38 ruI2 ruJ2 rqL b38 u38 cq38 300 [0, 0, 1, 0, 0, 1, 0, 1, 0, 1, 2, 1, 0, 1, 0, 1, 2] = true := sorry
theorem yr38 : yRun gAll t38 b38 cq38 := yRun_z gAll_tag ruI2_RtI ruJ2_RtJ rqL_ok z38
theorem zw38 : zwid cq38.2.1.1 cq38.1 0 1 = true := by decide +kernel
set_option maxRecDepth 100000 in
theorem yw38 : yRows gAll LAll yt9 mt38 gHo 1 3 (zby cX8_full) p38 b38 p38 = true := by decide +kernel
set_option maxRecDepth 100000 in
theorem m38 (l : Launch) : kMet gAll LAll vwCl rFo rZs rRs rNs rTs l yX8_full cX8_full 1 (some .boolean) 0 0 cq38 := kmet_y2 (rt := 3) (by decide +kernel) yr38 zw38 rfl yw38 LAll_ok LAll_la yt9_ok gHo_ok rfl (fun G n Qf => yA_n) rfl (fun G n Rr => yA_n) rfl
/-! 39 Reader.misplaced (I)Z -/
set_option maxRecDepth 100000 in
def b39 : qCd := [([(3, 0, 2, 0), (24, 26755, 54, 0), (3, 0, 2, 0), (25, 26755, 26801, 0), (3, 0, 2, 0), (24, 26755, 53, 0), (38, 0, 0, 0), (28, 81, 0, 0)], (1, 5, 2, 1, [])),
  ([(0, 1, 0, 0)], (0, 0, 3, 0, [])),
  ([(0, 0, 0, 0)], (0, 0, 3, 0, [])),
  ([(4, 2, 0, 0), (3, 0, 2, 0), (24, 26755, 53, 0)], (2, 5, 5, 4, [])),
  ([(0, 1, 0, 0)], (0, 0, 6, 0, [])),
  ([(0, 0, 0, 0)], (0, 0, 6, 0, [])),
  ([(4, 3, 0, 0), (3, 3, 0, 0)], (2, 0, 9, 7, [])),
  ([(3, 0, 2, 0), (25, 26755, 26757, 0), (25, 26757, 26763, 0), (3, 0, 2, 0), (34, 53, 0, 0), (34, 59, 0, 0), (35, 77, 0, 0), (35, 76, 0, 0), (35, 81, 0, 0), (35, 78, 0, 0), (38, 0, 0, 0), (33, 0, 0, 0), (0, 1, 0, 0), (38, 0, 0, 0), (14, 0, 0, 0), (36, 0, 0, 0), (38, 0, 0, 0), (28, 62, 0, 0), (3, 0, 2, 0), (25, 26755, 26793, 0), (3, 0, 2, 0), (24, 26755, 53, 0), (38, 0, 0, 0), (28, 77, 0, 0)], (1, 2, 9, 8, [])),
  ([(0, 1, 0, 0)], (0, 0, 10, 0, [])),
  ([(0, 0, 0, 0)], (0, 0, 10, 0, [])),
  ([(4, 4, 0, 0), (3, 1, 0, 0)], (3, 0, 33, 0, [(54, 11), (55, 16), (56, 22), (57, 26), (58, 33), (59, 32)])),
  ([(3, 0, 2, 0), (34, 53, 0, 0), (34, 54, 0, 0), (34, 59, 0, 0), (35, 77, 0, 0), (35, 76, 0, 0), (35, 81, 0, 0), (35, 78, 0, 0), (38, 0, 0, 0), (33, 1, 0, 0)], (2, 1, 13, 12, [])),
  ([(3, 4, 0, 0)], (2, 0, 14, 13, [])),
  ([(0, 1, 0, 0)], (0, 0, 15, 0, [])),
  ([(0, 0, 0, 0)], (0, 0, 15, 0, [])),
  ([(34, 53, 0, 0), (34, 54, 0, 0), (34, 59, 0, 0), (35, 77, 0, 0), (35, 76, 0, 0), (35, 81, 0, 0), (35, 78, 0, 0), (35, 62, 0, 0), (35, 64, 0, 0), (38, 0, 0, 0)], (5, 0, 0, 0, [(0, 0), (1, 0)])),
  ([(3, 2, 0, 0)], (2, 0, 19, 17, [])),
  ([(3, 0, 2, 0), (25, 26755, 26813, 0), (3, 0, 2, 0), (24, 26755, 54, 0), (0, 1, 0, 0), (38, 0, 0, 0), (15, 0, 0, 0), (36, 0, 0, 0), (38, 0, 0, 0), (28, 87, 0, 0)], (2, 1, 19, 18, [])),
  ([(3, 4, 0, 0)], (2, 0, 20, 19, [])),
  ([(0, 1, 0, 0)], (0, 0, 21, 0, [])),
  ([(0, 0, 0, 0)], (0, 0, 21, 0, [])),
  ([(34, 53, 0, 0), (34, 54, 0, 0), (34, 59, 0, 0), (35, 77, 0, 0), (35, 76, 0, 0), (35, 81, 0, 0), (35, 78, 0, 0), (35, 62, 0, 0), (35, 64, 0, 0), (38, 0, 0, 0)], (5, 0, 0, 0, [(0, 0), (1, 0)])),
  ([(3, 2, 0, 0)], (2, 1, 24, 23, [])),
  ([(0, 1, 0, 0)], (0, 0, 25, 0, [])),
  ([(0, 0, 0, 0)], (0, 0, 25, 0, [])),
  ([(34, 53, 0, 0), (34, 54, 0, 0), (34, 59, 0, 0), (35, 77, 0, 0), (35, 76, 0, 0), (35, 81, 0, 0), (35, 78, 0, 0), (35, 62, 0, 0), (35, 64, 0, 0), (38, 0, 0, 0)], (5, 0, 0, 0, [(0, 0), (1, 0)])),
  ([(3, 0, 2, 0), (34, 53, 0, 0), (34, 54, 0, 0), (34, 59, 0, 0), (35, 77, 0, 0), (35, 76, 0, 0), (35, 81, 0, 0), (35, 78, 0, 0), (38, 0, 0, 0), (33, 1, 0, 0)], (2, 1, 29, 27, [])),
  ([(3, 3, 0, 0)], (2, 0, 30, 28, [])),
  ([(3, 0, 2, 0), (25, 26755, 26757, 0), (25, 26757, 26767, 0), (3, 0, 2, 0), (34, 53, 0, 0), (34, 59, 0, 0), (35, 77, 0, 0), (35, 76, 0, 0), (35, 81, 0, 0), (35, 78, 0, 0), (38, 0, 0, 0), (33, 0, 0, 0), (0, 1, 0, 0), (38, 0, 0, 0), (14, 0, 0, 0), (36, 0, 0, 0), (38, 0, 0, 0), (28, 64, 0, 0), (3, 0, 2, 0), (25, 26755, 26793, 0), (3, 0, 2, 0), (24, 26755, 53, 0), (38, 0, 0, 0), (28, 77, 0, 0)], (1, 2, 30, 29, [])),
  ([(0, 1, 0, 0)], (0, 0, 31, 0, [])),
  ([(0, 0, 0, 0)], (0, 0, 31, 0, [])),
  ([(34, 53, 0, 0), (34, 54, 0, 0), (34, 59, 0, 0), (35, 77, 0, 0), (35, 76, 0, 0), (35, 81, 0, 0), (35, 78, 0, 0), (35, 62, 0, 0), (35, 64, 0, 0), (38, 0, 0, 0)], (5, 0, 0, 0, [(0, 0), (1, 0)])),
  ([(3, 3, 0, 0), (34, 53, 0, 0), (34, 54, 0, 0), (34, 59, 0, 0), (35, 77, 0, 0), (35, 76, 0, 0), (35, 81, 0, 0), (35, 78, 0, 0), (35, 62, 0, 0), (35, 64, 0, 0), (38, 0, 0, 0)], (5, 0, 0, 0, [(0, 0), (1, 0)])),
  ([(0, 1, 0, 0), (34, 53, 0, 0), (34, 54, 0, 0), (34, 59, 0, 0), (35, 77, 0, 0), (35, 76, 0, 0), (35, 81, 0, 0), (35, 78, 0, 0), (35, 62, 0, 0), (35, 64, 0, 0), (38, 0, 0, 0)], (5, 0, 0, 0, [(0, 0), (1, 0)]))]
def p39 : List Nat := [0, 16, 20, 21, 29, 33, 34, 39, 65, 69, 70, 112, 119, 124, 128, 129, 130, 134, 148, 153, 157, 158, 159, 163, 167, 168, 169, 176, 180, 206, 210, 211, 212, 214]
set_option maxRecDepth 100000 in
def cq39 : qCt := (2, (([(0, (2, ((26755, []), (0, [])))), (1, (0, ((0, [(0, 1)]), (0, []))))], [], ([(53, (0, [(1, 1)])), (54, (0, [(2, 1)])), (59, (0, [(3, 1)]))], [(77, 0), (76, 1), (81, 2), (78, 3), (62, 4), (64, 5)]), (4, [(0, (54, 60)), (1, (0, 20)), (2, (0, 20)), (3, (0, 961))], [], 6, [(0, 77), (1, 76), (2, 81), (3, 78), (4, 62), (5, 64)], [], [], [(3, ([0], [(0, []), (1, [(1, 1)]), (0, [(3, 1)])])), (3, ([5], [(0, []), (1, [(3, 1)]), (0, [(3, 1)])])), (3, ([3], [(0, []), (1, [(1, 1)]), (0, [(3, 1)])])), (3, ([1], [(0, []), (1, [(1, 1)]), (0, [(3, 1)])])), (2, ([3], [(0, [(1, 1)]), (1, [(1, 1)]), (1, [])]))])), ([([], [(0, ((0, [(4, 1)]), (0, [])))], ([], []), (5, [(4, (1, 1)), (2, (0, 20)), (1, (0, 20)), (3, (0, 961))], [], 6, [], [], [], [(3, ([0], [(0, []), (1, [(1, 1)]), (0, [(3, 1)])])), (3, ([5], [(0, []), (1, [(3, 1)]), (0, [(3, 1)])])), (3, ([3], [(0, []), (1, [(1, 1)]), (0, [(3, 1)])])), (3, ([1], [(0, []), (1, [(1, 1)]), (0, [(3, 1)])])), (2, ([3], [(0, [(1, 1)]), (1, [(1, 1)]), (1, [])]))])),
   ([], [(0, ((0, [(4, 1)]), (0, [])))], ([], []), (5, [(4, (0, 0)), (2, (0, 20)), (1, (0, 20)), (3, (0, 961))], [], 6, [], [], [], [(3, ([0], [(0, []), (1, [(1, 1)]), (0, [(3, 1)])])), (3, ([5], [(0, []), (1, [(3, 1)]), (0, [(3, 1)])])), (3, ([3], [(0, []), (1, [(1, 1)]), (0, [(3, 1)])])), (3, ([1], [(0, []), (1, [(1, 1)]), (0, [(3, 1)])])), (2, ([3], [(0, [(1, 1)]), (1, [(1, 1)]), (1, [])])), (13, ([], [(0, []), (1, []), (54, [(0, (-1))]), ((-57), [(0, 1)]), ((-1), [(2, 1)]), ((-1), [(4, 1)])])), (13, ([], [(0, []), (1, []), (56, [(0, (-1))]), ((-58), [(0, 1)]), (19, [(1, (-1)), (2, (-1))]), ((-1), [(4, 1)])]))]))], [])))
def t39 : List qCt := [cq37, cq38]
theorem hdV_X8_current : yX8_current.cls = RX8 ∧ yX8_current.cls ≠ "java/lang/invoke/MethodHandle" ∧ yX8_current.cls ≠ "java/lang/invoke/VarHandle" ∧ (parseMethodDescriptor yX8_current.desc).map (fun d => d.parameters.length) = some 0 := by decide +kernel
theorem st39 (l : Launch) {G : rGm} {cc : ByteArray} {nL n fr lo : Nat} {ret : Option FieldType} {Qf : kQf} (hf : 1 ≤ fr) (hlo : 20 ≤ lo) : ySite gAll LAll vwCl rFo rZs rRs rNs rTs G l cc nL RX8 ret fr lo n Qf 182 143 cq37 := ys_V 0 13377 10 rc37 lo_13377 kc10 (m37 l) kGood kw2031 kw2032 kw2033 kw167 kw2026 hdV_X8_current hf hlo
theorem hdV_X8_full : yX8_full.cls = RX8 ∧ yX8_full.cls ≠ "java/lang/invoke/MethodHandle" ∧ yX8_full.cls ≠ "java/lang/invoke/VarHandle" ∧ (parseMethodDescriptor yX8_full.desc).map (fun d => d.parameters.length) = some 0 := by decide +kernel
theorem st40 (l : Launch) {G : rGm} {cc : ByteArray} {nL n fr lo : Nat} {ret : Option FieldType} {Qf : kQf} (hf : 1 ≤ fr) (hlo : 20 ≤ lo) : ySite gAll LAll vwCl rFo rZs rRs rNs rTs G l cc nL RX8 ret fr lo n Qf 182 147 cq38 := ys_V 0 13377 10 rc38 lo_13377 kc10 (m38 l) kGood kw2034 kw2035 kw2036 kw167 kw2027 hdV_X8_full hf hlo
set_option maxRecDepth 100000 in
theorem w39_0 : decode cX8_misplaced 73 = .ok (.tableswitch 141 54 59 #[39, 57, 86, 96, 141, 139], 39) := by decide +kernel
def mt39 : yMt := ([(182, (143, 0)), (182, (147, 1))], ([], ([(73, (3, (0, (33, (0, [(54, 11), (55, 16), (56, 22), (57, 26), (58, 33), (59, 32)])))))], [])))
theorem rc39 : yRc cq39 13377 1 = true := by decide +kernel
set_option maxRecDepth 100000 in
def u39 : qCu := []
set_option maxRecDepth 100000 in
theorem z39 : zchk gAll t39 ruI2 ruJ2 rqL b39 u39 cq39 300 [] = true := sorry
theorem yr39 : yRun gAll t39 b39 cq39 := yRun_z gAll_tag ruI2_RtI ruJ2_RtJ rqL_ok z39
theorem zw39 : zwid cq39.2.1.1 cq39.1 0 5 = true := by decide +kernel
set_option maxRecDepth 100000 in
theorem yw39 : yRows gAll LAll yt9 mt39 gHo 5 3 (zby cX8_misplaced) p39 b39 p39 = true := by decide +kernel
set_option maxRecDepth 100000 in
theorem m39 (l : Launch) : kMet gAll LAll vwCl rFo rZs rRs rNs rTs l yX8_misplaced cX8_misplaced 5 (some .boolean) 1 20 cq39 := kmet_y2 (rt := 3) (by decide +kernel) yr39 zw39 rfl yw39 LAll_ok LAll_la yt9_ok gHo_ok rfl (fun G n Qf => List.forall_mem_cons.mpr ⟨⟨cq37, rfl, st39 l (by decide) (by decide)⟩, List.forall_mem_cons.mpr ⟨⟨cq38, rfl, st40 l (by decide) (by decide)⟩, yA_n⟩⟩) rfl (fun G n Rr => List.forall_mem_cons.mpr ⟨k_table _ p39 (fun b t hb ls st s h => kV_at hb h) w39_0 (by decide +kernel) (by decide +kernel) rfl rfl, yA_n⟩) rfl
/-! 40 java/util/Arrays.rangeCheck (III)V -/
set_option maxRecDepth 100000 in
def b40 : qCd := [([(3, 1, 0, 0), (3, 2, 0, 0)], (1, 5, 2, 1, [])),
  ([], (6, 0, 0, 0, [])),
  ([(3, 1, 0, 0)], (2, 3, 4, 3, [])),
  ([], (6, 0, 0, 0, [])),
  ([(3, 2, 0, 0), (3, 0, 0, 0)], (1, 5, 6, 5, [])),
  ([], (6, 0, 0, 0, [])),
  ([(38, 0, 0, 0)], (4, 0, 0, 0, []))]
def p40 : List Nat := [0, 5, 46, 50, 59, 64, 73]
set_option maxRecDepth 100000 in
def cq40 : qCt := (3, (([(0, (0, ((0, [(0, 1)]), (0, [])))), (1, (0, ((0, [(1, 1)]), (0, [])))), (2, (0, ((0, [(2, 1)]), (0, []))))], [], ([], []), (3, [(0, ((-2147483648), 2147483647)), (1, (0, 2147483647)), (2, ((-2147483648), 2147483647))], [(0, [(1, (-1)), (2, 1)]), (0, [(0, 1), (2, (-1))])], 0, [], [], [], [])), ([([], [], ([], []), (3, [], [], 0, [], [], [], []))], [])))
def t40 : List qCt := []
def mt40 : yMt := ([], ([], ([], [])))
set_option maxRecDepth 100000 in
def u40 : qCu := []
set_option maxRecDepth 100000 in
theorem z40 : zchk gAll t40 ruI2 ruJ2 rqL b40 u40 cq40 300 [] = true := sorry
theorem yr40 : yRun gAll t40 b40 cq40 := yRun_z gAll_tag ruI2_RtI ruJ2_RtJ rqL_ok z40
theorem zw40 : zwid cq40.2.1.1 cq40.1 0 3 = true := by decide +kernel
set_option maxRecDepth 100000 in
theorem yw40 : yRows gAll LAll yt17 mt40 gHo 3 0 (zby cJ7_rangeCheck_23922) p40 b40 p40 = true := by decide +kernel
set_option maxRecDepth 100000 in
theorem m40 (l : Launch) : kMet gAll LAll vwCl rFo rZs rRs rNs rTs l yJ7_rangeCheck_23922 cJ7_rangeCheck_23922 3 none 0 0 cq40 := kmet_y2 (rt := 0) (by decide +kernel) yr40 zw40 rfl yw40 LAll_ok LAll_la yt17_ok gHo_ok rfl (fun G n Qf => yA_n) rfl (fun G n Rr => yA_n) rfl
/-! 41 java/util/Arrays.fill/argumentFrom ([IIII)V -/
set_option maxRecDepth 100000 in
def b41 : qCd := [([(3, 0, 2, 0), (38, 0, 0, 0), (30, 85, 0, 0), (3, 1, 0, 0), (3, 2, 0, 0), (38, 0, 0, 0), (33, 0, 0, 0), (3, 1, 0, 0), (4, 4, 0, 0), (35, 85, 0, 0), (40, 4, 0, 0), (38, 0, 0, 0)], (0, 0, 1, 0, [])),
  ([(3, 4, 0, 0), (36, 0, 0, 0), (3, 2, 0, 0)], (1, 3, 3, 2, [])),
  ([(3, 0, 2, 0), (3, 4, 0, 0), (36, 0, 0, 0), (3, 3, 0, 0), (38, 0, 0, 0), (29, 85, 0, 0), (5, 4, 1, 0), (35, 85, 0, 0), (40, 4, 0, 0), (38, 0, 0, 0)], (0, 0, 1, 0, [])),
  ([(35, 85, 0, 0), (38, 0, 0, 0)], (4, 0, 0, 0, []))]
def p41 : List Nat := [0, 10, 16, 27]
set_option maxRecDepth 100000 in
def cq41 : qCt := (4, (([(0, (2, ((26809, []), (0, [])))), (1, (0, ((0, [(0, 1)]), (0, [])))), (2, (0, ((0, [(1, 1)]), (0, [])))), (3, (0, ((0, [(2, 1)]), (0, []))))], [], ([], [(85, 0)]), (3, [(0, (0, 2147483647)), (1, ((-2147483648), 10752)), (2, (0, 21504))], [(0, [(0, (-1)), (1, 1)])], 1, [(0, 85)], [], [], [])), ([([], [], ([], [(85, 1)]), (3, [], [], 2, [(1, 85)], [], [], []))], [85])))
def t41 : List qCt := [cq40]
theorem hdS_J7_rangeCheck_23922 : yJ7_rangeCheck_23922.cls ≠ "java/lang/invoke/MethodHandle" ∧ yJ7_rangeCheck_23922.cls ≠ "java/lang/invoke/VarHandle" ∧ (parseMethodDescriptor yJ7_rangeCheck_23922.desc).map (fun d => d.parameters.length) = some 3 := by decide +kernel
theorem st41 (l : Launch) {G : rGm} {cc : ByteArray} {nL n fr lo : Nat} {ret : Option FieldType} {Qf : kQf} (hf : 1 ≤ fr) (hlo : 22 ≤ lo) : ySite gAll LAll vwCl rFo rZs rRs rNs rTs G l cc nL RJ7 ret fr lo n Qf 184 13 cq40 := ys_S 3 rfl (m40 l) kGood kw645 kw646 kw13 kw644 hdS_J7_rangeCheck_23922 hf hlo
def mt41 : yMt := ([(184, (13, 0))], ([], ([], [])))
set_option maxRecDepth 100000 in
def u41_0 : Nat × (qS × (qL × (qL × qL))) := (1, (([(0, (2, ((26809, []), (0, [])))), (2, (0, ((0, [(1, 1)]), (0, [])))), (3, (0, ((0, [(2, 1)]), (0, [])))), (4, (0, ((0, [(3, 1)]), (0, []))))], [], ([], [(85, 1)]), (4, [(0, (0, 2147483647)), (1, ((-2147483648), 10752)), (2, (0, 21504)), (3, ((-2147483648), 2147483647))], [(0, [(0, (-1)), (3, 1)]), (0, [(1, 1), (3, (-1))])], 2, [(1, 85)], [], [], [])), ((0, []), ((274877906880, [(1, 64), (3, (-64))]), (0, [])))))
def u41 : qCu := [u41_0]
set_option maxRecDepth 100000 in
theorem z41_s : zsm (zblk gAll cq41.2.2.2 t41 ruI2 ruJ2 rqL b41 cq41 (zrun gAll cq41.2.2.2 t41 ruI2 ruJ2 rqL b41 u41 cq41 none 300) 0 cq41.2.1 [0, 0, 1, 0, 1, 0, 0, 1, 0, 1]) = true := sorry
set_option maxRecDepth 100000 in
theorem z41_0 : zsm (zfrom gAll cq41.2.2.2 t41 ruI2 ruJ2 rqL b41 u41 cq41 300 u41_0 []) = true := sorry
theorem yr41 : yRun gAll t41 b41 cq41 := yRun_p (cuts := u41) (fuel := 300) gAll_tag ruI2_RtI ruJ2_RtJ rqL_ok ⟨zsm_e _ z41_s, List.forall_mem_cons.mpr ⟨zsm_e _ z41_0, yA_n⟩⟩
theorem zw41 : zwid cq41.2.1.1 cq41.1 0 5 = true := by decide +kernel
set_option maxRecDepth 100000 in
theorem yw41 : yRows gAll LAll yt17 mt41 gHo 5 0 (zby cJ7_fill_fda19) p41 b41 p41 = true := by decide +kernel
set_option maxRecDepth 100000 in
theorem m41 (l : Launch) : kMet gAll LAll vwCl rFo rZs rRs rNs rTs l yJ7_fill_fda19 cJ7_fill_fda19 5 none 1 22 cq41 := kmet_y2 (rt := 0) (by decide +kernel) yr41 zw41 rfl yw41 LAll_ok LAll_la yt17_ok gHo_ok rfl (fun G n Qf => List.forall_mem_cons.mpr ⟨⟨cq40, rfl, st41 l (by decide) (by decide)⟩, yA_n⟩) rfl (fun G n Rr => yA_n) rfl
/-! 42 java/util/Arrays.fill/argumentTo ([IIII)V -/
set_option maxRecDepth 100000 in
def b42 : qCd := [([(3, 0, 2, 0), (38, 0, 0, 0), (30, 86, 0, 0), (3, 1, 0, 0), (3, 2, 0, 0), (38, 0, 0, 0), (33, 0, 0, 0), (3, 1, 0, 0), (4, 4, 0, 0), (35, 86, 0, 0), (40, 4, 0, 0), (38, 0, 0, 0)], (0, 0, 1, 0, [])),
  ([(3, 4, 0, 0), (36, 0, 0, 0), (3, 2, 0, 0)], (1, 3, 3, 2, [])),
  ([(3, 0, 2, 0), (3, 4, 0, 0), (36, 0, 0, 0), (3, 3, 0, 0), (38, 0, 0, 0), (29, 86, 0, 0), (5, 4, 1, 0), (35, 86, 0, 0), (40, 4, 0, 0), (38, 0, 0, 0)], (0, 0, 1, 0, [])),
  ([(35, 86, 0, 0), (38, 0, 0, 0)], (4, 0, 0, 0, []))]
def p42 : List Nat := [0, 10, 16, 27]
set_option maxRecDepth 100000 in
def cq42 : qCt := (4, (([(0, (2, ((26811, []), (0, [])))), (1, (0, ((0, [(0, 1)]), (0, [])))), (2, (0, ((0, [(1, 1)]), (0, [])))), (3, (0, ((0, [(2, 1)]), (0, []))))], [], ([], [(86, 0)]), (3, [(0, (0, 2147483647)), (1, ((-2147483648), 10752)), (2, (0, 21504))], [(0, [(0, (-1)), (1, 1)])], 1, [(0, 86)], [], [], [])), ([([], [], ([], [(86, 1)]), (3, [], [], 2, [(1, 86)], [], [], []))], [86])))
def t42 : List qCt := [cq40]
def mt42 : yMt := ([(184, (13, 0))], ([], ([], [])))
set_option maxRecDepth 100000 in
def u42_0 : Nat × (qS × (qL × (qL × qL))) := (1, (([(0, (2, ((26811, []), (0, [])))), (2, (0, ((0, [(1, 1)]), (0, [])))), (3, (0, ((0, [(2, 1)]), (0, [])))), (4, (0, ((0, [(3, 1)]), (0, []))))], [], ([], [(86, 1)]), (4, [(0, (0, 2147483647)), (1, ((-2147483648), 10752)), (2, (0, 21504)), (3, ((-2147483648), 2147483647))], [(0, [(0, (-1)), (3, 1)]), (0, [(1, 1), (3, (-1))])], 2, [(1, 86)], [], [], [])), ((0, []), ((274877906880, [(1, 64), (3, (-64))]), (0, [])))))
def u42 : qCu := [u42_0]
set_option maxRecDepth 100000 in
theorem z42_s : zsm (zblk gAll cq42.2.2.2 t42 ruI2 ruJ2 rqL b42 cq42 (zrun gAll cq42.2.2.2 t42 ruI2 ruJ2 rqL b42 u42 cq42 none 300) 0 cq42.2.1 [0, 0, 1, 0, 1, 0, 0, 1, 0, 1]) = true := sorry
set_option maxRecDepth 100000 in
theorem z42_0 : zsm (zfrom gAll cq42.2.2.2 t42 ruI2 ruJ2 rqL b42 u42 cq42 300 u42_0 []) = true := sorry
theorem yr42 : yRun gAll t42 b42 cq42 := yRun_p (cuts := u42) (fuel := 300) gAll_tag ruI2_RtI ruJ2_RtJ rqL_ok ⟨zsm_e _ z42_s, List.forall_mem_cons.mpr ⟨zsm_e _ z42_0, yA_n⟩⟩
theorem zw42 : zwid cq42.2.1.1 cq42.1 0 5 = true := by decide +kernel
set_option maxRecDepth 100000 in
theorem yw42 : yRows gAll LAll yt17 mt42 gHo 5 0 (zby cJ7_fill_fda19) p42 b42 p42 = true := by decide +kernel
set_option maxRecDepth 100000 in
theorem m42 (l : Launch) : kMet gAll LAll vwCl rFo rZs rRs rNs rTs l yJ7_fill_fda19 cJ7_fill_fda19 5 none 1 22 cq42 := kmet_y2 (rt := 0) (by decide +kernel) yr42 zw42 rfl yw42 LAll_ok LAll_la yt17_ok gHo_ok rfl (fun G n Qf => List.forall_mem_cons.mpr ⟨⟨cq40, rfl, st41 l (by decide) (by decide)⟩, yA_n⟩) rfl (fun G n Rr => yA_n) rfl
/-! 43 Reader.split (III)I -/
set_option maxRecDepth 100000 in
def b43 : qCd := [([(3, 2, 0, 0), (0, 1024, 0, 0), (16, 0, 0, 0), (36, 0, 0, 0), (4, 4, 0, 0), (3, 0, 2, 0), (25, 26755, 26731, 0), (25, 26731, 26733, 0), (0, 0, 0, 0), (3, 0, 2, 0), (25, 26755, 26807, 0), (3, 4, 0, 0), (3, 0, 2, 0), (25, 26755, 26731, 0), (24, 26731, 38, 0), (38, 0, 0, 0), (33, 2, 0, 0), (3, 2, 0, 0), (0, 512, 0, 0), (16, 0, 0, 0), (36, 0, 0, 0), (4, 5, 0, 0), (3, 0, 2, 0), (25, 26755, 26809, 0), (3, 5, 0, 0), (3, 5, 0, 0), (3, 3, 0, 0), (38, 0, 0, 0), (14, 0, 0, 0), (36, 0, 0, 0), (0, 0, 0, 0), (35, 85, 0, 0), (38, 0, 0, 0), (33, 0, 0, 0), (3, 0, 2, 0), (25, 26755, 26811, 0), (3, 5, 0, 0), (3, 5, 0, 0), (3, 3, 0, 0), (38, 0, 0, 0), (14, 0, 0, 0), (36, 0, 0, 0), (0, 0, 0, 0), (35, 86, 0, 0), (38, 0, 0, 0), (33, 1, 0, 0), (3, 0, 2, 0), (25, 26755, 26731, 0), (25, 26731, 26747, 0), (3, 1, 0, 0), (38, 0, 0, 0), (28, 49, 0, 0)], (2, 1, 2, 1, [])),
  ([(0, 0, 0, 0), (34, 39, 0, 0), (34, 38, 0, 0), (35, 51, 0, 0), (35, 49, 0, 0), (35, 52, 0, 0), (35, 50, 0, 0), (38, 0, 0, 0)], (5, 0, 0, 0, [((-2147483648), 0), (2147483647, 0)])),
  ([(0, 1, 0, 0), (4, 6, 0, 0), (0, 0, 0, 0), (4, 7, 0, 0), (0, 0, 0, 0), (4, 8, 0, 0), (3, 1, 0, 0), (4, 9, 0, 0), (34, 39, 0, 0), (34, 38, 0, 0), (35, 51, 0, 0), (35, 49, 0, 0), (35, 52, 0, 0), (35, 50, 0, 0), (40, 6, 0, 0), (40, 9, 0, 0), (38, 0, 0, 0)], (0, 0, 3, 0, [])),
  ([(3, 9, 0, 0), (36, 0, 0, 0), (3, 0, 2, 0), (25, 26755, 26731, 0), (24, 26731, 39, 0)], (1, 3, 21, 4, [])),
  ([(3, 0, 2, 0), (25, 26755, 26731, 0), (25, 26731, 26747, 0), (3, 9, 0, 0), (36, 0, 0, 0), (38, 0, 0, 0), (28, 49, 0, 0), (4, 10, 0, 0), (3, 10, 0, 0), (0, 44, 0, 0)], (1, 1, 7, 5, [])),
  ([(3, 7, 0, 0)], (2, 1, 7, 6, [])),
  ([(5, 6, 1, 0), (0, 0, 0, 0), (4, 8, 0, 0)], (0, 0, 20, 0, [])),
  ([(3, 7, 0, 0), (3, 10, 0, 0), (0, 40, 0, 0)], (1, 0, 9, 8, [])),
  ([(3, 10, 0, 0), (0, 91, 0, 0)], (1, 1, 10, 9, [])),
  ([(0, 1, 0, 0)], (0, 0, 15, 0, [])),
  ([(3, 10, 0, 0), (0, 41, 0, 0)], (1, 0, 12, 11, [])),
  ([(3, 10, 0, 0), (0, 93, 0, 0)], (1, 1, 14, 12, [])),
  ([(3, 7, 0, 0)], (2, 5, 14, 13, [])),
  ([(0, (-1), 0, 0)], (0, 0, 15, 0, [])),
  ([(0, 0, 0, 0)], (0, 0, 15, 0, [])),
  ([(38, 0, 0, 0), (14, 0, 0, 0), (36, 0, 0, 0), (4, 7, 0, 0), (3, 6, 0, 0), (36, 0, 0, 0), (3, 3, 0, 0)], (1, 4, 19, 16, [])),
  ([(3, 8, 0, 0)], (2, 1, 18, 17, [])),
  ([(3, 0, 2, 0), (25, 26755, 26809, 0), (3, 5, 0, 0), (3, 6, 0, 0), (36, 0, 0, 0), (38, 0, 0, 0), (14, 0, 0, 0), (36, 0, 0, 0), (0, 1, 0, 0), (38, 0, 0, 0), (15, 0, 0, 0), (36, 0, 0, 0), (3, 4, 0, 0), (3, 0, 2, 0), (25, 26755, 26731, 0), (25, 26731, 26751, 0), (3, 9, 0, 0), (36, 0, 0, 0), (38, 0, 0, 0), (28, 51, 0, 0), (38, 0, 0, 0), (14, 0, 0, 0), (36, 0, 0, 0), (38, 0, 0, 0), (29, 85, 0, 0)], (0, 0, 18, 0, [])),
  ([(3, 0, 2, 0), (25, 26755, 26811, 0), (3, 5, 0, 0), (3, 6, 0, 0), (36, 0, 0, 0), (38, 0, 0, 0), (14, 0, 0, 0), (36, 0, 0, 0), (0, 1, 0, 0), (38, 0, 0, 0), (15, 0, 0, 0), (36, 0, 0, 0), (3, 4, 0, 0), (3, 0, 2, 0), (25, 26755, 26731, 0), (25, 26731, 26753, 0), (3, 9, 0, 0), (36, 0, 0, 0), (38, 0, 0, 0), (28, 52, 0, 0), (38, 0, 0, 0), (14, 0, 0, 0), (36, 0, 0, 0), (38, 0, 0, 0), (29, 86, 0, 0)], (0, 0, 19, 0, [])),
  ([(0, 1, 0, 0), (4, 8, 0, 0)], (0, 0, 20, 0, [])),
  ([(5, 9, 1, 0), (34, 39, 0, 0), (34, 38, 0, 0), (35, 51, 0, 0), (35, 49, 0, 0), (35, 52, 0, 0), (35, 50, 0, 0), (40, 6, 0, 0), (40, 9, 0, 0), (38, 0, 0, 0)], (0, 0, 3, 0, [])),
  ([(3, 6, 0, 0), (36, 0, 0, 0), (34, 39, 0, 0), (34, 38, 0, 0), (35, 51, 0, 0), (35, 49, 0, 0), (35, 52, 0, 0), (35, 50, 0, 0), (38, 0, 0, 0)], (5, 0, 0, 0, [((-2147483648), 0), (2147483647, 0)]))]
def p43 : List Nat := [0, 78, 80, 92, 104, 123, 128, 137, 146, 153, 157, 164, 171, 176, 180, 181, 190, 195, 220, 245, 248, 254]
set_option maxRecDepth 100000 in
def cq43 : qCt := (4, (([(0, (2, ((26755, []), (0, [])))), (1, (0, ((0, [(0, 1)]), (0, [])))), (2, (0, ((0, [(1, 1)]), (0, [])))), (3, (0, ((0, [(2, 1)]), (0, []))))], [], ([(39, (0, [(3, 1)])), (38, (0, [(4, 1)]))], [(51, 0), (49, 1), (52, 2), (50, 3)]), (5, [(0, (1, 1026)), (1, (1, 20)), (2, (0, 512)), (3, (0, 1024)), (4, (0, 1024))], [(0, [(0, (-1)), (3, 1)])], 4, [(0, 51), (1, 49), (2, 52), (3, 50)], [], [], [(29, ([1], [(0, [(3, 1)]), (1, [(3, 1)]), (0, [])])), (2, ([1], [(0, [(3, 1)]), (1, [(3, 1)]), (0, [])])), (27, ([0, 2], [(0, []), (0, [(3, 1)])])), (2, ([0], [(0, []), (0, [(3, 1)]), (0, [])])), (3, ([2], [(0, []), (0, [(3, 1)]), (1024, [])])), (31, ([1, 3], [(0, []), (0, [(3, 1)])])), (32, ([1, 3], [(0, []), (0, [(3, 1)])]))])), ([([], [(0, ((0, [(5, 1)]), (0, [])))], ([], []), (6, [(5, (0, 2147483647)), (3, (0, 1026))], [], 4, [], [], [], [(29, ([1], [(0, [(3, 1)]), (1, [(3, 1)]), (0, [])])), (2, ([1], [(0, [(3, 1)]), (1, [(3, 1)]), (0, [])])), (27, ([0, 2], [(0, []), (0, [(3, 1)])])), (2, ([0], [(0, []), (0, [(3, 1)]), (0, [])])), (3, ([2], [(0, []), (0, [(3, 1)]), (1024, [])])), (31, ([1, 3], [(0, []), (0, [(3, 1)])])), (32, ([1, 3], [(0, []), (0, [(3, 1)])]))])),
   ([], [(0, ((0, [(5, 1)]), (0, [])))], ([], []), (6, [(5, ((-2147483648), 2147483647)), (3, (0, 1026))], [], 4, [], [], [], [(29, ([1], [(0, [(3, 1)]), (1, [(3, 1)]), (0, [])])), (2, ([1], [(0, [(3, 1)]), (1, [(3, 1)]), (0, [])])), (27, ([0, 2], [(0, []), (0, [(3, 1)])])), (2, ([0], [(0, []), (0, [(3, 1)]), (0, [])])), (3, ([2], [(0, []), (0, [(3, 1)]), (1024, [])])), (31, ([1, 3], [(0, []), (0, [(3, 1)])])), (32, ([1, 3], [(0, []), (0, [(3, 1)])]))]))], [84, 85, 86])))
def cA4 : qCt := (5, (([(0, (2, ((26733, [(3, 2)]), (0, [])))), (1, (0, ((0, [(0, 1)]), (0, [])))), (2, (2, ((26807, [(4, 2)]), (0, [])))), (3, (0, ((0, [(1, 1)]), (0, [])))), (4, (0, ((0, [(2, 1)]), (0, []))))], [], ([], []), (5, [(0, (0, 1024)), (1, (0, 21504)), (2, (0, 21504)), (3, (0, 0)), (4, (0, 0))], [(1024, [(0, (-1)), (2, (-1))]), (21504, [(1, (-1)), (2, (-1))])], 0, [], [], [], [])), ([([], [], ([], []), (5, [], [], 0, [], [], [], []))], [84])))
theorem cA4_e : cA4 = cpC 26733 1 1024 (2 * ((13403 : Nat) : Int) + 1) 1 21504 84 := by rfl
theorem sA4 {own : String} {ix : Nat} (l : Launch) {G : rGm} {cc : ByteArray} {nL n fr lo : Nat} {ret : Option FieldType} {Qf : kQf} (w1 : Cond.methodLink own ix arraycopyName ∈ rTs) (hf : 1 ≤ fr) (hlo : 26 ≤ lo) : ySite gAll LAll vwCl rFo rZs rRs rNs rTs G l cc nL own ret fr lo n Qf 184 ix cA4 := by
  rw [cA4_e]
  exact ys_A (t := 2) (c1 := ((-128), 127)) (c2 := ((-128), 127)) LAll_ok (Or.inl ⟨13366, _, List.mem_of_getElem? (i := 16) rfl, rfl⟩) rfl (List.mem_of_getElem? (i := 49) rfl) rfl (by decide) (fun z h1 h2 => y_fb ⟨Int.le_trans (by decide) h1, Int.le_trans h2 (by decide)⟩) w1 kw62 kw63 kw64 hf (Nat.le_trans (by decide +kernel) hlo)
def t43 : List qCt := [cq41, cq42, cA4]
theorem hdS_J7_fill_fda19 : yJ7_fill_fda19.cls ≠ "java/lang/invoke/MethodHandle" ∧ yJ7_fill_fda19.cls ≠ "java/lang/invoke/VarHandle" ∧ (parseMethodDescriptor yJ7_fill_fda19.desc).map (fun d => d.parameters.length) = some 4 := by decide +kernel
theorem st42 (l : Launch) {G : rGm} {cc : ByteArray} {nL n fr lo : Nat} {ret : Option FieldType} {Qf : kQf} (hf : 2 ≤ fr) (hlo : 46 ≤ lo) : ySite gAll LAll vwCl rFo rZs rRs rNs rTs G l cc nL RX8 ret fr lo n Qf 184 194 cq41 := ys_S 4 rfl (m41 l) kGood kw2083 kw1744 kw13 kw1745 hdS_J7_fill_fda19 hf hlo
theorem st43 (l : Launch) {G : rGm} {cc : ByteArray} {nL n fr lo : Nat} {ret : Option FieldType} {Qf : kQf} (hf : 2 ≤ fr) (hlo : 46 ≤ lo) : ySite gAll LAll vwCl rFo rZs rRs rNs rTs G l cc nL RX8 ret fr lo n Qf 184 194 cq42 := ys_S 4 rfl (m42 l) kGood kw2083 kw1744 kw13 kw1745 hdS_J7_fill_fda19 hf hlo
def mt43 : yMt := ([(184, (194, 0)), (184, (194, 1)), (184, (109, 2))], ([], ([], [])))
theorem rc43 : yRc cq43 13377 3 = true := by decide +kernel
set_option maxRecDepth 100000 in
def u43_0 : Nat × (qS × (qL × (qL × qL))) := (3, (([(0, (2, ((26755, []), (0, [])))), (3, (0, ((0, [(2, 1)]), (0, [])))), (4, (0, ((0, [(5, 1)]), (0, [])))), (5, (0, ((0, [(6, 1)]), (0, [])))), (6, (0, ((0, [(7, 1)]), (0, [])))), (7, (0, ((0, [(8, 1)]), (0, [])))), (8, (0, ((0, [(9, 1)]), (0, [])))), (9, (0, ((0, [(10, 1)]), (0, []))))], [], ([(39, (0, [(3, 1)])), (38, (0, [(4, 1)]))], [(51, 0), (49, 1), (52, 2), (50, 3)]), (11, [(0, (1, 2147483647)), (1, (0, 20)), (2, (0, 512)), (3, (0, 1024)), (4, (0, 1025)), (5, (1024, 20480)), (6, (512, 10240)), (7, (1, 2147483647)), (8, (0, 2147483647)), (9, (0, 1)), (10, (1, 1025))], [(0, [(0, (-1)), (3, 1)]), (1, [(7, (-1)), (10, 1)]), (0, [(8, (-1)), (10, 1)])], 4, [], [], [], [(29, ([1], [(0, [(3, 1)]), (1, [(3, 1)]), (0, [])])), (2, ([1], [(0, [(3, 1)]), (1, [(3, 1)]), (0, [])])), (27, ([0, 2], [(0, []), (0, [(3, 1)])])), (2, ([0], [(0, []), (0, [(3, 1)]), (0, [])])), (3, ([2], [(0, []), (0, [(3, 1)]), (1024, [])])), (31, ([1, 3], [(0, []), (0, [(3, 1)])])), (32, ([1, 3], [(0, []), (0, [(3, 1)])]))])), ((0, []), ((65600, [(3, 64), (10, (-64))]), (0, [])))))
def u43 : qCu := [u43_0]
set_option maxRecDepth 100000 in
theorem z43_s : zsm (zblk gAll cq43.2.2.2 t43 ruI2 ruJ2 rqL b43 cq43 (zrun gAll cq43.2.2.2 t43 ruI2 ruJ2 rqL b43 u43 cq43 none 300) 0 cq43.2.1 []) = true := sorry
set_option maxRecDepth 100000 in
theorem z43_0 : zsm (zfrom gAll cq43.2.2.2 t43 ruI2 ruJ2 rqL b43 u43 cq43 300 u43_0 []) = true := sorry
theorem yr43 : yRun gAll t43 b43 cq43 := yRun_p (cuts := u43) (fuel := 300) gAll_tag ruI2_RtI ruJ2_RtJ rqL_ok ⟨zsm_e _ z43_s, List.forall_mem_cons.mpr ⟨zsm_e _ z43_0, yA_n⟩⟩
theorem zw43 : zwid cq43.2.1.1 cq43.1 0 11 = true := by decide +kernel
set_option maxRecDepth 100000 in
theorem yw43 : yRows gAll LAll yt9 mt43 gHo 11 1 (zby cX8_split) p43 b43 p43 = true := by decide +kernel
set_option maxRecDepth 100000 in
theorem m43 (l : Launch) : kMet gAll LAll vwCl rFo rZs rRs rNs rTs l yX8_split cX8_split 11 (some .int) 2 46 cq43 := kmet_y2 (rt := 1) (by decide +kernel) yr43 zw43 rfl yw43 LAll_ok LAll_la yt9_ok gHo_ok rfl (fun G n Qf => List.forall_mem_cons.mpr ⟨⟨cq41, rfl, st42 l (by decide) (by decide)⟩, List.forall_mem_cons.mpr ⟨⟨cq42, rfl, st43 l (by decide) (by decide)⟩, List.forall_mem_cons.mpr ⟨⟨cA4, rfl, sA4 l kw2025 (by decide) (by decide)⟩, yA_n⟩⟩⟩) rfl (fun G n Rr => yA_n) rfl
/-! 44 Reader.overused (II)Z -/
set_option maxRecDepth 100000 in
def b44 : qCd := [([(3, 0, 2, 0), (34, 53, 0, 0), (34, 54, 0, 0), (34, 59, 0, 0), (35, 77, 0, 0), (35, 76, 0, 0), (35, 81, 0, 0), (35, 78, 0, 0), (38, 0, 0, 0), (33, 0, 0, 0)], (2, 0, 2, 1, [])),
  ([(0, 1, 0, 0), (34, 39, 0, 0), (34, 38, 0, 0), (34, 53, 0, 0), (34, 54, 0, 0), (34, 59, 0, 0), (34, 65, 0, 0), (35, 51, 0, 0), (35, 49, 0, 0), (35, 52, 0, 0), (35, 50, 0, 0), (35, 77, 0, 0), (35, 76, 0, 0), (35, 81, 0, 0), (35, 78, 0, 0), (35, 73, 0, 0), (38, 0, 0, 0)], (5, 0, 0, 0, [(0, 0), (1, 0)])),
  ([(3, 0, 2, 0), (25, 26755, 26757, 0), (25, 26757, 26785, 0), (3, 1, 0, 0), (0, 1, 0, 0), (38, 0, 0, 0), (14, 0, 0, 0), (36, 0, 0, 0), (38, 0, 0, 0), (28, 73, 0, 0), (3, 0, 2, 0), (25, 26755, 26757, 0), (25, 26757, 26785, 0), (3, 1, 0, 0), (38, 0, 0, 0), (28, 73, 0, 0), (38, 0, 0, 0), (15, 0, 0, 0), (36, 0, 0, 0), (0, 512, 0, 0), (38, 0, 0, 0), (33, 1, 0, 0), (4, 3, 0, 0), (3, 0, 2, 0), (3, 2, 0, 0), (0, 1, 0, 0), (38, 0, 0, 0), (14, 0, 0, 0), (36, 0, 0, 0), (3, 0, 2, 0), (24, 26755, 53, 0), (0, 1, 0, 0), (38, 0, 0, 0), (14, 0, 0, 0), (36, 0, 0, 0), (3, 3, 0, 0), (34, 39, 0, 0), (34, 38, 0, 0), (35, 51, 0, 0), (35, 49, 0, 0), (35, 52, 0, 0), (35, 50, 0, 0), (38, 0, 0, 0), (33, 2, 0, 0), (3, 3, 0, 0)], (1, 5, 4, 3, [])),
  ([(0, 1, 0, 0)], (0, 0, 5, 0, [])),
  ([(0, 0, 0, 0)], (0, 0, 5, 0, [])),
  ([(34, 39, 0, 0), (34, 38, 0, 0), (34, 53, 0, 0), (34, 54, 0, 0), (34, 59, 0, 0), (34, 65, 0, 0), (35, 51, 0, 0), (35, 49, 0, 0), (35, 52, 0, 0), (35, 50, 0, 0), (35, 77, 0, 0), (35, 76, 0, 0), (35, 81, 0, 0), (35, 78, 0, 0), (35, 73, 0, 0), (38, 0, 0, 0)], (5, 0, 0, 0, [(0, 0), (1, 0)]))]
def p44 : List Nat := [0, 7, 9, 55, 59, 60]
set_option maxRecDepth 100000 in
def cq44 : qCt := (3, (([(0, (2, ((26755, []), (0, [])))), (1, (0, ((0, [(0, 1)]), (0, [])))), (2, (0, ((0, [(1, 1)]), (0, []))))], [], ([(39, (0, [(2, 1)])), (38, (0, [(3, 1)])), (53, (0, [(4, 1)])), (54, (0, [(5, 1)])), (59, (0, [(6, 1)])), (65, (0, [(7, 1)]))], [(51, 0), (49, 1), (52, 2), (50, 3), (77, 4), (76, 5), (81, 6), (78, 7), (73, 8)]), (8, [(0, (0, 5499)), (1, (0, 1025)), (2, (0, 1024)), (3, (0, 1024)), (4, (0, 20)), (5, (0, 20)), (6, (0, 961)), (7, (0, 5500))], [((-1), [(1, (-1)), (2, 1)]), ((-1), [(0, (-1)), (7, 1)])], 9, [(0, 51), (1, 49), (2, 52), (3, 50), (4, 77), (5, 76), (6, 81), (7, 78), (8, 73)], [], [], [(29, ([1], [(0, [(2, 1)]), (1, [(2, 1)]), (0, [])])), (2, ([1], [(0, [(2, 1)]), (1, [(2, 1)]), (0, [])])), (27, ([0, 2], [(0, []), (0, [(2, 1)])])), (2, ([0], [(0, []), (0, [(2, 1)]), (0, [])])), (3, ([2], [(0, []), (0, [(2, 1)]), (1024, [])])), (3, ([4], [(0, []), (1, [(4, 1)]), (0, [(6, 1)])])), (30, ([8], [(0, []), (0, [(7, 1)])])), (3, ([8], [(0, []), (1, [(7, 1)]), (32768, [])])), (2, ([8], [(0, []), (1, [(7, 1)]), (0, [])])), (3, ([8], [(0, []), (1, []), (0, [])])), (2, ([8], [(0, []), (1, []), (0, [])])), (31, ([1, 3], [(0, []), (0, [(2, 1)])])), (32, ([1, 3], [(0, []), (0, [(2, 1)])])), (3, ([7], [(0, []), (1, [(4, 1)]), (0, [(6, 1)])])), (3, ([5], [(0, []), (1, [(4, 1)]), (0, [(6, 1)])]))])), ([([], [(0, ((0, [(8, 1)]), (0, [])))], ([], []), (9, [(8, (0, 0)), (2, (0, 1026)), (5, (0, 20)), (4, (0, 20)), (6, (0, 961))], [(19, [(4, (-1)), (5, (-1))])], 9, [], [], [], [(29, ([1], [(0, [(2, 1)]), (1, [(2, 1)]), (0, [])])), (2, ([1], [(0, [(2, 1)]), (1, [(2, 1)]), (0, [])])), (27, ([0, 2], [(0, []), (0, [(2, 1)])])), (2, ([0], [(0, []), (0, [(2, 1)]), (0, [])])), (3, ([2], [(0, []), (0, [(2, 1)]), (1024, [])])), (3, ([4], [(0, []), (1, [(4, 1)]), (0, [(6, 1)])])), (30, ([8], [(0, []), (0, [(7, 1)])])), (3, ([8], [(0, []), (1, [(7, 1)]), (32768, [])])), (2, ([8], [(0, []), (1, [(7, 1)]), (0, [])])), (3, ([8], [(0, []), (1, []), (0, [])])), (2, ([8], [(0, []), (1, []), (0, [])])), (31, ([1, 3], [(0, []), (0, [(2, 1)])])), (32, ([1, 3], [(0, []), (0, [(2, 1)])])), (3, ([7], [(0, []), (1, [(4, 1)]), (0, [(6, 1)])])), (3, ([5], [(0, []), (1, [(4, 1)]), (0, [(6, 1)])]))])),
   ([], [(0, ((0, [(8, 1)]), (0, [])))], ([], []), (9, [(8, (1, 1)), (2, (0, 1026)), (5, (0, 20)), (4, (0, 20)), (6, (0, 961))], [], 9, [], [], [], [(29, ([1], [(0, [(2, 1)]), (1, [(2, 1)]), (0, [])])), (2, ([1], [(0, [(2, 1)]), (1, [(2, 1)]), (0, [])])), (27, ([0, 2], [(0, []), (0, [(2, 1)])])), (2, ([0], [(0, []), (0, [(2, 1)]), (0, [])])), (3, ([2], [(0, []), (0, [(2, 1)]), (1024, [])])), (3, ([4], [(0, []), (1, [(4, 1)]), (0, [(6, 1)])])), (30, ([8], [(0, []), (0, [(7, 1)])])), (3, ([8], [(0, []), (1, [(7, 1)]), (32768, [])])), (2, ([8], [(0, []), (1, [(7, 1)]), (0, [])])), (3, ([8], [(0, []), (1, []), (0, [])])), (2, ([8], [(0, []), (1, []), (0, [])])), (31, ([1, 3], [(0, []), (0, [(2, 1)])])), (32, ([1, 3], [(0, []), (0, [(2, 1)])])), (3, ([7], [(0, []), (1, [(4, 1)]), (0, [(6, 1)])])), (3, ([5], [(0, []), (1, [(4, 1)]), (0, [(6, 1)])]))]))], [84, 85, 86])))
def t44 : List qCt := [cq38, cq8, cq43]
theorem st44 (l : Launch) {G : rGm} {cc : ByteArray} {nL n fr lo : Nat} {ret : Option FieldType} {Qf : kQf} (hf : 1 ≤ fr) (hlo : 21 ≤ lo) : ySite gAll LAll vwCl rFo rZs rRs rNs rTs G l cc nL RX8 ret fr lo n Qf 184 186 cq8 := ys_S 2 rfl (m8 l) kGood kw2041 kw285 kw286 kw287 hdS_J9_min_7cf53 hf hlo
theorem hdV_X8_split : yX8_split.cls = RX8 ∧ yX8_split.cls ≠ "java/lang/invoke/MethodHandle" ∧ yX8_split.cls ≠ "java/lang/invoke/VarHandle" ∧ (parseMethodDescriptor yX8_split.desc).map (fun d => d.parameters.length) = some 3 := by decide +kernel
theorem st45 (l : Launch) {G : rGm} {cc : ByteArray} {nL n fr lo : Nat} {ret : Option FieldType} {Qf : kQf} (hf : 3 ≤ fr) (hlo : 76 ≤ lo) : ySite gAll LAll vwCl rFo rZs rRs rNs rTs G l cc nL RX8 ret fr lo n Qf 182 192 cq43 := ys_V 3 13377 10 rc43 lo_13377 kc10 (m43 l) kGood kw2042 kw2043 kw2044 kw167 kw2082 hdV_X8_split hf hlo
def mt44 : yMt := ([(182, (147, 0)), (184, (186, 1)), (182, (192, 2))], ([], ([], [])))
theorem rc44 : yRc cq44 13377 2 = true := by decide +kernel
set_option maxRecDepth 100000 in
def u44 : qCu := []
set_option maxRecDepth 100000 in
theorem z44 : zchk gAll t44 ruI2 ruJ2 rqL b44 u44 cq44 300 [] = true := sorry
theorem yr44 : yRun gAll t44 b44 cq44 := yRun_z gAll_tag ruI2_RtI ruJ2_RtJ rqL_ok z44
theorem zw44 : zwid cq44.2.1.1 cq44.1 0 4 = true := by decide +kernel
set_option maxRecDepth 100000 in
theorem yw44 : yRows gAll LAll yt9 mt44 gHo 4 3 (zby cX8_overused) p44 b44 p44 = true := by decide +kernel
set_option maxRecDepth 100000 in
theorem m44 (l : Launch) : kMet gAll LAll vwCl rFo rZs rRs rNs rTs l yX8_overused cX8_overused 4 (some .boolean) 3 76 cq44 := kmet_y2 (rt := 3) (by decide +kernel) yr44 zw44 rfl yw44 LAll_ok LAll_la yt9_ok gHo_ok rfl (fun G n Qf => List.forall_mem_cons.mpr ⟨⟨cq38, rfl, st40 l (by decide) (by decide)⟩, List.forall_mem_cons.mpr ⟨⟨cq8, rfl, st44 l (by decide) (by decide)⟩, List.forall_mem_cons.mpr ⟨⟨cq43, rfl, st45 l (by decide) (by decide)⟩, yA_n⟩⟩⟩) rfl (fun G n Rr => yA_n) rfl
/-! 45 Assembler.begin ()V -/
set_option maxRecDepth 100000 in
def b45 : qCd := [([(3, 0, 2, 0), (0, 0, 0, 0), (38, 0, 0, 0), (26, 26729, 31, 0), (34, 90, 0, 0), (34, 89, 0, 0), (34, 31, 0, 0), (34, 39, 0, 0), (34, 438, 0, 0), (34, 38, 0, 0), (34, 41, 0, 0), (34, 32, 0, 0), (34, 53, 0, 0), (34, 54, 0, 0), (34, 59, 0, 0), (34, 65, 0, 0), (34, 55, 0, 0), (34, 30, 0, 0), (34, 5, 0, 0), (34, 7, 0, 0), (34, 13, 0, 0), (34, 8, 0, 0), (34, 6, 0, 0), (35, 51, 0, 0), (35, 49, 0, 0), (35, 52, 0, 0), (35, 50, 0, 0), (35, 77, 0, 0), (35, 76, 0, 0), (35, 81, 0, 0), (35, 78, 0, 0), (35, 71, 0, 0), (35, 72, 0, 0), (35, 63, 0, 0), (35, 73, 0, 0), (35, 62, 0, 0), (35, 67, 0, 0), (35, 64, 0, 0), (35, 15, 0, 0), (38, 0, 0, 0)], (0, 0, 1, 0, [])),
  ([(3, 0, 2, 0), (24, 26729, 31, 0), (3, 0, 2, 0), (25, 26729, 26731, 0), (24, 26731, 39, 0)], (1, 3, 5, 2, [])),
  ([(3, 0, 2, 0), (25, 26729, 26731, 0), (25, 26731, 26747, 0), (3, 0, 2, 0), (24, 26729, 31, 0), (38, 0, 0, 0), (28, 49, 0, 0), (0, 1, 0, 0)], (1, 1, 5, 3, [])),
  ([(3, 0, 2, 0), (25, 26729, 26731, 0), (25, 26731, 26747, 0), (3, 0, 2, 0), (24, 26729, 31, 0), (0, 1, 0, 0), (38, 0, 0, 0), (14, 0, 0, 0), (36, 0, 0, 0), (38, 0, 0, 0), (28, 49, 0, 0), (0, 58, 0, 0)], (1, 1, 5, 4, [])),
  ([(3, 0, 2, 0), (7, 0, 0, 0), (24, 26729, 31, 0), (0, 2, 0, 0), (38, 0, 0, 0), (14, 0, 0, 0), (36, 0, 0, 0), (38, 0, 0, 0), (26, 26729, 31, 0), (34, 90, 0, 0), (34, 89, 0, 0), (34, 31, 0, 0), (34, 39, 0, 0), (34, 438, 0, 0), (34, 38, 0, 0), (34, 41, 0, 0), (34, 32, 0, 0), (34, 53, 0, 0), (34, 54, 0, 0), (34, 59, 0, 0), (34, 65, 0, 0), (34, 55, 0, 0), (34, 30, 0, 0), (34, 5, 0, 0), (34, 7, 0, 0), (34, 13, 0, 0), (34, 8, 0, 0), (34, 6, 0, 0), (35, 51, 0, 0), (35, 49, 0, 0), (35, 52, 0, 0), (35, 50, 0, 0), (35, 77, 0, 0), (35, 76, 0, 0), (35, 81, 0, 0), (35, 78, 0, 0), (35, 71, 0, 0), (35, 72, 0, 0), (35, 63, 0, 0), (35, 73, 0, 0), (35, 62, 0, 0), (35, 67, 0, 0), (35, 64, 0, 0), (35, 15, 0, 0), (38, 0, 0, 0)], (0, 0, 1, 0, [])),
  ([(3, 0, 2, 0), (3, 0, 2, 0), (3, 0, 2, 0), (24, 26729, 31, 0), (34, 39, 0, 0), (34, 438, 0, 0), (34, 32, 0, 0), (34, 59, 0, 0), (34, 65, 0, 0), (35, 51, 0, 0), (35, 49, 0, 0), (35, 52, 0, 0), (35, 50, 0, 0), (35, 71, 0, 0), (35, 72, 0, 0), (35, 73, 0, 0), (35, 67, 0, 0), (38, 0, 0, 0), (33, 0, 0, 0), (38, 0, 0, 0), (26, 26729, 30, 0), (3, 0, 2, 0), (24, 26729, 30, 0), (0, 54, 0, 0)], (1, 2, 8, 6, [])),
  ([(3, 0, 2, 0), (24, 26729, 30, 0), (0, 60, 0, 0)], (1, 4, 8, 7, [])),
  ([(0, 1, 0, 0)], (0, 0, 9, 0, [])),
  ([(0, 0, 0, 0)], (0, 0, 9, 0, [])),
  ([(4, 1, 0, 0), (3, 1, 0, 0)], (2, 0, 44, 10, [])),
  ([(3, 0, 2, 0), (24, 26729, 31, 0)], (2, 4, 45, 11, [])),
  ([(3, 0, 2, 0), (25, 26729, 26755, 0), (3, 0, 2, 0), (24, 26729, 30, 0), (34, 53, 0, 0), (34, 54, 0, 0), (34, 59, 0, 0), (35, 77, 0, 0), (35, 76, 0, 0), (35, 81, 0, 0), (35, 78, 0, 0), (35, 62, 0, 0), (35, 64, 0, 0), (38, 0, 0, 0), (33, 1, 0, 0)], (2, 1, 46, 47, [])),
  ([(3, 0, 2, 0), (24, 26729, 30, 0), (0, (-5), 0, 0)], (1, 1, 15, 13, [])),
  ([(3, 0, 2, 0), (25, 26729, 26755, 0), (3, 0, 2, 0), (24, 26729, 32, 0), (3, 0, 2, 0), (24, 26729, 31, 0), (34, 39, 0, 0), (34, 38, 0, 0), (34, 53, 0, 0), (34, 54, 0, 0), (34, 59, 0, 0), (34, 65, 0, 0), (35, 51, 0, 0), (35, 49, 0, 0), (35, 52, 0, 0), (35, 50, 0, 0), (35, 77, 0, 0), (35, 76, 0, 0), (35, 81, 0, 0), (35, 78, 0, 0), (35, 73, 0, 0), (38, 0, 0, 0), (33, 2, 0, 0)], (2, 0, 15, 48, [])),
  ([(3, 0, 2, 0), (25, 26729, 26731, 0), (0, 3, 0, 0), (34, 438, 0, 0), (34, 41, 0, 0), (38, 0, 0, 0), (33, 3, 0, 0), (34, 90, 0, 0), (34, 89, 0, 0), (34, 31, 0, 0), (34, 39, 0, 0), (34, 438, 0, 0), (34, 38, 0, 0), (34, 41, 0, 0), (34, 32, 0, 0), (34, 53, 0, 0), (34, 54, 0, 0), (34, 59, 0, 0), (34, 65, 0, 0), (34, 55, 0, 0), (34, 30, 0, 0), (34, 5, 0, 0), (34, 7, 0, 0), (34, 13, 0, 0), (34, 8, 0, 0), (34, 6, 0, 0), (35, 51, 0, 0), (35, 49, 0, 0), (35, 52, 0, 0), (35, 50, 0, 0), (35, 77, 0, 0), (35, 76, 0, 0), (35, 81, 0, 0), (35, 78, 0, 0), (35, 71, 0, 0), (35, 72, 0, 0), (35, 63, 0, 0), (35, 73, 0, 0), (35, 62, 0, 0), (35, 67, 0, 0), (35, 64, 0, 0), (35, 15, 0, 0), (38, 0, 0, 0)], (4, 0, 0, 0, [])),
  ([(0, 0, 0, 0), (4, 2, 0, 0), (34, 90, 0, 0), (34, 89, 0, 0), (34, 31, 0, 0), (34, 39, 0, 0), (34, 438, 0, 0), (34, 38, 0, 0), (34, 41, 0, 0), (34, 32, 0, 0), (34, 53, 0, 0), (34, 54, 0, 0), (34, 59, 0, 0), (34, 65, 0, 0), (34, 55, 0, 0), (34, 30, 0, 0), (34, 5, 0, 0), (34, 7, 0, 0), (34, 13, 0, 0), (34, 8, 0, 0), (34, 6, 0, 0), (35, 51, 0, 0), (35, 49, 0, 0), (35, 52, 0, 0), (35, 50, 0, 0), (35, 77, 0, 0), (35, 76, 0, 0), (35, 81, 0, 0), (35, 78, 0, 0), (35, 71, 0, 0), (35, 72, 0, 0), (35, 63, 0, 0), (35, 73, 0, 0), (35, 62, 0, 0), (35, 67, 0, 0), (35, 64, 0, 0), (35, 15, 0, 0), (40, 2, 0, 0), (38, 0, 0, 0)], (0, 0, 16, 0, [])),
  ([(3, 2, 0, 0), (36, 0, 0, 0), (3, 0, 2, 0), (24, 26729, 31, 0)], (1, 3, 18, 17, [])),
  ([(3, 0, 2, 0), (3, 2, 0, 0), (36, 0, 0, 0), (34, 90, 0, 0), (34, 89, 0, 0), (34, 39, 0, 0), (34, 438, 0, 0), (34, 41, 0, 0), (34, 59, 0, 0), (34, 65, 0, 0), (34, 55, 0, 0), (34, 29, 0, 0), (34, 5, 0, 0), (34, 7, 0, 0), (34, 13, 0, 0), (34, 8, 0, 0), (34, 6, 0, 0), (35, 51, 0, 0), (35, 49, 0, 0), (35, 52, 0, 0), (35, 50, 0, 0), (35, 71, 0, 0), (35, 72, 0, 0), (35, 73, 0, 0), (35, 67, 0, 0), (35, 15, 0, 0), (38, 0, 0, 0), (33, 4, 0, 0), (5, 2, 2, 0), (34, 90, 0, 0), (34, 89, 0, 0), (34, 31, 0, 0), (34, 39, 0, 0), (34, 438, 0, 0), (34, 38, 0, 0), (34, 41, 0, 0), (34, 32, 0, 0), (34, 53, 0, 0), (34, 54, 0, 0), (34, 59, 0, 0), (34, 65, 0, 0), (34, 55, 0, 0), (34, 30, 0, 0), (34, 5, 0, 0), (34, 7, 0, 0), (34, 13, 0, 0), (34, 8, 0, 0), (34, 6, 0, 0), (35, 51, 0, 0), (35, 49, 0, 0), (35, 52, 0, 0), (35, 50, 0, 0), (35, 77, 0, 0), (35, 76, 0, 0), (35, 81, 0, 0), (35, 78, 0, 0), (35, 71, 0, 0), (35, 72, 0, 0), (35, 63, 0, 0), (35, 73, 0, 0), (35, 62, 0, 0), (35, 67, 0, 0), (35, 64, 0, 0), (35, 15, 0, 0), (40, 2, 0, 0), (38, 0, 0, 0)], (0, 0, 16, 0, [])),
  ([(3, 0, 2, 0), (24, 26729, 30, 0), (0, (-6), 0, 0)], (1, 1, 25, 19, [])),
  ([(3, 0, 2, 0), (25, 26729, 26815, 0), (3, 0, 2, 0), (24, 26729, 31, 0), (0, 1, 0, 0), (34, 90, 0, 0), (34, 89, 0, 0), (34, 39, 0, 0), (34, 438, 0, 0), (35, 51, 0, 0), (35, 52, 0, 0), (38, 0, 0, 0), (33, 5, 0, 0), (3, 0, 2, 0), (3, 0, 2, 0), (25, 26729, 26731, 0), (3, 0, 2, 0), (24, 26729, 31, 0), (34, 39, 0, 0), (34, 438, 0, 0), (35, 49, 0, 0), (35, 50, 0, 0), (38, 0, 0, 0), (33, 6, 0, 0)], (2, 1, 22, 20, [])),
  ([(3, 0, 2, 0), (34, 89, 0, 0), (34, 438, 0, 0), (34, 59, 0, 0), (34, 65, 0, 0), (35, 71, 0, 0), (35, 72, 0, 0), (35, 73, 0, 0), (35, 67, 0, 0), (38, 0, 0, 0), (33, 7, 0, 0)], (2, 1, 22, 21, [])),
  ([(3, 0, 2, 0), (25, 26729, 26815, 0), (34, 89, 0, 0), (34, 438, 0, 0), (34, 13, 0, 0), (34, 6, 0, 0), (35, 15, 0, 0), (38, 0, 0, 0), (33, 8, 0, 0), (0, (-1), 0, 0)], (1, 0, 23, 22, [])),
  ([(0, 1, 0, 0)], (0, 0, 24, 0, [])),
  ([(0, 0, 0, 0)], (0, 0, 24, 0, [])),
  ([(0, 4, 0, 0), (34, 438, 0, 0), (34, 41, 0, 0), (38, 0, 0, 0), (33, 9, 0, 0)], (0, 0, 40, 0, [])),
  ([(3, 0, 2, 0), (24, 26729, 30, 0), (0, 59, 0, 0)], (1, 1, 33, 26, [])),
  ([(3, 0, 2, 0), (25, 26729, 26731, 0), (25, 26731, 26747, 0), (3, 0, 2, 0), (24, 26729, 31, 0), (0, 1, 0, 0), (38, 0, 0, 0), (14, 0, 0, 0), (36, 0, 0, 0), (38, 0, 0, 0), (28, 49, 0, 0), (0, 1, 0, 0)], (1, 1, 33, 27, [])),
  ([(3, 0, 2, 0), (25, 26729, 26815, 0), (3, 0, 2, 0), (24, 26729, 31, 0), (0, 1, 0, 0), (38, 0, 0, 0), (14, 0, 0, 0), (36, 0, 0, 0), (0, 0, 0, 0), (34, 90, 0, 0), (34, 89, 0, 0), (34, 39, 0, 0), (34, 438, 0, 0), (35, 51, 0, 0), (35, 52, 0, 0), (38, 0, 0, 0), (33, 5, 0, 0), (3, 0, 2, 0), (3, 0, 2, 0), (25, 26729, 26731, 0), (3, 0, 2, 0), (24, 26729, 31, 0), (0, 1, 0, 0), (38, 0, 0, 0), (14, 0, 0, 0), (36, 0, 0, 0), (34, 39, 0, 0), (34, 438, 0, 0), (35, 49, 0, 0), (35, 50, 0, 0), (38, 0, 0, 0), (33, 6, 0, 0)], (2, 1, 30, 28, [])),
  ([(3, 0, 2, 0), (34, 89, 0, 0), (34, 438, 0, 0), (34, 59, 0, 0), (34, 65, 0, 0), (35, 71, 0, 0), (35, 72, 0, 0), (35, 73, 0, 0), (35, 67, 0, 0), (38, 0, 0, 0), (33, 7, 0, 0)], (2, 1, 30, 29, [])),
  ([(3, 0, 2, 0), (0, 3, 0, 0), (34, 89, 0, 0), (34, 438, 0, 0), (34, 13, 0, 0), (34, 6, 0, 0), (35, 15, 0, 0), (38, 0, 0, 0), (33, 10, 0, 0)], (2, 0, 31, 30, [])),
  ([(0, 1, 0, 0)], (0, 0, 32, 0, [])),
  ([(0, 0, 0, 0)], (0, 0, 32, 0, [])),
  ([(0, 4, 0, 0), (34, 438, 0, 0), (34, 41, 0, 0), (38, 0, 0, 0), (33, 9, 0, 0)], (0, 0, 40, 0, [])),
  ([(3, 0, 2, 0), (24, 26729, 30, 0), (0, 62, 0, 0)], (1, 0, 35, 34, [])),
  ([(3, 0, 2, 0), (24, 26729, 30, 0), (0, 63, 0, 0)], (1, 1, 40, 35, [])),
  ([(3, 0, 2, 0), (24, 26729, 31, 0), (0, 1, 0, 0), (38, 0, 0, 0), (14, 0, 0, 0), (36, 0, 0, 0), (4, 2, 0, 0), (34, 90, 0, 0), (34, 89, 0, 0), (34, 31, 0, 0), (34, 39, 0, 0), (34, 438, 0, 0), (34, 38, 0, 0), (34, 41, 0, 0), (34, 32, 0, 0), (34, 53, 0, 0), (34, 54, 0, 0), (34, 59, 0, 0), (34, 65, 0, 0), (34, 55, 0, 0), (34, 30, 0, 0), (34, 5, 0, 0), (34, 7, 0, 0), (34, 13, 0, 0), (34, 8, 0, 0), (34, 6, 0, 0), (35, 51, 0, 0), (35, 49, 0, 0), (35, 52, 0, 0), (35, 50, 0, 0), (35, 77, 0, 0), (35, 76, 0, 0), (35, 81, 0, 0), (35, 78, 0, 0), (35, 71, 0, 0), (35, 72, 0, 0), (35, 63, 0, 0), (35, 73, 0, 0), (35, 62, 0, 0), (35, 67, 0, 0), (35, 64, 0, 0), (35, 15, 0, 0), (40, 2, 0, 0), (38, 0, 0, 0)], (0, 0, 36, 0, [])),
  ([(3, 2, 0, 0), (36, 0, 0, 0), (3, 0, 2, 0), (25, 26729, 26731, 0), (24, 26731, 39, 0)], (1, 3, 40, 37, [])),
  ([(3, 0, 2, 0), (25, 26729, 26731, 0), (25, 26731, 26747, 0), (3, 2, 0, 0), (36, 0, 0, 0), (38, 0, 0, 0), (28, 49, 0, 0), (0, 1, 0, 0)], (1, 1, 39, 38, [])),
  ([(3, 0, 2, 0), (25, 26729, 26815, 0), (3, 2, 0, 0), (36, 0, 0, 0), (0, 1, 0, 0), (34, 90, 0, 0), (34, 89, 0, 0), (34, 39, 0, 0), (34, 438, 0, 0), (35, 51, 0, 0), (35, 52, 0, 0), (38, 0, 0, 0), (33, 5, 0, 0), (3, 0, 2, 0), (3, 0, 2, 0), (0, 2, 0, 0), (34, 89, 0, 0), (34, 438, 0, 0), (34, 13, 0, 0), (34, 6, 0, 0), (35, 15, 0, 0), (38, 0, 0, 0), (33, 10, 0, 0), (0, 4, 0, 0), (34, 438, 0, 0), (34, 41, 0, 0), (38, 0, 0, 0), (33, 9, 0, 0)], (0, 0, 39, 0, [])),
  ([(5, 2, 1, 0), (34, 90, 0, 0), (34, 89, 0, 0), (34, 31, 0, 0), (34, 39, 0, 0), (34, 438, 0, 0), (34, 38, 0, 0), (34, 41, 0, 0), (34, 32, 0, 0), (34, 53, 0, 0), (34, 54, 0, 0), (34, 59, 0, 0), (34, 65, 0, 0), (34, 55, 0, 0), (34, 30, 0, 0), (34, 5, 0, 0), (34, 7, 0, 0), (34, 13, 0, 0), (34, 8, 0, 0), (34, 6, 0, 0), (35, 51, 0, 0), (35, 49, 0, 0), (35, 52, 0, 0), (35, 50, 0, 0), (35, 77, 0, 0), (35, 76, 0, 0), (35, 81, 0, 0), (35, 78, 0, 0), (35, 71, 0, 0), (35, 72, 0, 0), (35, 63, 0, 0), (35, 73, 0, 0), (35, 62, 0, 0), (35, 67, 0, 0), (35, 64, 0, 0), (35, 15, 0, 0), (40, 2, 0, 0), (38, 0, 0, 0)], (0, 0, 36, 0, [])),
  ([(3, 0, 2, 0), (3, 0, 2, 0), (24, 26729, 30, 0), (0, (-4), 0, 0)], (1, 1, 42, 41, [])),
  ([(0, 1, 0, 0)], (0, 0, 43, 0, [])),
  ([(0, 0, 0, 0)], (0, 0, 43, 0, [])),
  ([(0, 5, 0, 0), (34, 438, 0, 0), (34, 41, 0, 0), (38, 0, 0, 0), (33, 9, 0, 0), (34, 90, 0, 0), (34, 89, 0, 0), (34, 31, 0, 0), (34, 39, 0, 0), (34, 438, 0, 0), (34, 38, 0, 0), (34, 41, 0, 0), (34, 32, 0, 0), (34, 53, 0, 0), (34, 54, 0, 0), (34, 59, 0, 0), (34, 65, 0, 0), (34, 55, 0, 0), (34, 30, 0, 0), (34, 5, 0, 0), (34, 7, 0, 0), (34, 13, 0, 0), (34, 8, 0, 0), (34, 6, 0, 0), (35, 51, 0, 0), (35, 49, 0, 0), (35, 52, 0, 0), (35, 50, 0, 0), (35, 77, 0, 0), (35, 76, 0, 0), (35, 81, 0, 0), (35, 78, 0, 0), (35, 71, 0, 0), (35, 72, 0, 0), (35, 63, 0, 0), (35, 73, 0, 0), (35, 62, 0, 0), (35, 67, 0, 0), (35, 64, 0, 0), (35, 15, 0, 0), (38, 0, 0, 0)], (4, 0, 0, 0, [])),
  ([(34, 90, 0, 0), (34, 89, 0, 0), (34, 31, 0, 0), (34, 39, 0, 0), (34, 438, 0, 0), (34, 38, 0, 0), (34, 41, 0, 0), (34, 32, 0, 0), (34, 53, 0, 0), (34, 54, 0, 0), (34, 59, 0, 0), (34, 65, 0, 0), (34, 55, 0, 0), (34, 30, 0, 0), (34, 5, 0, 0), (34, 7, 0, 0), (34, 13, 0, 0), (34, 8, 0, 0), (34, 6, 0, 0), (35, 51, 0, 0), (35, 49, 0, 0), (35, 52, 0, 0), (35, 50, 0, 0), (35, 77, 0, 0), (35, 76, 0, 0), (35, 81, 0, 0), (35, 78, 0, 0), (35, 71, 0, 0), (35, 72, 0, 0), (35, 63, 0, 0), (35, 73, 0, 0), (35, 62, 0, 0), (35, 67, 0, 0), (35, 64, 0, 0), (35, 15, 0, 0), (38, 0, 0, 0)], (0, 0, 12, 0, [])),
  ([(34, 90, 0, 0), (34, 89, 0, 0), (34, 31, 0, 0), (34, 39, 0, 0), (34, 438, 0, 0), (34, 38, 0, 0), (34, 41, 0, 0), (34, 32, 0, 0), (34, 53, 0, 0), (34, 54, 0, 0), (34, 59, 0, 0), (34, 65, 0, 0), (34, 55, 0, 0), (34, 30, 0, 0), (34, 5, 0, 0), (34, 7, 0, 0), (34, 13, 0, 0), (34, 8, 0, 0), (34, 6, 0, 0), (35, 51, 0, 0), (35, 49, 0, 0), (35, 52, 0, 0), (35, 50, 0, 0), (35, 77, 0, 0), (35, 76, 0, 0), (35, 81, 0, 0), (35, 78, 0, 0), (35, 71, 0, 0), (35, 72, 0, 0), (35, 63, 0, 0), (35, 73, 0, 0), (35, 62, 0, 0), (35, 67, 0, 0), (35, 64, 0, 0), (35, 15, 0, 0), (38, 0, 0, 0)], (0, 0, 14, 0, [])),
  ([(34, 90, 0, 0), (34, 89, 0, 0), (34, 31, 0, 0), (34, 39, 0, 0), (34, 438, 0, 0), (34, 38, 0, 0), (34, 41, 0, 0), (34, 32, 0, 0), (34, 53, 0, 0), (34, 54, 0, 0), (34, 59, 0, 0), (34, 65, 0, 0), (34, 55, 0, 0), (34, 30, 0, 0), (34, 5, 0, 0), (34, 7, 0, 0), (34, 13, 0, 0), (34, 8, 0, 0), (34, 6, 0, 0), (35, 51, 0, 0), (35, 49, 0, 0), (35, 52, 0, 0), (35, 50, 0, 0), (35, 77, 0, 0), (35, 76, 0, 0), (35, 81, 0, 0), (35, 78, 0, 0), (35, 71, 0, 0), (35, 72, 0, 0), (35, 63, 0, 0), (35, 73, 0, 0), (35, 62, 0, 0), (35, 67, 0, 0), (35, 64, 0, 0), (35, 15, 0, 0), (38, 0, 0, 0)], (0, 0, 14, 0, [])),
  ([(34, 90, 0, 0), (34, 89, 0, 0), (34, 31, 0, 0), (34, 39, 0, 0), (34, 438, 0, 0), (34, 38, 0, 0), (34, 41, 0, 0), (34, 32, 0, 0), (34, 53, 0, 0), (34, 54, 0, 0), (34, 59, 0, 0), (34, 65, 0, 0), (34, 55, 0, 0), (34, 30, 0, 0), (34, 5, 0, 0), (34, 7, 0, 0), (34, 13, 0, 0), (34, 8, 0, 0), (34, 6, 0, 0), (35, 51, 0, 0), (35, 49, 0, 0), (35, 52, 0, 0), (35, 50, 0, 0), (35, 77, 0, 0), (35, 76, 0, 0), (35, 81, 0, 0), (35, 78, 0, 0), (35, 71, 0, 0), (35, 72, 0, 0), (35, 63, 0, 0), (35, 73, 0, 0), (35, 62, 0, 0), (35, 67, 0, 0), (35, 64, 0, 0), (35, 15, 0, 0), (38, 0, 0, 0)], (0, 0, 12, 0, [])),
  ([(34, 90, 0, 0), (34, 89, 0, 0), (34, 31, 0, 0), (34, 39, 0, 0), (34, 438, 0, 0), (34, 38, 0, 0), (34, 41, 0, 0), (34, 32, 0, 0), (34, 53, 0, 0), (34, 54, 0, 0), (34, 59, 0, 0), (34, 65, 0, 0), (34, 55, 0, 0), (34, 30, 0, 0), (34, 5, 0, 0), (34, 7, 0, 0), (34, 13, 0, 0), (34, 8, 0, 0), (34, 6, 0, 0), (35, 51, 0, 0), (35, 49, 0, 0), (35, 52, 0, 0), (35, 50, 0, 0), (35, 77, 0, 0), (35, 76, 0, 0), (35, 81, 0, 0), (35, 78, 0, 0), (35, 71, 0, 0), (35, 72, 0, 0), (35, 63, 0, 0), (35, 73, 0, 0), (35, 62, 0, 0), (35, 67, 0, 0), (35, 64, 0, 0), (35, 15, 0, 0), (38, 0, 0, 0)], (0, 0, 14, 0, []))]
def p45 : List Nat := [0, 5, 19, 35, 54, 67, 88, 97, 101, 102, 107, 114, 128, 137, 155, 164, 166, 174, 185, 194, 221, 228, 239, 243, 244, 251, 260, 278, 309, 316, 324, 328, 329, 336, 345, 354, 361, 372, 385, 404, 410, 420, 424, 425, 128, 155, 155, 128, 155]
set_option maxRecDepth 100000 in
def cq45 : qCt := (1, (([(0, (2, ((26729, []), (0, []))))], [], ([(90, (0, [(0, 1)])), (89, (0, [(1, 1)])), (31, (0, [(2, 1)])), (39, (0, [(3, 1)])), (438, (0, [(4, 1)])), (38, (0, [(5, 1)])), (41, (0, [(6, 1)])), (32, (0, [(7, 1)])), (53, (0, [(8, 1)])), (54, (0, [(9, 1)])), (59, (0, [(10, 1)])), (65, (0, [(11, 1)])), (55, (0, [(12, 1)])), (30, (0, [(13, 1)])), (5, (0, [(14, 1)])), (7, (0, [(15, 1)])), (13, (0, [(16, 1)])), (8, (0, [(17, 1)])), (6, (0, [(18, 1)]))], [(51, 0), (49, 1), (52, 2), (50, 3), (77, 4), (76, 5), (81, 6), (78, 7), (71, 8), (72, 9), (63, 10), (73, 11), (62, 12), (67, 13), (64, 14), (15, 15)]), (19, [(0, (0, 63)), (1, (0, 126)), (2, (0, 1026)), (3, (0, 1024)), (5, (0, 1024)), (6, (0, 0)), (7, ((-1), 5499)), (8, (0, 20)), (9, (0, 20)), (11, (0, 5500)), (13, ((-128), 199)), (14, (0, 31)), (15, (0, 1024)), (16, (0, 1024)), (17, (0, 8192)), (18, (0, 1024)), (4, (0, 1)), (10, (0, 961)), (12, (1, 1024))], [(0, [(4, (-1)), (6, 1)])], 16, [(0, 51), (1, 49), (2, 52), (3, 50), (4, 77), (5, 76), (6, 81), (7, 78), (8, 71), (9, 72), (10, 63), (11, 73), (12, 62), (13, 67), (14, 64), (15, 15)], [], [], [(29, ([1], [(0, [(3, 1)]), (1, [(3, 1)]), (0, [])])), (2, ([1], [(0, [(3, 1)]), (1, [(3, 1)]), (0, [])])), (27, ([0, 2], [(0, []), (0, [(3, 1)])])), (2, ([0], [(0, []), (0, [(3, 1)]), (0, [])])), (3, ([2], [(0, []), (0, [(3, 1)]), (1024, [])])), (3, ([13], [(0, []), (1, [(11, 1)]), (65536, [])])), (2, ([13], [(0, []), (1, [(11, 1)]), (0, [])])), (3, ([4], [(0, []), (1, [(8, 1)]), (0, [(10, 1)])])), (30, ([11], [(0, []), (0, [(11, 1)])])), (3, ([11], [(0, []), (1, [(11, 1)]), (32768, [])])), (2, ([11], [(0, []), (1, [(11, 1)]), (0, [])])), (3, ([11], [(0, []), (1, []), (0, [])])), (2, ([11], [(0, []), (1, []), (0, [])])), (3, ([14], [(0, []), (1, [(10, 1)]), (0, [(10, 1)])])), (31, ([1, 3], [(0, []), (0, [(3, 1)])])), (32, ([1, 3], [(0, []), (0, [(3, 1)])])), (30, ([15], [(0, []), (0, [(16, 1)])])), (3, ([7], [(0, []), (1, [(8, 1)]), (0, [(10, 1)])])), (3, ([5], [(0, []), (1, [(8, 1)]), (0, [(10, 1)])])), (3, ([8], [(0, []), (0, [(11, 1)]), (0, [(10, 1)])])), (3, ([9], [(0, []), (0, [(11, 1)]), (0, [(10, 1)])])), (2, ([7], [(0, [(8, 1)]), (1, [(8, 1)]), (1, [])]))])), ([([], [], ([(90, (0, [(19, 1)])), (89, (0, [(20, 1)])), (31, (0, [(21, 1)])), (438, (0, [(22, 1)])), (41, (0, [(23, 1)])), (32, (0, [(24, 1)])), (30, (0, [(25, 1)])), (7, (0, [(26, 1)])), (13, (0, [(27, 1)]))], [(15, 16)]), (28, [(19, (0, 63)), (20, (0, 126)), (21, (0, 1025)), (23, (0, 10)), (24, ((-1), 5499)), (25, ((-128), 199)), (26, (0, 1024)), (27, (0, 1024)), (22, (0, 1)), (3, (0, 1026)), (9, (0, 20)), (8, (0, 20)), (10, (0, 961))], [(0, [(16, (-1)), (27, 1)]), (0, [(22, (-1)), (23, 1)]), (0, [(22, 10), (23, (-1))])], 17, [(16, 15)], [], [], [(29, ([1], [(0, [(3, 1)]), (1, [(3, 1)]), (0, [])])), (2, ([1], [(0, [(3, 1)]), (1, [(3, 1)]), (0, [])])), (27, ([0, 2], [(0, []), (0, [(3, 1)])])), (2, ([0], [(0, []), (0, [(3, 1)]), (0, [])])), (3, ([2], [(0, []), (0, [(3, 1)]), (1024, [])])), (3, ([13], [(0, []), (1, [(11, 1)]), (65536, [])])), (2, ([13], [(0, []), (1, [(11, 1)]), (0, [])])), (3, ([4], [(0, []), (1, [(8, 1)]), (0, [(10, 1)])])), (30, ([11], [(0, []), (0, [(11, 1)])])), (3, ([11], [(0, []), (1, [(11, 1)]), (32768, [])])), (2, ([11], [(0, []), (1, [(11, 1)]), (0, [])])), (3, ([11], [(0, []), (1, []), (0, [])])), (2, ([11], [(0, []), (1, []), (0, [])])), (3, ([14], [(0, []), (1, [(10, 1)]), (0, [(10, 1)])])), (31, ([1, 3], [(0, []), (0, [(3, 1)])])), (32, ([1, 3], [(0, []), (0, [(3, 1)])])), (30, ([16], [(0, []), (0, [(27, 1)])])), (3, ([7], [(0, []), (1, [(8, 1)]), (0, [(10, 1)])])), (3, ([5], [(0, []), (1, [(8, 1)]), (0, [(10, 1)])])), (3, ([8], [(0, []), (0, [(11, 1)]), (0, [(10, 1)])])), (3, ([9], [(0, []), (0, [(11, 1)]), (0, [(10, 1)])])), (2, ([7], [(0, [(8, 1)]), (1, [(8, 1)]), (1, [])])), (0, ([], [(0, []), (1, []), ((-2), [(25, (-1))]), ((-1), [(3, 1), (21, (-1))])])), (0, ([], [(0, []), (1, []), (5, [(25, 1)]), ((-2), [(3, 1), (21, (-1))])])), (13, ([], [(0, []), (1, []), (54, [(25, (-1))]), ((-57), [(25, 1)]), ((-1), [(9, 1)]), ((-1), [(23, 1)])])), (13, ([], [(0, []), (1, []), (54, [(25, (-1))]), ((-57), [(25, 1)]), ((-1), [(9, 1)]), (5, [(23, (-1))])])), (13, ([], [(0, []), (1, []), ((-6), [(25, (-1))]), (4, [(25, 1)]), (19, [(8, (-1)), (9, (-1))]), ((-1), [(23, 1)])])), (13, ([], [(0, []), (1, []), ((-6), [(25, (-1))]), (4, [(25, 1)]), (19, [(8, (-1)), (9, (-1))]), (5, [(23, (-1))])])), (1, ([], [(0, []), (1, []), ((-6), [(25, (-1))]), (4, [(25, 1)]), (0, [(24, 1)])])), (1, ([], [(0, []), (1, []), ((-6), [(25, (-1))]), (4, [(25, 1)]), ((-1), [(11, 1), (24, (-1))])])), (13, ([], [(0, []), (1, []), (56, [(25, (-1))]), ((-58), [(25, 1)]), (19, [(8, (-1)), (9, (-1))]), ((-1), [(23, 1)])])), (13, ([], [(0, []), (1, []), (56, [(25, (-1))]), ((-58), [(25, 1)]), (19, [(8, (-1)), (9, (-1))]), (5, [(23, (-1))])]))]))], [7, 13, 14, 15, 16, 17, 18, 19, 21, 30, 31, 32, 41, 84, 85, 86, 89, 90, 95, 96, 438])))
def t45 : List qCt := [cq36, cq39, cq44, cq9, cq34, cq13, cq32, cq29, cq26, cq25, cq27]
theorem hdV_X0_wordAt : yX0_wordAt.cls = RX0 ∧ yX0_wordAt.cls ≠ "java/lang/invoke/MethodHandle" ∧ yX0_wordAt.cls ≠ "java/lang/invoke/VarHandle" ∧ (parseMethodDescriptor yX0_wordAt.desc).map (fun d => d.parameters.length) = some 1 := by decide +kernel
theorem st46 (l : Launch) {G : rGm} {cc : ByteArray} {nL n fr lo : Nat} {ret : Option FieldType} {Qf : kQf} (hf : 2 ≤ fr) (hlo : 51 ≤ lo) : ySite gAll LAll vwCl rFo rZs rRs rNs rTs G l cc nL RX0 ret fr lo n Qf 182 160 cq36 := ys_V 1 13364 2 rc36 lo_13364 kc2 (m36 l) kGood kw1197 kw1198 kw1199 kw249 kw1437 hdV_X0_wordAt hf hlo
theorem hdV_X8_misplaced : yX8_misplaced.cls = RX8 ∧ yX8_misplaced.cls ≠ "java/lang/invoke/MethodHandle" ∧ yX8_misplaced.cls ≠ "java/lang/invoke/VarHandle" ∧ (parseMethodDescriptor yX8_misplaced.desc).map (fun d => d.parameters.length) = some 1 := by decide +kernel
theorem st47 (l : Launch) {G : rGm} {cc : ByteArray} {nL n fr lo : Nat} {ret : Option FieldType} {Qf : kQf} (hf : 2 ≤ fr) (hlo : 44 ≤ lo) : ySite gAll LAll vwCl rFo rZs rRs rNs rTs G l cc nL RX0 ret fr lo n Qf 182 167 cq39 := ys_V 1 13377 10 rc39 lo_13377 kc10 (m39 l) kGood kw1201 kw1202 kw1203 kw167 kw2029 hdV_X8_misplaced hf hlo
theorem hdV_X8_overused : yX8_overused.cls = RX8 ∧ yX8_overused.cls ≠ "java/lang/invoke/MethodHandle" ∧ yX8_overused.cls ≠ "java/lang/invoke/VarHandle" ∧ (parseMethodDescriptor yX8_overused.desc).map (fun d => d.parameters.length) = some 2 := by decide +kernel
theorem st48 (l : Launch) {G : rGm} {cc : ByteArray} {nL n fr lo : Nat} {ret : Option FieldType} {Qf : kQf} (hf : 4 ≤ fr) (hlo : 99 ≤ lo) : ySite gAll LAll vwCl rFo rZs rRs rNs rTs G l cc nL RX0 ret fr lo n Qf 182 173 cq44 := ys_V 2 13377 10 rc44 lo_13377 kc10 (m44 l) kGood kw1205 kw1206 kw1207 kw167 kw2039 hdV_X8_overused hf hlo
theorem hdV_X0_label : yX0_label.cls = RX0 ∧ yX0_label.cls ≠ "java/lang/invoke/MethodHandle" ∧ yX0_label.cls ≠ "java/lang/invoke/VarHandle" ∧ (parseMethodDescriptor yX0_label.desc).map (fun d => d.parameters.length) = some 1 := by decide +kernel
theorem st49 (l : Launch) {G : rGm} {cc : ByteArray} {nL n fr lo : Nat} {ret : Option FieldType} {Qf : kQf} (hf : 4 ≤ fr) (hlo : 94 ≤ lo) : ySite gAll LAll vwCl rFo rZs rRs rNs rTs G l cc nL RX0 ret fr lo n Qf 182 177 cq34 := ys_V 1 13364 2 rc34 lo_13364 kc2 (m34 l) kGood kw1208 kw1209 kw1210 kw249 kw1348 hdV_X0_label hf hlo
theorem hdV_X0_blameIf : yX0_blameIf.cls = RX0 ∧ yX0_blameIf.cls ≠ "java/lang/invoke/MethodHandle" ∧ yX0_blameIf.cls ≠ "java/lang/invoke/VarHandle" ∧ (parseMethodDescriptor yX0_blameIf.desc).map (fun d => d.parameters.length) = some 2 := by decide +kernel
theorem st50 (l : Launch) {G : rGm} {cc : ByteArray} {nL n fr lo : Nat} {ret : Option FieldType} {Qf : kQf} (hf : 3 ≤ fr) (hlo : 64 ≤ lo) : ySite gAll LAll vwCl rFo rZs rRs rNs rTs G l cc nL RX0 ret fr lo n Qf 182 193 cq25 := ys_V 2 13364 2 rc25 lo_13364 kc2 (m25 l) kGood kw1223 kw1224 kw1225 kw249 kw1229 hdV_X0_blameIf hf hlo
def mt45 : yMt := ([(182, (160, 0)), (182, (167, 1)), (182, (173, 2)), (182, (88, 3)), (182, (177, 4)), (182, (180, 5)), (182, (184, 6)), (182, (187, 7)), (182, (190, 8)), (182, (193, 9)), (182, (197, 10))], ([], ([], [])))
theorem rc45 : yRc cq45 13364 0 = true := by decide +kernel
set_option maxRecDepth 100000 in
def u45_0 : Nat × (qS × (qL × (qL × qL))) := (1, (([(0, (2, ((26729, []), (0, []))))], [], ([(90, (0, [(19, 1)])), (89, (0, [(20, 1)])), (31, (0, [(21, 1)])), (39, (0, [(3, 1)])), (438, (0, [(22, 1)])), (38, (0, [(5, 1)])), (41, (0, [(23, 1)])), (32, (0, [(24, 1)])), (53, (0, [(8, 1)])), (54, (0, [(9, 1)])), (59, (0, [(10, 1)])), (65, (0, [(11, 1)])), (55, (0, [(12, 1)])), (30, (0, [(25, 1)])), (5, (0, [(14, 1)])), (7, (0, [(26, 1)])), (13, (0, [(27, 1)])), (8, (0, [(17, 1)])), (6, (0, [(18, 1)]))], [(51, 0), (49, 1), (52, 2), (50, 3), (77, 4), (76, 5), (81, 6), (78, 7), (71, 8), (72, 9), (63, 10), (73, 11), (62, 12), (67, 13), (64, 14), (15, 16)]), (28, [(0, (0, 63)), (1, (0, 126)), (2, (0, 1026)), (3, (0, 1024)), (5, (0, 1024)), (6, (0, 10)), (7, ((-1), 5499)), (8, (0, 20)), (9, (0, 20)), (11, (0, 5500)), (13, ((-128), 199)), (14, (0, 31)), (15, (0, 1024)), (16, (0, 1024)), (17, (0, 8192)), (18, (0, 1024)), (4, (0, 1)), (10, (0, 961)), (12, (1, 1024)), (19, (0, 63)), (20, (0, 126)), (21, (0, 1025)), (23, (0, 0)), (24, ((-1), 5499)), (25, ((-128), 199)), (26, (0, 1024)), (27, (0, 1024)), (22, (0, 1))], [(0, [(16, (-1)), (27, 1)]), (0, [(3, 1), (21, (-1))]), (0, [(22, (-1)), (23, 1)])], 17, [(16, 15)], [], [], [(29, ([1], [(0, [(3, 1)]), (1, [(3, 1)]), (0, [])])), (2, ([1], [(0, [(3, 1)]), (1, [(3, 1)]), (0, [])])), (27, ([0, 2], [(0, []), (0, [(3, 1)])])), (2, ([0], [(0, []), (0, [(3, 1)]), (0, [])])), (3, ([2], [(0, []), (0, [(3, 1)]), (1024, [])])), (3, ([13], [(0, []), (1, [(11, 1)]), (65536, [])])), (2, ([13], [(0, []), (1, [(11, 1)]), (0, [])])), (3, ([4], [(0, []), (1, [(8, 1)]), (0, [(10, 1)])])), (30, ([11], [(0, []), (0, [(11, 1)])])), (3, ([11], [(0, []), (1, [(11, 1)]), (32768, [])])), (2, ([11], [(0, []), (1, [(11, 1)]), (0, [])])), (3, ([11], [(0, []), (1, []), (0, [])])), (2, ([11], [(0, []), (1, []), (0, [])])), (3, ([14], [(0, []), (1, [(10, 1)]), (0, [(10, 1)])])), (31, ([1, 3], [(0, []), (0, [(3, 1)])])), (32, ([1, 3], [(0, []), (0, [(3, 1)])])), (30, ([16], [(0, []), (0, [(27, 1)])])), (3, ([7], [(0, []), (1, [(8, 1)]), (0, [(10, 1)])])), (3, ([5], [(0, []), (1, [(8, 1)]), (0, [(10, 1)])])), (3, ([8], [(0, []), (0, [(11, 1)]), (0, [(10, 1)])])), (3, ([9], [(0, []), (0, [(11, 1)]), (0, [(10, 1)])])), (2, ([7], [(0, [(8, 1)]), (1, [(8, 1)]), (1, [])]))])), ((4, []), ((65600, [(3, 64), (21, (-64))]), (0, [])))))
set_option maxRecDepth 100000 in
def u45_1 : Nat × (qS × (qL × (qL × qL))) := (12, (([(0, (2, ((26729, []), (0, []))))], [], ([(90, (0, [(19, 1)])), (89, (0, [(20, 1)])), (31, (0, [(21, 1)])), (39, (0, [(3, 1)])), (438, (0, [(22, 1)])), (38, (0, [(5, 1)])), (41, (0, [(23, 1)])), (32, (0, [(24, 1)])), (53, (0, [(8, 1)])), (54, (0, [(9, 1)])), (59, (0, [(10, 1)])), (65, (0, [(11, 1)])), (55, (0, [(12, 1)])), (30, (0, [(25, 1)])), (5, (0, [(14, 1)])), (7, (0, [(26, 1)])), (13, (0, [(27, 1)])), (8, (0, [(17, 1)])), (6, (0, [(18, 1)]))], [(51, 0), (49, 1), (52, 2), (50, 3), (77, 4), (76, 5), (81, 6), (78, 7), (71, 8), (72, 9), (63, 10), (73, 11), (62, 12), (67, 13), (64, 14), (15, 16)]), (28, [(0, (0, 63)), (1, (0, 126)), (2, (0, 1026)), (3, (0, 1024)), (5, (0, 1024)), (6, (0, 10)), (7, ((-1), 5499)), (8, (0, 20)), (9, (0, 20)), (11, (0, 5500)), (13, ((-128), 199)), (14, (0, 31)), (15, (0, 1024)), (16, (0, 1024)), (17, (0, 8192)), (18, (0, 1024)), (4, (0, 1)), (10, (0, 961)), (12, (1, 1024)), (19, (0, 63)), (20, (0, 126)), (21, (0, 1025)), (23, (0, 0)), (24, ((-1), 5499)), (25, ((-128), 199)), (26, (0, 1024)), (27, (0, 1024)), (22, (0, 1))], [(0, [(16, (-1)), (27, 1)]), (0, [(3, 1), (21, (-1))]), (0, [(22, (-1)), (23, 1)])], 17, [(16, 15)], [], [], [(29, ([1], [(0, [(3, 1)]), (1, [(3, 1)]), (0, [])])), (2, ([1], [(0, [(3, 1)]), (1, [(3, 1)]), (0, [])])), (27, ([0, 2], [(0, []), (0, [(3, 1)])])), (2, ([0], [(0, []), (0, [(3, 1)]), (0, [])])), (3, ([2], [(0, []), (0, [(3, 1)]), (1024, [])])), (3, ([13], [(0, []), (1, [(11, 1)]), (65536, [])])), (2, ([13], [(0, []), (1, [(11, 1)]), (0, [])])), (3, ([4], [(0, []), (1, [(8, 1)]), (0, [(10, 1)])])), (30, ([11], [(0, []), (0, [(11, 1)])])), (3, ([11], [(0, []), (1, [(11, 1)]), (32768, [])])), (2, ([11], [(0, []), (1, [(11, 1)]), (0, [])])), (3, ([11], [(0, []), (1, []), (0, [])])), (2, ([11], [(0, []), (1, []), (0, [])])), (3, ([14], [(0, []), (1, [(10, 1)]), (0, [(10, 1)])])), (31, ([1, 3], [(0, []), (0, [(3, 1)])])), (32, ([1, 3], [(0, []), (0, [(3, 1)])])), (30, ([16], [(0, []), (0, [(27, 1)])])), (3, ([7], [(0, []), (1, [(8, 1)]), (0, [(10, 1)])])), (3, ([5], [(0, []), (1, [(8, 1)]), (0, [(10, 1)])])), (3, ([8], [(0, []), (0, [(11, 1)]), (0, [(10, 1)])])), (3, ([9], [(0, []), (0, [(11, 1)]), (0, [(10, 1)])])), (2, ([7], [(0, [(8, 1)]), (1, [(8, 1)]), (1, [])])), (0, ([], [(0, []), (1, []), (2, [(25, 1)]), ((-1), [(3, 1), (21, (-1))])])), (0, ([], [(0, []), (1, []), ((-2), [(25, (-1))]), ((-1), [(3, 1), (21, (-1))])])), (0, ([], [(0, []), (1, []), (5, [(25, 1)]), ((-2), [(3, 1), (21, (-1))])])), (1, ([], [(0, []), (1, []), ((-6), [(25, (-1))]), (4, [(25, 1)]), (0, [(24, 1)])])), (1, ([], [(0, []), (1, []), ((-6), [(25, (-1))]), (4, [(25, 1)]), ((-1), [(11, 1), (24, (-1))])])), (13, ([], [(0, []), (1, []), (54, [(25, (-1))]), ((-57), [(25, 1)]), ((-1), [(9, 1)]), ((-1), [(23, 1)])])), (13, ([], [(0, []), (1, []), (54, [(25, (-1))]), ((-57), [(25, 1)]), ((-1), [(9, 1)]), (5, [(23, (-1))])])), (1, ([], [(0, []), (1, []), (54, [(25, (-1))]), ((-57), [(25, 1)]), ((-1), [(9, 1)])])), (1, ([], [(0, []), (1, []), (56, [(25, (-1))]), ((-58), [(25, 1)]), (19, [(8, (-1)), (9, (-1))])]))])), ((3, []), ((0, []), (0, [])))))
set_option maxRecDepth 100000 in
def u45_2 : Nat × (qS × (qL × (qL × qL))) := (14, (([(0, (2, ((26729, []), (0, []))))], [], ([(90, (0, [(19, 1)])), (89, (0, [(20, 1)])), (31, (0, [(21, 1)])), (39, (0, [(3, 1)])), (438, (0, [(22, 1)])), (38, (0, [(5, 1)])), (41, (0, [(23, 1)])), (32, (0, [(24, 1)])), (53, (0, [(8, 1)])), (54, (0, [(9, 1)])), (59, (0, [(10, 1)])), (65, (0, [(11, 1)])), (55, (0, [(12, 1)])), (30, (0, [(25, 1)])), (5, (0, [(14, 1)])), (7, (0, [(26, 1)])), (13, (0, [(27, 1)])), (8, (0, [(17, 1)])), (6, (0, [(18, 1)]))], [(51, 0), (49, 1), (52, 2), (50, 3), (77, 4), (76, 5), (81, 6), (78, 7), (71, 8), (72, 9), (63, 10), (73, 11), (62, 12), (67, 13), (64, 14), (15, 16)]), (28, [(0, (0, 63)), (1, (0, 126)), (2, (0, 1026)), (3, (0, 1026)), (5, (0, 1025)), (6, (0, 10)), (7, ((-1), 5499)), (8, (0, 20)), (9, (0, 20)), (11, (0, 5500)), (13, ((-128), 199)), (14, (0, 32)), (15, (0, 1024)), (16, (0, 1024)), (17, (0, 8192)), (18, (0, 1024)), (4, (0, 1)), (10, (0, 961)), (12, (0, 1024)), (19, (0, 63)), (20, (0, 126)), (21, (0, 1025)), (23, (0, 0)), (24, ((-1), 5499)), (25, ((-128), 60)), (26, (0, 1024)), (27, (0, 1024)), (22, (0, 1))], [(0, [(16, (-1)), (27, 1)])], 17, [(16, 15)], [], [], [(29, ([1], [(0, [(3, 1)]), (1, [(3, 1)]), (0, [])])), (2, ([1], [(0, [(3, 1)]), (1, [(3, 1)]), (0, [])])), (27, ([0, 2], [(0, []), (0, [(3, 1)])])), (2, ([0], [(0, []), (0, [(3, 1)]), (0, [])])), (3, ([2], [(0, []), (0, [(3, 1)]), (1024, [])])), (3, ([13], [(0, []), (1, [(11, 1)]), (65536, [])])), (2, ([13], [(0, []), (1, [(11, 1)]), (0, [])])), (3, ([4], [(0, []), (1, [(8, 1)]), (0, [(10, 1)])])), (30, ([11], [(0, []), (0, [(11, 1)])])), (3, ([11], [(0, []), (1, [(11, 1)]), (32768, [])])), (2, ([11], [(0, []), (1, [(11, 1)]), (0, [])])), (3, ([11], [(0, []), (1, []), (0, [])])), (2, ([11], [(0, []), (1, []), (0, [])])), (3, ([14], [(0, []), (1, [(10, 1)]), (0, [(10, 1)])])), (31, ([1, 3], [(0, []), (0, [(3, 1)])])), (32, ([1, 3], [(0, []), (0, [(3, 1)])])), (30, ([16], [(0, []), (0, [(27, 1)])])), (3, ([7], [(0, []), (1, [(8, 1)]), (0, [(10, 1)])])), (3, ([5], [(0, []), (1, [(8, 1)]), (0, [(10, 1)])])), (3, ([8], [(0, []), (0, [(11, 1)]), (0, [(10, 1)])])), (3, ([9], [(0, []), (0, [(11, 1)]), (0, [(10, 1)])])), (2, ([7], [(0, [(8, 1)]), (1, [(8, 1)]), (1, [])])), (0, ([], [(0, []), (1, []), ((-2), [(25, (-1))]), ((-1), [(3, 1), (21, (-1))])])), (0, ([], [(0, []), (1, []), (5, [(25, 1)]), ((-2), [(3, 1), (21, (-1))])])), (1, ([], [(0, []), (1, []), ((-6), [(25, (-1))]), (4, [(25, 1)]), (0, [(24, 1)])])), (1, ([], [(0, []), (1, []), ((-6), [(25, (-1))]), (4, [(25, 1)]), ((-1), [(11, 1), (24, (-1))])]))])), ((2, []), ((0, []), (0, [])))))
set_option maxRecDepth 100000 in
def u45_3 : Nat × (qS × (qL × (qL × qL))) := (16, (([(0, (2, ((26729, []), (0, [])))), (2, (0, ((0, [(19, 1)]), (0, []))))], [], ([(90, (0, [(20, 1)])), (89, (0, [(21, 1)])), (31, (0, [(22, 1)])), (39, (0, [(3, 1)])), (438, (0, [(23, 1)])), (38, (0, [(5, 1)])), (41, (0, [(24, 1)])), (32, (0, [(25, 1)])), (53, (0, [(8, 1)])), (54, (0, [(9, 1)])), (59, (0, [(10, 1)])), (65, (0, [(11, 1)])), (55, (0, [(12, 1)])), (30, (0, [(26, 1)])), (5, (0, [(14, 1)])), (7, (0, [(27, 1)])), (13, (0, [(28, 1)])), (8, (0, [(17, 1)])), (6, (0, [(18, 1)]))], [(51, 0), (49, 1), (52, 2), (50, 3), (77, 4), (76, 5), (81, 6), (78, 7), (71, 8), (72, 9), (63, 10), (73, 11), (62, 12), (67, 13), (64, 14), (15, 16)]), (29, [(0, (0, 63)), (1, (0, 126)), (2, (0, 1026)), (3, (0, 1024)), (5, (0, 1025)), (6, (0, 10)), (7, ((-1), 5499)), (8, (0, 20)), (9, (0, 20)), (11, (0, 5500)), (13, ((-128), 199)), (14, (0, 31)), (15, (0, 1024)), (16, (0, 1024)), (17, (0, 8192)), (18, (0, 1024)), (4, (0, 1)), (10, (0, 961)), (12, (1, 1024)), (19, (0, 1026)), (20, (0, 63)), (21, (0, 126)), (22, (0, 1025)), (24, (0, 10)), (25, ((-1), 5499)), (26, ((-128), 199)), (27, (0, 1024)), (28, (0, 1024)), (23, (0, 1))], [(0, [(16, (-1)), (28, 1)]), (1, [(19, (-1)), (22, 1)]), (0, [(3, 1), (22, (-1))]), (0, [(23, (-1)), (24, 1)]), (0, [(23, 10), (24, (-1))])], 17, [(16, 15)], [], [], [(29, ([1], [(0, [(3, 1)]), (1, [(3, 1)]), (0, [])])), (2, ([1], [(0, [(3, 1)]), (1, [(3, 1)]), (0, [])])), (27, ([0, 2], [(0, []), (0, [(3, 1)])])), (2, ([0], [(0, []), (0, [(3, 1)]), (0, [])])), (3, ([2], [(0, []), (0, [(3, 1)]), (1024, [])])), (3, ([13], [(0, []), (1, [(11, 1)]), (65536, [])])), (2, ([13], [(0, []), (1, [(11, 1)]), (0, [])])), (3, ([4], [(0, []), (1, [(8, 1)]), (0, [(10, 1)])])), (30, ([11], [(0, []), (0, [(11, 1)])])), (3, ([11], [(0, []), (1, [(11, 1)]), (32768, [])])), (2, ([11], [(0, []), (1, [(11, 1)]), (0, [])])), (3, ([11], [(0, []), (1, []), (0, [])])), (2, ([11], [(0, []), (1, []), (0, [])])), (3, ([14], [(0, []), (1, [(10, 1)]), (0, [(10, 1)])])), (31, ([1, 3], [(0, []), (0, [(3, 1)])])), (32, ([1, 3], [(0, []), (0, [(3, 1)])])), (30, ([16], [(0, []), (0, [(28, 1)])])), (3, ([7], [(0, []), (1, [(8, 1)]), (0, [(10, 1)])])), (3, ([5], [(0, []), (1, [(8, 1)]), (0, [(10, 1)])])), (3, ([8], [(0, []), (0, [(11, 1)]), (0, [(10, 1)])])), (3, ([9], [(0, []), (0, [(11, 1)]), (0, [(10, 1)])])), (2, ([7], [(0, [(8, 1)]), (1, [(8, 1)]), (1, [])])), (0, ([], [(0, []), (1, []), ((-2), [(26, (-1))]), ((-1), [(3, 1), (22, (-1))])])), (0, ([], [(0, []), (1, []), (5, [(26, 1)]), ((-2), [(3, 1), (22, (-1))])])), (1, ([], [(0, []), (1, []), ((-6), [(26, (-1))]), (4, [(26, 1)]), (0, [(25, 1)])])), (1, ([], [(0, []), (1, []), ((-6), [(26, (-1))]), (4, [(26, 1)]), ((-1), [(11, 1), (25, (-1))])])), (13, ([], [(0, []), (1, []), (54, [(26, (-1))]), ((-57), [(26, 1)]), ((-1), [(9, 1)]), ((-1), [(24, 1)])])), (13, ([], [(0, []), (1, []), (54, [(26, (-1))]), ((-57), [(26, 1)]), ((-1), [(9, 1)]), (5, [(24, (-1))])])), (1, ([], [(0, []), (1, []), (54, [(26, (-1))]), ((-57), [(26, 1)]), ((-1), [(9, 1)])])), (1, ([], [(0, []), (1, []), (56, [(26, (-1))]), ((-58), [(26, 1)]), (19, [(8, (-1)), (9, (-1))])])), (1, ([], [(0, []), (1, []), ((-6), [(26, (-1))]), (4, [(26, 1)]), (19, [(8, (-1)), (9, (-1))])]))])), ((1, []), ((65664, [(19, (-64)), (22, 64)]), (0, [])))))
set_option maxRecDepth 100000 in
def u45_4 : Nat × (qS × (qL × (qL × qL))) := (36, (([(0, (2, ((26729, []), (0, [])))), (2, (0, ((0, [(19, 1)]), (0, []))))], [], ([(90, (0, [(20, 1)])), (89, (0, [(21, 1)])), (31, (0, [(22, 1)])), (39, (0, [(3, 1)])), (438, (0, [(23, 1)])), (38, (0, [(5, 1)])), (41, (0, [(24, 1)])), (32, (0, [(25, 1)])), (53, (0, [(8, 1)])), (54, (0, [(9, 1)])), (59, (0, [(10, 1)])), (65, (0, [(11, 1)])), (55, (0, [(12, 1)])), (30, (0, [(26, 1)])), (5, (0, [(14, 1)])), (7, (0, [(27, 1)])), (13, (0, [(28, 1)])), (8, (0, [(17, 1)])), (6, (0, [(18, 1)]))], [(51, 0), (49, 1), (52, 2), (50, 3), (77, 4), (76, 5), (81, 6), (78, 7), (71, 8), (72, 9), (63, 10), (73, 11), (62, 12), (67, 13), (64, 14), (15, 16)]), (29, [(0, (0, 63)), (1, (0, 126)), (2, (0, 1026)), (3, (0, 1024)), (5, (0, 1025)), (6, (0, 10)), (7, ((-1), 5499)), (8, (0, 20)), (9, (0, 20)), (11, (0, 5500)), (13, ((-128), 199)), (14, (0, 32)), (15, (0, 1024)), (16, (0, 1024)), (17, (0, 8192)), (18, (0, 1024)), (4, (0, 1)), (10, (0, 961)), (12, (0, 1024)), (19, (1, 1026)), (20, (0, 63)), (21, (0, 126)), (22, (0, 1025)), (24, (0, 10)), (25, ((-1), 5499)), (26, (62, 63)), (27, (0, 1024)), (28, (0, 1024)), (23, (0, 1))], [(0, [(16, (-1)), (28, 1)]), (1, [(3, 1), (19, (-1))]), (0, [(23, (-1)), (24, 1)]), (0, [(23, 10), (24, (-1))])], 17, [(16, 15)], [], [], [(29, ([1], [(0, [(3, 1)]), (1, [(3, 1)]), (0, [])])), (2, ([1], [(0, [(3, 1)]), (1, [(3, 1)]), (0, [])])), (27, ([0, 2], [(0, []), (0, [(3, 1)])])), (2, ([0], [(0, []), (0, [(3, 1)]), (0, [])])), (3, ([2], [(0, []), (0, [(3, 1)]), (1024, [])])), (3, ([13], [(0, []), (1, [(11, 1)]), (65536, [])])), (2, ([13], [(0, []), (1, [(11, 1)]), (0, [])])), (3, ([4], [(0, []), (1, [(8, 1)]), (0, [(10, 1)])])), (30, ([11], [(0, []), (0, [(11, 1)])])), (3, ([11], [(0, []), (1, [(11, 1)]), (32768, [])])), (2, ([11], [(0, []), (1, [(11, 1)]), (0, [])])), (3, ([11], [(0, []), (1, []), (0, [])])), (2, ([11], [(0, []), (1, []), (0, [])])), (3, ([14], [(0, []), (1, [(10, 1)]), (0, [(10, 1)])])), (31, ([1, 3], [(0, []), (0, [(3, 1)])])), (32, ([1, 3], [(0, []), (0, [(3, 1)])])), (30, ([16], [(0, []), (0, [(28, 1)])])), (3, ([7], [(0, []), (1, [(8, 1)]), (0, [(10, 1)])])), (3, ([5], [(0, []), (1, [(8, 1)]), (0, [(10, 1)])])), (3, ([8], [(0, []), (0, [(11, 1)]), (0, [(10, 1)])])), (3, ([9], [(0, []), (0, [(11, 1)]), (0, [(10, 1)])])), (2, ([7], [(0, [(8, 1)]), (1, [(8, 1)]), (1, [])])), (0, ([], [(0, []), (1, []), ((-2), [(26, (-1))]), ((-1), [(3, 1), (22, (-1))])])), (0, ([], [(0, []), (1, []), (5, [(26, 1)]), ((-2), [(3, 1), (22, (-1))])])), (1, ([], [(0, []), (1, []), ((-6), [(26, (-1))]), (4, [(26, 1)]), (0, [(25, 1)])])), (1, ([], [(0, []), (1, []), ((-6), [(26, (-1))]), (4, [(26, 1)]), ((-1), [(11, 1), (25, (-1))])])), (13, ([], [(0, []), (1, []), (54, [(26, (-1))]), ((-57), [(26, 1)]), ((-1), [(9, 1)]), ((-1), [(24, 1)])])), (13, ([], [(0, []), (1, []), (54, [(26, (-1))]), ((-57), [(26, 1)]), ((-1), [(9, 1)]), (5, [(24, (-1))])]))])), ((0, []), ((65664, [(3, 64), (19, (-64))]), (0, [])))))
def u45 : qCu := [u45_0, u45_1, u45_2, u45_3, u45_4]
set_option maxRecDepth 100000 in
theorem z45_s : zsm (zblk gAll cq45.2.2.2 t45 ruI2 ruJ2 rqL b45 cq45 (zrun gAll cq45.2.2.2 t45 ruI2 ruJ2 rqL b45 u45 cq45 none 300) 0 cq45.2.1 []) = true := sorry
set_option maxRecDepth 100000 in
theorem z45_0 : zsm (zfrom gAll cq45.2.2.2 t45 ruI2 ruJ2 rqL b45 u45 cq45 300 u45_0 []) = true := sorry
set_option maxRecDepth 100000 in
theorem z45_1 : zsm (zfrom gAll cq45.2.2.2 t45 ruI2 ruJ2 rqL b45 u45 cq45 300 u45_1 []) = true := sorry
set_option maxRecDepth 100000 in
theorem z45_2 : zsm (zfrom gAll cq45.2.2.2 t45 ruI2 ruJ2 rqL b45 u45 cq45 300 u45_2 []) = true := sorry
set_option maxRecDepth 100000 in
theorem z45_3 : zsm (zfrom gAll cq45.2.2.2 t45 ruI2 ruJ2 rqL b45 u45 cq45 300 u45_3 []) = true := sorry
set_option maxRecDepth 100000 in
theorem z45_4 : zsm (zfrom gAll cq45.2.2.2 t45 ruI2 ruJ2 rqL b45 u45 cq45 300 u45_4 []) = true := sorry
theorem yr45 : yRun gAll t45 b45 cq45 := yRun_p (cuts := u45) (fuel := 300) gAll_tag ruI2_RtI ruJ2_RtJ rqL_ok ⟨zsm_e _ z45_s, List.forall_mem_cons.mpr ⟨zsm_e _ z45_0, List.forall_mem_cons.mpr ⟨zsm_e _ z45_1, List.forall_mem_cons.mpr ⟨zsm_e _ z45_2, List.forall_mem_cons.mpr ⟨zsm_e _ z45_3, List.forall_mem_cons.mpr ⟨zsm_e _ z45_4, yA_n⟩⟩⟩⟩⟩⟩
theorem zw45 : zwid cq45.2.1.1 cq45.1 0 3 = true := by decide +kernel
set_option maxRecDepth 100000 in
theorem yw45 : yRows gAll LAll yt1 mt45 gHo 3 0 (zby cX0_begin) p45 b45 p45 = true := by decide +kernel
set_option maxRecDepth 100000 in
theorem m45 (l : Launch) : kMet gAll LAll vwCl rFo rZs rRs rNs rTs l yX0_begin cX0_begin 3 none 4 99 cq45 := kmet_y2 (rt := 0) (by decide +kernel) yr45 zw45 rfl yw45 LAll_ok LAll_la yt1_ok gHo_ok rfl (fun G n Qf => List.forall_mem_cons.mpr ⟨⟨cq36, rfl, st46 l (by decide) (by decide)⟩, List.forall_mem_cons.mpr ⟨⟨cq39, rfl, st47 l (by decide) (by decide)⟩, List.forall_mem_cons.mpr ⟨⟨cq44, rfl, st48 l (by decide) (by decide)⟩, List.forall_mem_cons.mpr ⟨⟨cq9, rfl, st27 l (by decide) (by decide)⟩, List.forall_mem_cons.mpr ⟨⟨cq34, rfl, st49 l (by decide) (by decide)⟩, List.forall_mem_cons.mpr ⟨⟨cq13, rfl, st31 l (by decide) (by decide)⟩, List.forall_mem_cons.mpr ⟨⟨cq32, rfl, st32 l (by decide) (by decide)⟩, List.forall_mem_cons.mpr ⟨⟨cq29, rfl, st33 l (by decide) (by decide)⟩, List.forall_mem_cons.mpr ⟨⟨cq26, rfl, st28 l (by decide) (by decide)⟩, List.forall_mem_cons.mpr ⟨⟨cq25, rfl, st50 l (by decide) (by decide)⟩, List.forall_mem_cons.mpr ⟨⟨cq27, rfl, st34 l (by decide) (by decide)⟩, yA_n⟩⟩⟩⟩⟩⟩⟩⟩⟩⟩⟩) rfl (fun G n Rr => yA_n) rfl
/-! 46 Names.cut@x.units.names (I)V -/
set_option maxRecDepth 100000 in
def b46 : qCd := [([(34, 13, 0, 0), (35, 15, 0, 0), (38, 0, 0, 0)], (0, 0, 1, 0, [])),
  ([(3, 0, 2, 0), (24, 7, 13, 0), (3, 1, 0, 0)], (1, 5, 3, 2, [])),
  ([(3, 0, 2, 0), (7, 0, 0, 0), (24, 7, 13, 0), (0, 1, 0, 0), (38, 0, 0, 0), (15, 0, 0, 0), (36, 0, 0, 0), (38, 0, 0, 0), (26, 7, 13, 0), (3, 0, 2, 0), (25, 7, 17, 0), (3, 0, 2, 0), (25, 7, 15, 0), (3, 0, 2, 0), (24, 7, 13, 0), (38, 0, 0, 0), (28, 17, 0, 0), (3, 0, 2, 0), (25, 7, 13, 0), (3, 0, 2, 0), (24, 7, 13, 0), (38, 0, 0, 0), (28, 16, 0, 0), (38, 0, 0, 0), (29, 18, 0, 0), (34, 13, 0, 0), (35, 15, 0, 0), (38, 0, 0, 0)], (0, 0, 1, 0, [])),
  ([(34, 13, 0, 0), (35, 15, 0, 0), (38, 0, 0, 0)], (4, 0, 0, 0, []))]
def p46 : List Nat := [0, 0, 8, 44]
set_option maxRecDepth 100000 in
def cq46 : qCt := (2, (([(0, (2, ((7, []), (0, [])))), (1, (0, ((0, [(0, 1)]), (0, []))))], [], ([(13, (0, [(1, 1)]))], [(15, 0)]), (2, [(0, (0, 1024)), (1, (0, 1024))], [(0, [(0, (-1)), (1, 1)])], 1, [(0, 15)], [], [], [(30, ([0], [(0, []), (0, [(1, 1)])]))])), ([([], [], ([(13, (0, [(2, 1)]))], []), (3, [(2, (0, 1024))], [(0, [(0, 1), (2, (-1))]), (0, [(0, (-1)), (2, 1)])], 1, [], [], [], [(30, ([0], [(0, []), (0, [(2, 1)])]))]))], [13, 18])))
def t46 : List qCt := []
def mt46 : yMt := ([], ([], ([], [])))
theorem rc46 : yRc cq46 3 1 = true := by decide +kernel
set_option maxRecDepth 100000 in
def u46_0 : Nat × (qS × (qL × (qL × qL))) := (1, (([(0, (2, ((7, []), (0, [])))), (1, (0, ((0, [(0, 1)]), (0, []))))], [], ([(13, (0, [(2, 1)]))], [(15, 0)]), (3, [(0, (0, 2147483647)), (1, (0, 1024)), (2, (0, 1024))], [(0, [(0, (-1)), (2, 1)])], 1, [], [], [], [(30, ([0], [(0, []), (0, [(2, 1)])]))])), ((0, []), ((137438953408, [(0, (-64)), (2, 64)]), (0, [])))))
def u46 : qCu := [u46_0]
set_option maxRecDepth 100000 in
theorem z46_s : zsm (zblk gAll cq46.2.2.2 t46 ruI2 ruJ2 rqL b46 cq46 (zrun gAll cq46.2.2.2 t46 ruI2 ruJ2 rqL b46 u46 cq46 none 300) 0 cq46.2.1 [0, 1, 0, 1, 0]) = true := sorry
set_option maxRecDepth 100000 in
theorem z46_0 : zsm (zfrom gAll cq46.2.2.2 t46 ruI2 ruJ2 rqL b46 u46 cq46 300 u46_0 []) = true := sorry
theorem yr46 : yRun gAll t46 b46 cq46 := yRun_p (cuts := u46) (fuel := 300) gAll_tag ruI2_RtI ruJ2_RtJ rqL_ok ⟨zsm_e _ z46_s, List.forall_mem_cons.mpr ⟨zsm_e _ z46_0, yA_n⟩⟩
theorem zw46 : zwid cq46.2.1.1 cq46.1 0 2 = true := by decide +kernel
set_option maxRecDepth 100000 in
theorem yw46 : yRows gAll LAll yt8 mt46 gHo 2 0 (zby cX7_cut) p46 b46 p46 = true := by decide +kernel
set_option maxRecDepth 100000 in
theorem m46 (l : Launch) : kMet gAll LAll vwCl rFo rZs rRs rNs rTs l yX7_cut cX7_cut 2 none 0 0 cq46 := kmet_y2 (rt := 0) (by decide +kernel) yr46 zw46 rfl yw46 LAll_ok LAll_la yt8_ok gHo_ok rfl (fun G n Qf => yA_n) rfl (fun G n Rr => yA_n) rfl
/-! 47 Units.drop ()V -/
set_option maxRecDepth 100000 in
def b47 : qCd := [([(3, 0, 2, 0), (25, 5, 26659, 0), (3, 0, 2, 0), (24, 5, 5, 0), (38, 0, 0, 0), (27, 26659, 27, 0), (4, 1, 2, 0), (3, 0, 2, 0), (25, 5, 7, 0), (3, 1, 2, 0), (0, 0, 0, 0), (38, 0, 0, 0), (28, 27, 0, 0), (34, 13, 0, 0), (35, 15, 0, 0), (38, 0, 0, 0), (33, 0, 0, 0), (3, 0, 2, 0), (3, 1, 2, 0), (0, 1, 0, 0), (38, 0, 0, 0), (28, 27, 0, 0), (38, 0, 0, 0), (26, 5, 8, 0), (3, 0, 2, 0), (3, 1, 2, 0), (0, 2, 0, 0), (38, 0, 0, 0), (28, 27, 0, 0), (38, 0, 0, 0), (26, 5, 9, 0), (3, 0, 2, 0), (7, 0, 0, 0), (24, 5, 12, 0), (3, 1, 2, 0), (0, 4, 0, 0), (38, 0, 0, 0), (28, 27, 0, 0), (38, 0, 0, 0), (15, 0, 0, 0), (36, 0, 0, 0), (38, 0, 0, 0), (26, 5, 12, 0), (38, 0, 0, 0), (39, 435, 31, 0), (34, 5, 0, 0), (34, 12, 0, 0), (34, 432, 0, 0), (34, 433, 0, 0), (34, 435, 0, 0), (34, 430, 0, 0), (34, 431, 0, 0), (34, 13, 0, 0), (34, 8, 0, 0), (34, 9, 0, 0), (35, 15, 0, 0), (35, 27, 0, 0), (35, 22, 0, 0), (35, 23, 0, 0), (38, 0, 0, 0)], (4, 0, 0, 0, []))]
def p47 : List Nat := [0]
set_option maxRecDepth 100000 in
def cq47 : qCt := (1, (([(0, (2, ((5, []), (0, []))))], [], ([(5, (0, [(0, 1)])), (12, (0, [(1, 1)])), (432, (0, [(2, 1)])), (433, (0, [(3, 1)])), (435, (0, [(4, 1)])), (430, (0, [(5, 1)])), (431, (0, [(6, 1)])), (13, (0, [(7, 1)])), (8, (0, [(8, 1)])), (9, (0, [(9, 1)]))], [(15, 0), (27, 1), (22, 2), (23, 3)]), (10, [(0, (0, 31)), (1, (0, 4194304)), (7, (0, 1024)), (8, (0, 8192)), (9, (0, 4096)), (2, (0, 131072)), (3, (0, 1024)), (4, ((-1), 2097152)), (5, (0, 8192)), (6, (0, 4096))], [(0, [(3, (-1)), (7, 1)])], 4, [(0, 15), (1, 27), (2, 22), (3, 23)], [], [], [(30, ([0], [(0, []), (0, [(7, 1)])])), (1092, ([2, 1], [(0, [(0, 1)]), (0, [(5, 1)])])), (1095, ([3, 1], [(0, [(0, 1)]), (0, [(6, 1)]), (0, [(5, 1)])])), (1100, ([1], [(0, [(0, 1)])])), (34, ([1], [(1, []), (1, [(0, 1)]), (0, [(3, 1)])])), (35, ([1], [(1, []), (1, [(0, 1)]), (0, [(5, 1)])])), (36, ([1], [(1, []), (1, [(0, 1)]), (0, [(6, 1)])])), (2, ([1], [(0, [(0, 17)]), (1, [(0, 17)]), (0, [(3, 1)])])), (3, ([1], [(0, [(0, 17)]), (1, [(0, 17)]), (0, [(3, 1)])])), (2, ([1], [(1, [(0, 17)]), (2, [(0, 17)]), (0, [(5, 1)])])), (3, ([1], [(1, [(0, 17)]), (2, [(0, 17)]), (0, [(5, 1)])])), (2, ([1], [(2, [(0, 17)]), (3, [(0, 17)]), (0, [(6, 1)])])), (3, ([1], [(2, [(0, 17)]), (3, [(0, 17)]), (0, [(6, 1)])])), (2, ([1], [(4, [(0, 17)]), (5, [(0, 17)]), (0, [(1, 1), (2, (-1))])])), (3, ([1], [(4, [(0, 17)]), (5, [(0, 17)]), (0, [(1, 1), (2, (-1))])])), (1094, ([3, 2], [(0, [(6, 1)]), (0, [(5, 1)])])), (61, ([2], [(0, []), (0, [(5, 1)])]))])), ([([], [], ([(12, (0, [(10, 1)])), (435, (0, [(11, 1)])), (13, (0, [(12, 1)])), (8, (0, [(13, 1)])), (9, (0, [(14, 1)]))], []), (15, [(10, (0, 131072)), (12, (0, 1024)), (13, (0, 8192)), (14, (0, 4096)), (11, ((-1), (-1)))], [(0, [(5, (-1)), (13, 1)]), (0, [(6, (-1)), (14, 1)]), (0, [(3, (-1)), (12, 1)]), (0, [(2, (-1)), (10, 1)]), (0, [(5, 1), (13, (-1))]), (0, [(6, 1), (14, (-1))]), (0, [(3, 1), (12, (-1))]), (0, [(2, 1), (10, (-1))])], 4, [], [], [], [(30, ([0], [(0, []), (0, [(12, 1)])])), (1092, ([2, 1], [(0, [(0, 1)]), (0, [(5, 1)])])), (1095, ([3, 1], [(0, [(0, 1)]), (0, [(6, 1)]), (0, [(5, 1)])])), (1100, ([1], [(0, [(0, 1)])])), (34, ([1], [(1, []), (1, [(0, 1)]), (0, [(3, 1)])])), (35, ([1], [(1, []), (1, [(0, 1)]), (0, [(5, 1)])])), (36, ([1], [(1, []), (1, [(0, 1)]), (0, [(6, 1)])])), (1094, ([3, 2], [(0, [(6, 1)]), (0, [(5, 1)])])), (61, ([2], [(0, []), (0, [(5, 1)])]))]))], [8, 9, 12, 13, 18, 435])))
def t47 : List qCt := [cq46]
theorem hdV_X7_cut : yX7_cut.cls = RX7 ∧ yX7_cut.cls ≠ "java/lang/invoke/MethodHandle" ∧ yX7_cut.cls ≠ "java/lang/invoke/VarHandle" ∧ (parseMethodDescriptor yX7_cut.desc).map (fun d => d.parameters.length) = some 1 := by decide +kernel
theorem st51 (l : Launch) {G : rGm} {cc : ByteArray} {nL n fr lo : Nat} {ret : Option FieldType} {Qf : kQf} (hf : 1 ≤ fr) (hlo : 21 ≤ lo) : ySite gAll LAll vwCl rFo rZs rRs rNs rTs G l cc nL RX10 ret fr lo n Qf 182 61 cq46 := ys_V 1 3 9 rc46 lo_3 kc9 (m46 l) kGood kw707 kw614 kw615 kw18 kw612 hdV_X7_cut hf hlo
def mt47 : yMt := ([(182, (61, 0))], ([], ([], [])))
theorem rc47 : yRc cq47 2 0 = true := by decide +kernel
set_option maxRecDepth 100000 in
def u47 : qCu := []
set_option maxRecDepth 100000 in
theorem z47 : zchk gAll t47 ruI2 ruJ2 rqL b47 u47 cq47 300 [] = true := sorry
theorem yr47 : yRun gAll t47 b47 cq47 := yRun_z gAll_tag ruI2_RtI ruJ2_RtJ rqL_ok z47
theorem zw47 : zwid cq47.2.1.1 cq47.1 0 2 = true := by decide +kernel
set_option maxRecDepth 100000 in
theorem yw47 : yRows gAll LAll yt11 mt47 gHo 2 0 (zby cX10_drop) p47 b47 p47 = true := by decide +kernel
set_option maxRecDepth 100000 in
theorem m47 (l : Launch) : kMet gAll LAll vwCl rFo rZs rRs rNs rTs l yX10_drop cX10_drop 2 none 1 21 cq47 := kmet_y2 (rt := 0) (by decide +kernel) yr47 zw47 rfl yw47 LAll_ok LAll_la yt11_ok gHo_ok rfl (fun G n Qf => List.forall_mem_cons.mpr ⟨⟨cq46, rfl, st51 l (by decide) (by decide)⟩, yA_n⟩) rfl (fun G n Rr => yA_n) rfl
/-! 48 Assembler.fail (II)I -/
set_option maxRecDepth 100000 in
def b48 : qCd := [([(3, 0, 2, 0), (25, 26729, 5, 0), (34, 5, 0, 0), (34, 12, 0, 0), (34, 432, 0, 0), (34, 433, 0, 0), (34, 435, 0, 0), (34, 430, 0, 0), (34, 431, 0, 0), (34, 13, 0, 0), (34, 8, 0, 0), (34, 9, 0, 0), (35, 15, 0, 0), (35, 27, 0, 0), (35, 22, 0, 0), (35, 23, 0, 0), (38, 0, 0, 0), (33, 0, 0, 0), (3, 0, 2, 0), (3, 2, 0, 0), (38, 0, 0, 0), (26, 26729, 37, 0), (3, 1, 0, 0), (34, 37, 0, 0), (34, 438, 0, 0), (34, 5, 0, 0), (34, 12, 0, 0), (34, 432, 0, 0), (34, 433, 0, 0), (34, 435, 0, 0), (34, 430, 0, 0), (34, 431, 0, 0), (34, 13, 0, 0), (34, 8, 0, 0), (34, 9, 0, 0), (35, 15, 0, 0), (35, 27, 0, 0), (35, 22, 0, 0), (35, 23, 0, 0), (38, 0, 0, 0)], (5, 0, 0, 0, [((-2147483648), 0), (2147483647, 0)]))]
def p48 : List Nat := [0]
set_option maxRecDepth 100000 in
def cq48 : qCt := (3, (([(0, (2, ((26729, []), (0, [])))), (1, (0, ((0, [(0, 1)]), (0, [])))), (2, (0, ((0, [(1, 1)]), (0, []))))], [], ([(37, (0, [(2, 1)])), (438, (0, [(3, 1)])), (5, (0, [(4, 1)])), (12, (0, [(5, 1)])), (432, (0, [(6, 1)])), (433, (0, [(7, 1)])), (435, (0, [(8, 1)])), (430, (0, [(9, 1)])), (431, (0, [(10, 1)])), (13, (0, [(11, 1)])), (8, (0, [(12, 1)])), (9, (0, [(13, 1)]))], [(15, 0), (27, 1), (22, 2), (23, 3)]), (14, [(0, (0, 7)), (1, (0, 1024)), (4, (0, 31)), (5, (0, 4194304)), (11, (0, 1024)), (12, (0, 8192)), (13, (0, 4096)), (2, (0, 1024)), (3, (0, 1)), (6, (0, 131072)), (7, (0, 1024)), (8, ((-1), 2097152)), (9, (0, 8192)), (10, (0, 4096))], [(0, [(7, (-1)), (11, 1)])], 4, [(0, 15), (1, 27), (2, 22), (3, 23)], [], [], [(30, ([0], [(0, []), (0, [(11, 1)])])), (1092, ([2, 1], [(0, [(4, 1)]), (0, [(9, 1)])])), (1095, ([3, 1], [(0, [(4, 1)]), (0, [(10, 1)]), (0, [(9, 1)])])), (1100, ([1], [(0, [(4, 1)])])), (34, ([1], [(1, []), (1, [(4, 1)]), (0, [(7, 1)])])), (35, ([1], [(1, []), (1, [(4, 1)]), (0, [(9, 1)])])), (36, ([1], [(1, []), (1, [(4, 1)]), (0, [(10, 1)])])), (2, ([1], [(0, [(4, 17)]), (1, [(4, 17)]), (0, [(7, 1)])])), (3, ([1], [(0, [(4, 17)]), (1, [(4, 17)]), (0, [(7, 1)])])), (2, ([1], [(1, [(4, 17)]), (2, [(4, 17)]), (0, [(9, 1)])])), (3, ([1], [(1, [(4, 17)]), (2, [(4, 17)]), (0, [(9, 1)])])), (2, ([1], [(2, [(4, 17)]), (3, [(4, 17)]), (0, [(10, 1)])])), (3, ([1], [(2, [(4, 17)]), (3, [(4, 17)]), (0, [(10, 1)])])), (2, ([1], [(4, [(4, 17)]), (5, [(4, 17)]), (0, [(5, 1), (6, (-1))])])), (3, ([1], [(4, [(4, 17)]), (5, [(4, 17)]), (0, [(5, 1), (6, (-1))])])), (1094, ([3, 2], [(0, [(10, 1)]), (0, [(9, 1)])])), (61, ([2], [(0, []), (0, [(9, 1)])]))])), ([([], [(0, ((0, [(14, 1)]), (0, [])))], ([(37, (0, [(15, 1)])), (12, (0, [(16, 1)])), (435, (0, [(17, 1)])), (13, (0, [(18, 1)])), (8, (0, [(19, 1)])), (9, (0, [(20, 1)]))], []), (21, [(14, (0, 7)), (15, (0, 1024)), (16, (0, 131072)), (18, (0, 1024)), (19, (0, 8192)), (20, (0, 4096)), (17, ((-1), (-1))), (3, (0, 1))], [(0, [(0, 1), (14, (-1))]), (0, [(9, (-1)), (19, 1)]), (0, [(10, (-1)), (20, 1)]), (0, [(7, (-1)), (18, 1)]), (0, [(6, (-1)), (16, 1)]), (0, [(9, 1), (19, (-1))]), (0, [(10, 1), (20, (-1))]), (0, [(7, 1), (18, (-1))]), (0, [(6, 1), (16, (-1))])], 4, [], [], [], [(30, ([0], [(0, []), (0, [(18, 1)])])), (1092, ([2, 1], [(0, [(4, 1)]), (0, [(9, 1)])])), (1095, ([3, 1], [(0, [(4, 1)]), (0, [(10, 1)]), (0, [(9, 1)])])), (1100, ([1], [(0, [(4, 1)])])), (34, ([1], [(1, []), (1, [(4, 1)]), (0, [(7, 1)])])), (35, ([1], [(1, []), (1, [(4, 1)]), (0, [(9, 1)])])), (36, ([1], [(1, []), (1, [(4, 1)]), (0, [(10, 1)])])), (1094, ([3, 2], [(0, [(10, 1)]), (0, [(9, 1)])])), (61, ([2], [(0, []), (0, [(9, 1)])]))]))], [8, 9, 12, 13, 18, 37, 435])))
def t48 : List qCt := [cq47]
theorem hdV_X10_drop : yX10_drop.cls = RX10 ∧ yX10_drop.cls ≠ "java/lang/invoke/MethodHandle" ∧ yX10_drop.cls ≠ "java/lang/invoke/VarHandle" ∧ (parseMethodDescriptor yX10_drop.desc).map (fun d => d.parameters.length) = some 0 := by decide +kernel
theorem st52 (l : Launch) {G : rGm} {cc : ByteArray} {nL n fr lo : Nat} {ret : Option FieldType} {Qf : kQf} (hf : 2 ≤ fr) (hlo : 42 ≤ lo) : ySite gAll LAll vwCl rFo rZs rRs rNs rTs G l cc nL RX0 ret fr lo n Qf 182 116 cq47 := ys_V 0 2 12 rc47 lo_2 kc12 (m47 l) kGood kw1310 kw1311 kw1312 kw241 kw2122 hdV_X10_drop hf hlo
def mt48 : yMt := ([(182, (116, 0))], ([], ([], [])))
theorem rc48 : yRc cq48 13364 2 = true := by decide +kernel
set_option maxRecDepth 100000 in
def u48 : qCu := []
set_option maxRecDepth 100000 in
theorem z48 : zchk gAll t48 ruI2 ruJ2 rqL b48 u48 cq48 300 [] = true := sorry
theorem yr48 : yRun gAll t48 b48 cq48 := yRun_z gAll_tag ruI2_RtI ruJ2_RtJ rqL_ok z48
theorem zw48 : zwid cq48.2.1.1 cq48.1 0 3 = true := by decide +kernel
set_option maxRecDepth 100000 in
theorem yw48 : yRows gAll LAll yt1 mt48 gHo 3 1 (zby cX0_fail) p48 b48 p48 = true := by decide +kernel
set_option maxRecDepth 100000 in
theorem m48 (l : Launch) : kMet gAll LAll vwCl rFo rZs rRs rNs rTs l yX0_fail cX0_fail 3 (some .int) 2 42 cq48 := kmet_y2 (rt := 1) (by decide +kernel) yr48 zw48 rfl yw48 LAll_ok LAll_la yt1_ok gHo_ok rfl (fun G n Qf => List.forall_mem_cons.mpr ⟨⟨cq47, rfl, st52 l (by decide) (by decide)⟩, yA_n⟩) rfl (fun G n Rr => yA_n) rfl
/-! 49 Units.sectionOf/statements[] (I[I)I -/
set_option maxRecDepth 100000 in
def b49 : qCd := [([(3, 1, 0, 0), (0, (-2), 0, 0)], (1, 1, 2, 1, [])),
  ([(3, 2, 2, 0), (0, 1, 0, 0), (38, 0, 0, 0), (28, 22, 0, 0), (34, 438, 0, 0), (34, 5, 0, 0), (34, 437, 0, 0), (34, 436, 0, 0), (34, 435, 0, 0), (34, 430, 0, 0), (34, 431, 0, 0), (34, 10, 0, 0), (34, 8, 0, 0), (34, 9, 0, 0), (35, 27, 0, 0), (35, 22, 0, 0), (35, 23, 0, 0), (38, 0, 0, 0)], (5, 0, 0, 0, [((-2147483648), 0), (2147483647, 0)])),
  ([(3, 1, 0, 0)], (2, 2, 5, 3, [])),
  ([(3, 0, 2, 0), (25, 5, 19, 0), (3, 1, 0, 0), (38, 0, 0, 0), (27, 19, 19, 0), (0, 1, 0, 0), (38, 0, 0, 0), (28, 19, 0, 0), (0, 1, 0, 0), (38, 0, 0, 0), (18, 0, 0, 0)], (2, 0, 5, 4, [])),
  ([(3, 0, 2, 0), (25, 5, 19, 0), (3, 1, 0, 0), (38, 0, 0, 0), (27, 19, 19, 0), (0, 2, 0, 0), (38, 0, 0, 0), (28, 19, 0, 0)], (0, 0, 6, 0, [])),
  ([(0, (-1), 0, 0)], (0, 0, 6, 0, [])),
  ([(34, 438, 0, 0), (34, 5, 0, 0), (34, 437, 0, 0), (34, 436, 0, 0), (34, 435, 0, 0), (34, 430, 0, 0), (34, 431, 0, 0), (34, 10, 0, 0), (34, 8, 0, 0), (34, 9, 0, 0), (35, 27, 0, 0), (35, 22, 0, 0), (35, 23, 0, 0), (38, 0, 0, 0)], (5, 0, 0, 0, [((-2147483648), 0), (2147483647, 0)]))]
def p49 : List Nat := [0, 6, 10, 14, 27, 38, 39]
set_option maxRecDepth 100000 in
def cq49 : qCt := (3, (([(0, (2, ((5, []), (0, [])))), (1, (0, ((0, [(0, 1)]), (0, [])))), (2, (2, ((2075, [(1, 2)]), (0, []))))], [], ([(438, (0, [(2, 1)])), (5, (0, [(3, 1)])), (437, (0, [(4, 1)])), (436, (0, [(5, 1)])), (435, (0, [(6, 1)])), (430, (0, [(7, 1)])), (431, (0, [(8, 1)])), (10, (0, [(9, 1)])), (8, (0, [(10, 1)])), (9, (0, [(11, 1)]))], [(27, 0), (22, 1), (23, 2)]), (12, [(1, (0, 8191)), (0, ((-2), 1023)), (2, (0, 1)), (3, (0, 32)), (4, (0, 1)), (5, (0, 5000)), (6, ((-1), 2097152)), (7, (0, 8192)), (8, (0, 4096)), (9, (0, 131072)), (10, (0, 8192)), (11, (0, 4096))], [], 3, [(0, 27), (1, 22), (2, 23)], [], [], [(1092, ([1, 0], [(0, [(3, 1)]), (0, [(7, 1)])])), (1094, ([2, 1], [(0, [(8, 1)]), (0, [(7, 1)])])), (61, ([1], [(0, []), (0, [(7, 1)])])), (37, ([1], [(0, [(7, 1)]), (0, [(10, 1)]), ((-1), [(2, 1), (4, 1)])])), (1096, ([2, 1], [(0, [(8, 1)]), (0, [(11, 1)]), (0, [(10, 1)]), (0, [(6, 1)]), ((-1), [(2, 1), (4, 1)])])), (39, ([1], [(0, [(7, 1)]), (0, [(10, 1)])])), (1090, ([1], [(0, [(7, 1)]), (0, [(10, 1)])])), (1098, ([1], [(0, [(7, 1)]), (0, [(10, 1)]), (0, [(5, 1)]), ((-1), [(2, 1), (4, 1)])])), (1103, ([1, 2], [(0, [(7, 1)]), (0, [(10, 1)]), (0, [(11, 1)]), ((-1), [(2, 1), (4, 1)])])), (40, ([1], [(0, [(7, 1)]), (0, [(10, 1)]), (0, [(9, 1)]), ((-1), [(2, 1), (4, 1)])])), (41, ([1], [(0, [(7, 1)]), (0, [(10, 1)]), (0, [(9, 1)]), ((-1), [(2, 1), (4, 1)])])), (42, ([1], [(0, [(7, 1)]), (0, [(10, 1)]), (0, [(9, 1)]), ((-1), [(2, 1), (4, 1)])])), (43, ([1], [(0, [(7, 1)]), (0, [(10, 1)]), (0, [(9, 1)]), ((-1), [(2, 1), (4, 1)])])), (56, ([1], [(0, [(7, 1)]), (0, [(10, 1)])]))])), ([([], [(0, ((0, [(12, 1)]), (0, [])))], ([], []), (13, [(12, ((-1), (-1))), (2, (0, 1))], [], 3, [], [], [], [(1092, ([1, 0], [(0, [(3, 1)]), (0, [(7, 1)])])), (1094, ([2, 1], [(0, [(8, 1)]), (0, [(7, 1)])])), (61, ([1], [(0, []), (0, [(7, 1)])])), (37, ([1], [(0, [(7, 1)]), (0, [(10, 1)]), ((-1), [(2, 1), (4, 1)])])), (1096, ([2, 1], [(0, [(8, 1)]), (0, [(11, 1)]), (0, [(10, 1)]), (0, [(6, 1)]), ((-1), [(2, 1), (4, 1)])])), (39, ([1], [(0, [(7, 1)]), (0, [(10, 1)])])), (1090, ([1], [(0, [(7, 1)]), (0, [(10, 1)])])), (1098, ([1], [(0, [(7, 1)]), (0, [(10, 1)]), (0, [(5, 1)]), ((-1), [(2, 1), (4, 1)])])), (1103, ([1, 2], [(0, [(7, 1)]), (0, [(10, 1)]), (0, [(11, 1)]), ((-1), [(2, 1), (4, 1)])])), (40, ([1], [(0, [(7, 1)]), (0, [(10, 1)]), (0, [(9, 1)]), ((-1), [(2, 1), (4, 1)])])), (41, ([1], [(0, [(7, 1)]), (0, [(10, 1)]), (0, [(9, 1)]), ((-1), [(2, 1), (4, 1)])])), (42, ([1], [(0, [(7, 1)]), (0, [(10, 1)]), (0, [(9, 1)]), ((-1), [(2, 1), (4, 1)])])), (43, ([1], [(0, [(7, 1)]), (0, [(10, 1)]), (0, [(9, 1)]), ((-1), [(2, 1), (4, 1)])])), (56, ([1], [(0, [(7, 1)]), (0, [(10, 1)])]))])),
   ([], [(0, ((0, [(12, 1)]), (0, [])))], ([], []), (13, [(12, (0, 2147483647)), (2, (0, 1)), (0, (0, 9223372036854775807))], [(0, [(0, 1)])], 3, [], [], [], [(1092, ([1, 0], [(0, [(3, 1)]), (0, [(7, 1)])])), (1094, ([2, 1], [(0, [(8, 1)]), (0, [(7, 1)])])), (61, ([1], [(0, []), (0, [(7, 1)])])), (37, ([1], [(0, [(7, 1)]), (0, [(10, 1)]), ((-1), [(2, 1), (4, 1)])])), (1096, ([2, 1], [(0, [(8, 1)]), (0, [(11, 1)]), (0, [(10, 1)]), (0, [(6, 1)]), ((-1), [(2, 1), (4, 1)])])), (39, ([1], [(0, [(7, 1)]), (0, [(10, 1)])])), (1090, ([1], [(0, [(7, 1)]), (0, [(10, 1)])])), (1098, ([1], [(0, [(7, 1)]), (0, [(10, 1)]), (0, [(5, 1)]), ((-1), [(2, 1), (4, 1)])])), (1103, ([1, 2], [(0, [(7, 1)]), (0, [(10, 1)]), (0, [(11, 1)]), ((-1), [(2, 1), (4, 1)])])), (40, ([1], [(0, [(7, 1)]), (0, [(10, 1)]), (0, [(9, 1)]), ((-1), [(2, 1), (4, 1)])])), (41, ([1], [(0, [(7, 1)]), (0, [(10, 1)]), (0, [(9, 1)]), ((-1), [(2, 1), (4, 1)])])), (42, ([1], [(0, [(7, 1)]), (0, [(10, 1)]), (0, [(9, 1)]), ((-1), [(2, 1), (4, 1)])])), (43, ([1], [(0, [(7, 1)]), (0, [(10, 1)]), (0, [(9, 1)]), ((-1), [(2, 1), (4, 1)])])), (56, ([1], [(0, [(7, 1)]), (0, [(10, 1)])]))])),
   ([], [(0, ((0, [(12, 1)]), (0, [])))], ([], []), (13, [(12, (0, 2147483647)), (2, (0, 1)), (0, ((-9223372036854775808), (-2)))], [((-2), [(0, (-1))])], 3, [], [], [], [(1092, ([1, 0], [(0, [(3, 1)]), (0, [(7, 1)])])), (1094, ([2, 1], [(0, [(8, 1)]), (0, [(7, 1)])])), (61, ([1], [(0, []), (0, [(7, 1)])])), (37, ([1], [(0, [(7, 1)]), (0, [(10, 1)]), ((-1), [(2, 1), (4, 1)])])), (1096, ([2, 1], [(0, [(8, 1)]), (0, [(11, 1)]), (0, [(10, 1)]), (0, [(6, 1)]), ((-1), [(2, 1), (4, 1)])])), (39, ([1], [(0, [(7, 1)]), (0, [(10, 1)])])), (1090, ([1], [(0, [(7, 1)]), (0, [(10, 1)])])), (1098, ([1], [(0, [(7, 1)]), (0, [(10, 1)]), (0, [(5, 1)]), ((-1), [(2, 1), (4, 1)])])), (1103, ([1, 2], [(0, [(7, 1)]), (0, [(10, 1)]), (0, [(11, 1)]), ((-1), [(2, 1), (4, 1)])])), (40, ([1], [(0, [(7, 1)]), (0, [(10, 1)]), (0, [(9, 1)]), ((-1), [(2, 1), (4, 1)])])), (41, ([1], [(0, [(7, 1)]), (0, [(10, 1)]), (0, [(9, 1)]), ((-1), [(2, 1), (4, 1)])])), (42, ([1], [(0, [(7, 1)]), (0, [(10, 1)]), (0, [(9, 1)]), ((-1), [(2, 1), (4, 1)])])), (43, ([1], [(0, [(7, 1)]), (0, [(10, 1)]), (0, [(9, 1)]), ((-1), [(2, 1), (4, 1)])])), (56, ([1], [(0, [(7, 1)]), (0, [(10, 1)])]))])),
   ([], [(0, ((0, [(12, 1)]), (0, [])))], ([], []), (13, [(12, ((-1), (-1))), (2, (0, 1))], [], 3, [], [], [], [(1092, ([1, 0], [(0, [(3, 1)]), (0, [(7, 1)])])), (1094, ([2, 1], [(0, [(8, 1)]), (0, [(7, 1)])])), (61, ([1], [(0, []), (0, [(7, 1)])])), (37, ([1], [(0, [(7, 1)]), (0, [(10, 1)]), ((-1), [(2, 1), (4, 1)])])), (1096, ([2, 1], [(0, [(8, 1)]), (0, [(11, 1)]), (0, [(10, 1)]), (0, [(6, 1)]), ((-1), [(2, 1), (4, 1)])])), (39, ([1], [(0, [(7, 1)]), (0, [(10, 1)])])), (1090, ([1], [(0, [(7, 1)]), (0, [(10, 1)])])), (1098, ([1], [(0, [(7, 1)]), (0, [(10, 1)]), (0, [(5, 1)]), ((-1), [(2, 1), (4, 1)])])), (1103, ([1, 2], [(0, [(7, 1)]), (0, [(10, 1)]), (0, [(11, 1)]), ((-1), [(2, 1), (4, 1)])])), (54, ([1], [(0, [(7, 1)]), (0, [(10, 1)])])), (40, ([1], [(0, [(7, 1)]), (0, [(10, 1)]), (0, [(9, 1)]), ((-1), [(2, 1), (4, 1)])])), (41, ([1], [(0, [(7, 1)]), (0, [(10, 1)]), (0, [(9, 1)]), ((-1), [(2, 1), (4, 1)])])), (42, ([1], [(0, [(7, 1)]), (0, [(10, 1)]), (0, [(9, 1)]), ((-1), [(2, 1), (4, 1)])])), (43, ([1], [(0, [(7, 1)]), (0, [(10, 1)]), (0, [(9, 1)]), ((-1), [(2, 1), (4, 1)])])), (56, ([1], [(0, [(7, 1)]), (0, [(10, 1)])]))])),
   ([], [(0, ((0, [(12, 1)]), (0, [])))], ([], []), (13, [(12, (0, 2147483647)), (2, (0, 1)), (0, (0, 9223372036854775807))], [(0, [(0, 1)])], 3, [], [], [], [(1092, ([1, 0], [(0, [(3, 1)]), (0, [(7, 1)])])), (1094, ([2, 1], [(0, [(8, 1)]), (0, [(7, 1)])])), (61, ([1], [(0, []), (0, [(7, 1)])])), (37, ([1], [(0, [(7, 1)]), (0, [(10, 1)]), ((-1), [(2, 1), (4, 1)])])), (1096, ([2, 1], [(0, [(8, 1)]), (0, [(11, 1)]), (0, [(10, 1)]), (0, [(6, 1)]), ((-1), [(2, 1), (4, 1)])])), (39, ([1], [(0, [(7, 1)]), (0, [(10, 1)])])), (1090, ([1], [(0, [(7, 1)]), (0, [(10, 1)])])), (1098, ([1], [(0, [(7, 1)]), (0, [(10, 1)]), (0, [(5, 1)]), ((-1), [(2, 1), (4, 1)])])), (1103, ([1, 2], [(0, [(7, 1)]), (0, [(10, 1)]), (0, [(11, 1)]), ((-1), [(2, 1), (4, 1)])])), (54, ([1], [(0, [(7, 1)]), (0, [(10, 1)])])), (40, ([1], [(0, [(7, 1)]), (0, [(10, 1)]), (0, [(9, 1)]), ((-1), [(2, 1), (4, 1)])])), (41, ([1], [(0, [(7, 1)]), (0, [(10, 1)]), (0, [(9, 1)]), ((-1), [(2, 1), (4, 1)])])), (42, ([1], [(0, [(7, 1)]), (0, [(10, 1)]), (0, [(9, 1)]), ((-1), [(2, 1), (4, 1)])])), (43, ([1], [(0, [(7, 1)]), (0, [(10, 1)]), (0, [(9, 1)]), ((-1), [(2, 1), (4, 1)])])), (56, ([1], [(0, [(7, 1)]), (0, [(10, 1)])]))])),
   ([], [(0, ((0, [(12, 1)]), (0, [])))], ([], []), (13, [(12, (0, 2147483647)), (2, (0, 1)), (0, ((-9223372036854775808), (-2)))], [((-2), [(0, (-1))])], 3, [], [], [], [(1092, ([1, 0], [(0, [(3, 1)]), (0, [(7, 1)])])), (1094, ([2, 1], [(0, [(8, 1)]), (0, [(7, 1)])])), (61, ([1], [(0, []), (0, [(7, 1)])])), (37, ([1], [(0, [(7, 1)]), (0, [(10, 1)]), ((-1), [(2, 1), (4, 1)])])), (1096, ([2, 1], [(0, [(8, 1)]), (0, [(11, 1)]), (0, [(10, 1)]), (0, [(6, 1)]), ((-1), [(2, 1), (4, 1)])])), (39, ([1], [(0, [(7, 1)]), (0, [(10, 1)])])), (1090, ([1], [(0, [(7, 1)]), (0, [(10, 1)])])), (1098, ([1], [(0, [(7, 1)]), (0, [(10, 1)]), (0, [(5, 1)]), ((-1), [(2, 1), (4, 1)])])), (1103, ([1, 2], [(0, [(7, 1)]), (0, [(10, 1)]), (0, [(11, 1)]), ((-1), [(2, 1), (4, 1)])])), (54, ([1], [(0, [(7, 1)]), (0, [(10, 1)])])), (40, ([1], [(0, [(7, 1)]), (0, [(10, 1)]), (0, [(9, 1)]), ((-1), [(2, 1), (4, 1)])])), (41, ([1], [(0, [(7, 1)]), (0, [(10, 1)]), (0, [(9, 1)]), ((-1), [(2, 1), (4, 1)])])), (42, ([1], [(0, [(7, 1)]), (0, [(10, 1)]), (0, [(9, 1)]), ((-1), [(2, 1), (4, 1)])])), (43, ([1], [(0, [(7, 1)]), (0, [(10, 1)]), (0, [(9, 1)]), ((-1), [(2, 1), (4, 1)])])), (56, ([1], [(0, [(7, 1)]), (0, [(10, 1)])]))]))], [])))
def t49 : List qCt := []
def mt49 : yMt := ([], ([], ([], [])))
theorem rc49 : yRc cq49 2 2 = true := by decide +kernel
set_option maxRecDepth 100000 in
def u49 : qCu := []
set_option maxRecDepth 100000 in
theorem z49 : zchk gAll t49 ruI2 ruJ2 rqL b49 u49 cq49 300 [] = true := sorry
theorem yr49 : yRun gAll t49 b49 cq49 := yRun_z gAll_tag ruI2_RtI ruJ2_RtJ rqL_ok z49
theorem zw49 : zwid cq49.2.1.1 cq49.1 0 3 = true := by decide +kernel
set_option maxRecDepth 100000 in
theorem yw49 : yRows gAll LAll yt11 mt49 gHo 3 1 (zby cX10_sectionOf) p49 b49 p49 = true := by decide +kernel
set_option maxRecDepth 100000 in
theorem m49 (l : Launch) : kMet gAll LAll vwCl rFo rZs rRs rNs rTs l yX10_sectionOf cX10_sectionOf 3 (some .int) 0 0 cq49 := kmet_y2 (rt := 1) (by decide +kernel) yr49 zw49 rfl yw49 LAll_ok LAll_la yt11_ok gHo_ok rfl (fun G n Qf => yA_n) rfl (fun G n Rr => yA_n) rfl
/-! 50 Units.brokenSpan ()I -/
set_option maxRecDepth 100000 in
def b50 : qCd := [([(3, 0, 2, 0), (25, 5, 26659, 0), (3, 0, 2, 0), (24, 5, 5, 0), (38, 0, 0, 0), (27, 26659, 27, 0), (0, 2, 0, 0), (38, 0, 0, 0), (28, 27, 0, 0), (4, 1, 0, 0), (34, 438, 0, 0), (34, 5, 0, 0), (34, 12, 0, 0), (34, 432, 0, 0), (34, 437, 0, 0), (34, 436, 0, 0), (34, 433, 0, 0), (34, 435, 0, 0), (34, 430, 0, 0), (34, 431, 0, 0), (34, 10, 0, 0), (34, 8, 0, 0), (34, 9, 0, 0), (35, 27, 0, 0), (35, 22, 0, 0), (35, 23, 0, 0), (40, 1, 0, 0), (38, 0, 0, 0)], (0, 0, 1, 0, [])),
  ([(3, 1, 0, 0), (36, 0, 0, 0), (3, 0, 2, 0), (24, 5, 9, 0)], (1, 3, 7, 2, [])),
  ([(3, 0, 2, 0), (25, 5, 18459, 0), (3, 1, 0, 0), (36, 0, 0, 0), (38, 0, 0, 0), (27, 18459, 23, 0), (4, 2, 2, 0), (3, 0, 2, 0), (25, 5, 2073, 0), (3, 2, 2, 0), (0, 0, 0, 0), (38, 0, 0, 0), (28, 23, 0, 0), (38, 0, 0, 0), (27, 2073, 22, 0), (4, 3, 2, 0), (3, 2, 2, 0), (0, 5, 0, 0), (38, 0, 0, 0), (28, 23, 0, 0), (0, (-1), 0, 0)], (1, 0, 6, 3, [])),
  ([(3, 0, 2, 0), (3, 2, 2, 0), (0, 4, 0, 0), (38, 0, 0, 0), (28, 23, 0, 0), (3, 3, 2, 0), (34, 438, 0, 0), (34, 5, 0, 0), (34, 437, 0, 0), (34, 436, 0, 0), (34, 435, 0, 0), (34, 430, 0, 0), (34, 431, 0, 0), (34, 10, 0, 0), (34, 8, 0, 0), (34, 9, 0, 0), (35, 27, 0, 0), (35, 22, 0, 0), (35, 23, 0, 0), (38, 0, 0, 0), (33, 0, 0, 0), (4, 4, 0, 0), (3, 4, 0, 0), (0, (-1), 0, 0)], (1, 0, 5, 4, [])),
  ([(3, 4, 0, 0), (3, 0, 2, 0), (3, 2, 2, 0), (0, 5, 0, 0), (38, 0, 0, 0), (28, 23, 0, 0), (3, 3, 2, 0), (34, 438, 0, 0), (34, 5, 0, 0), (34, 437, 0, 0), (34, 436, 0, 0), (34, 435, 0, 0), (34, 430, 0, 0), (34, 431, 0, 0), (34, 10, 0, 0), (34, 8, 0, 0), (34, 9, 0, 0), (35, 27, 0, 0), (35, 22, 0, 0), (35, 23, 0, 0), (38, 0, 0, 0), (33, 0, 0, 0)], (1, 0, 6, 5, [])),
  ([(3, 3, 2, 0), (0, 2, 0, 0), (38, 0, 0, 0), (28, 22, 0, 0), (34, 438, 0, 0), (34, 5, 0, 0), (34, 12, 0, 0), (34, 432, 0, 0), (34, 437, 0, 0), (34, 436, 0, 0), (34, 433, 0, 0), (34, 435, 0, 0), (34, 430, 0, 0), (34, 431, 0, 0), (34, 10, 0, 0), (34, 8, 0, 0), (34, 9, 0, 0), (35, 27, 0, 0), (35, 22, 0, 0), (35, 23, 0, 0), (38, 0, 0, 0)], (5, 0, 0, 0, [((-2147483648), 0), (2147483647, 0)])),
  ([(5, 1, 1, 0), (34, 438, 0, 0), (34, 5, 0, 0), (34, 12, 0, 0), (34, 432, 0, 0), (34, 437, 0, 0), (34, 436, 0, 0), (34, 433, 0, 0), (34, 435, 0, 0), (34, 430, 0, 0), (34, 431, 0, 0), (34, 10, 0, 0), (34, 8, 0, 0), (34, 9, 0, 0), (35, 27, 0, 0), (35, 22, 0, 0), (35, 23, 0, 0), (40, 1, 0, 0), (38, 0, 0, 0)], (0, 0, 1, 0, [])),
  ([(0, 0, 0, 0), (34, 438, 0, 0), (34, 5, 0, 0), (34, 12, 0, 0), (34, 432, 0, 0), (34, 437, 0, 0), (34, 436, 0, 0), (34, 433, 0, 0), (34, 435, 0, 0), (34, 430, 0, 0), (34, 431, 0, 0), (34, 10, 0, 0), (34, 8, 0, 0), (34, 9, 0, 0), (35, 27, 0, 0), (35, 22, 0, 0), (35, 23, 0, 0), (38, 0, 0, 0)], (5, 0, 0, 0, [((-2147483648), 0), (2147483647, 0)]))]
def p50 : List Nat := [0, 12, 20, 43, 59, 72, 76, 82]
set_option maxRecDepth 100000 in
def cq50 : qCt := (1, (([(0, (2, ((5, []), (0, []))))], [], ([(438, (0, [(0, 1)])), (5, (0, [(1, 1)])), (12, (0, [(2, 1)])), (432, (0, [(3, 1)])), (437, (0, [(4, 1)])), (436, (0, [(5, 1)])), (433, (0, [(6, 1)])), (435, (0, [(7, 1)])), (430, (0, [(8, 1)])), (431, (0, [(9, 1)])), (10, (0, [(10, 1)])), (8, (0, [(11, 1)])), (9, (0, [(12, 1)]))], [(27, 0), (22, 1), (23, 2)]), (13, [(1, (0, 31)), (12, (0, 4096)), (0, (0, 0)), (2, (0, 4194304)), (3, (0, 131072)), (4, (0, 0)), (5, (0, 5000)), (6, (0, 1024)), (7, ((-1), 2097152)), (8, (0, 8192)), (9, (0, 4096)), (10, (0, 131072)), (11, (0, 8192))], [], 3, [(0, 27), (1, 22), (2, 23)], [], [], [(1092, ([1, 0], [(0, [(1, 1)]), (0, [(8, 1)])])), (1094, ([2, 1], [(0, [(9, 1)]), (0, [(8, 1)])])), (1095, ([2, 0], [(0, [(1, 1)]), (0, [(9, 1)]), (0, [(8, 1)])])), (1100, ([0], [(0, [(1, 1)])])), (34, ([0], [(1, []), (1, [(1, 1)]), (0, [(6, 1)])])), (35, ([0], [(1, []), (1, [(1, 1)]), (0, [(8, 1)])])), (36, ([0], [(1, []), (1, [(1, 1)]), (0, [(9, 1)])])), (61, ([1], [(0, []), (0, [(8, 1)])])), (37, ([1], [(0, [(8, 1)]), (0, [(11, 1)]), ((-1), [(0, 1), (4, 1)])])), (1096, ([2, 1], [(0, [(9, 1)]), (0, [(12, 1)]), (0, [(11, 1)]), (0, [(7, 1)]), ((-1), [(0, 1), (4, 1)])])), (39, ([1], [(0, [(8, 1)]), (0, [(11, 1)])])), (1090, ([1], [(0, [(8, 1)]), (0, [(11, 1)])])), (1098, ([1], [(0, [(8, 1)]), (0, [(11, 1)]), (0, [(5, 1)]), ((-1), [(0, 1), (4, 1)])])), (1103, ([1, 2], [(0, [(8, 1)]), (0, [(11, 1)]), (0, [(12, 1)]), ((-1), [(0, 1), (4, 1)])])), (54, ([1], [(0, [(8, 1)]), (0, [(11, 1)])])), (51, ([2], [(0, [(9, 1)]), (0, [(12, 1)]), (0, [(11, 1)]), ((-1), [(0, 1), (4, 1)])])), (50, ([2], [(0, [(9, 1)]), (0, [(12, 1)]), (0, [(8, 1)])])), (40, ([1], [(0, [(8, 1)]), (0, [(11, 1)]), (0, [(10, 1)]), ((-1), [(0, 1), (4, 1)])])), (41, ([1], [(0, [(8, 1)]), (0, [(11, 1)]), (0, [(10, 1)]), ((-1), [(0, 1), (4, 1)])])), (42, ([1], [(0, [(8, 1)]), (0, [(11, 1)]), (0, [(10, 1)]), ((-1), [(0, 1), (4, 1)])])), (43, ([1], [(0, [(8, 1)]), (0, [(11, 1)]), (0, [(10, 1)]), ((-1), [(0, 1), (4, 1)])])), (2, ([0], [(0, [(1, 17)]), (1, [(1, 17)]), (0, [(6, 1)])])), (3, ([0], [(0, [(1, 17)]), (1, [(1, 17)]), (0, [(6, 1)])])), (2, ([0], [(1, [(1, 17)]), (2, [(1, 17)]), (0, [(8, 1)])])), (3, ([0], [(1, [(1, 17)]), (2, [(1, 17)]), (0, [(8, 1)])])), (2, ([0], [(2, [(1, 17)]), (3, [(1, 17)]), (0, [(9, 1)])])), (3, ([0], [(2, [(1, 17)]), (3, [(1, 17)]), (0, [(9, 1)])])), (2, ([0], [(4, [(1, 17)]), (5, [(1, 17)]), (0, [(2, 1), (3, (-1))])])), (3, ([0], [(4, [(1, 17)]), (5, [(1, 17)]), (0, [(2, 1), (3, (-1))])])), (56, ([1], [(0, [(8, 1)]), (0, [(11, 1)])]))])), ([([], [(0, ((0, [(13, 1)]), (0, [])))], ([], []), (14, [(13, (0, 0)), (0, (0, 1))], [], 3, [], [], [], [(1092, ([1, 0], [(0, [(1, 1)]), (0, [(8, 1)])])), (1094, ([2, 1], [(0, [(9, 1)]), (0, [(8, 1)])])), (1095, ([2, 0], [(0, [(1, 1)]), (0, [(9, 1)]), (0, [(8, 1)])])), (1100, ([0], [(0, [(1, 1)])])), (34, ([0], [(1, []), (1, [(1, 1)]), (0, [(6, 1)])])), (35, ([0], [(1, []), (1, [(1, 1)]), (0, [(8, 1)])])), (36, ([0], [(1, []), (1, [(1, 1)]), (0, [(9, 1)])])), (61, ([1], [(0, []), (0, [(8, 1)])])), (37, ([1], [(0, [(8, 1)]), (0, [(11, 1)]), ((-1), [(0, 1), (4, 1)])])), (1096, ([2, 1], [(0, [(9, 1)]), (0, [(12, 1)]), (0, [(11, 1)]), (0, [(7, 1)]), ((-1), [(0, 1), (4, 1)])])), (39, ([1], [(0, [(8, 1)]), (0, [(11, 1)])])), (1090, ([1], [(0, [(8, 1)]), (0, [(11, 1)])])), (1098, ([1], [(0, [(8, 1)]), (0, [(11, 1)]), (0, [(5, 1)]), ((-1), [(0, 1), (4, 1)])])), (1103, ([1, 2], [(0, [(8, 1)]), (0, [(11, 1)]), (0, [(12, 1)]), ((-1), [(0, 1), (4, 1)])])), (54, ([1], [(0, [(8, 1)]), (0, [(11, 1)])])), (51, ([2], [(0, [(9, 1)]), (0, [(12, 1)]), (0, [(11, 1)]), ((-1), [(0, 1), (4, 1)])])), (50, ([2], [(0, [(9, 1)]), (0, [(12, 1)]), (0, [(8, 1)])])), (40, ([1], [(0, [(8, 1)]), (0, [(11, 1)]), (0, [(10, 1)]), ((-1), [(0, 1), (4, 1)])])), (41, ([1], [(0, [(8, 1)]), (0, [(11, 1)]), (0, [(10, 1)]), ((-1), [(0, 1), (4, 1)])])), (42, ([1], [(0, [(8, 1)]), (0, [(11, 1)]), (0, [(10, 1)]), ((-1), [(0, 1), (4, 1)])])), (43, ([1], [(0, [(8, 1)]), (0, [(11, 1)]), (0, [(10, 1)]), ((-1), [(0, 1), (4, 1)])])), (2, ([0], [(0, [(1, 17)]), (1, [(1, 17)]), (0, [(6, 1)])])), (3, ([0], [(0, [(1, 17)]), (1, [(1, 17)]), (0, [(6, 1)])])), (2, ([0], [(1, [(1, 17)]), (2, [(1, 17)]), (0, [(8, 1)])])), (3, ([0], [(1, [(1, 17)]), (2, [(1, 17)]), (0, [(8, 1)])])), (2, ([0], [(2, [(1, 17)]), (3, [(1, 17)]), (0, [(9, 1)])])), (3, ([0], [(2, [(1, 17)]), (3, [(1, 17)]), (0, [(9, 1)])])), (2, ([0], [(4, [(1, 17)]), (5, [(1, 17)]), (0, [(2, 1), (3, (-1))])])), (3, ([0], [(4, [(1, 17)]), (5, [(1, 17)]), (0, [(2, 1), (3, (-1))])])), (56, ([1], [(0, [(8, 1)]), (0, [(11, 1)])])), (57, ([2], [(0, [(9, 1)]), (0, [(12, 1)])])), (58, ([2], [(0, [(9, 1)]), (0, [(12, 1)])]))])),
   ([], [(0, ((0, [(13, 1)]), (0, [])))], ([], []), (14, [(13, (1, 1024)), (0, (0, 1))], [], 3, [], [], [], [(1092, ([1, 0], [(0, [(1, 1)]), (0, [(8, 1)])])), (1094, ([2, 1], [(0, [(9, 1)]), (0, [(8, 1)])])), (1095, ([2, 0], [(0, [(1, 1)]), (0, [(9, 1)]), (0, [(8, 1)])])), (1100, ([0], [(0, [(1, 1)])])), (34, ([0], [(1, []), (1, [(1, 1)]), (0, [(6, 1)])])), (35, ([0], [(1, []), (1, [(1, 1)]), (0, [(8, 1)])])), (36, ([0], [(1, []), (1, [(1, 1)]), (0, [(9, 1)])])), (61, ([1], [(0, []), (0, [(8, 1)])])), (39, ([1], [(0, [(8, 1)]), (0, [(11, 1)])])), (54, ([1], [(0, [(8, 1)]), (0, [(11, 1)])])), (50, ([2], [(0, [(9, 1)]), (0, [(12, 1)]), (0, [(8, 1)])])), (2, ([0], [(0, [(1, 17)]), (1, [(1, 17)]), (0, [(6, 1)])])), (3, ([0], [(0, [(1, 17)]), (1, [(1, 17)]), (0, [(6, 1)])])), (2, ([0], [(1, [(1, 17)]), (2, [(1, 17)]), (0, [(8, 1)])])), (3, ([0], [(1, [(1, 17)]), (2, [(1, 17)]), (0, [(8, 1)])])), (2, ([0], [(2, [(1, 17)]), (3, [(1, 17)]), (0, [(9, 1)])])), (3, ([0], [(2, [(1, 17)]), (3, [(1, 17)]), (0, [(9, 1)])])), (2, ([0], [(4, [(1, 17)]), (5, [(1, 17)]), (0, [(2, 1), (3, (-1))])])), (3, ([0], [(4, [(1, 17)]), (5, [(1, 17)]), (0, [(2, 1), (3, (-1))])])), (56, ([1], [(0, [(8, 1)]), (0, [(11, 1)])]))]))], [])))
def t50 : List qCt := [cq49]
theorem hdV_X10_sectionOf : yX10_sectionOf.cls = RX10 ∧ yX10_sectionOf.cls ≠ "java/lang/invoke/MethodHandle" ∧ yX10_sectionOf.cls ≠ "java/lang/invoke/VarHandle" ∧ (parseMethodDescriptor yX10_sectionOf.desc).map (fun d => d.parameters.length) = some 2 := by decide +kernel
theorem st53 (l : Launch) {G : rGm} {cc : ByteArray} {nL n fr lo : Nat} {ret : Option FieldType} {Qf : kQf} (hf : 1 ≤ fr) (hlo : 22 ≤ lo) : ySite gAll LAll vwCl rFo rZs rRs rNs rTs G l cc nL RX10 ret fr lo n Qf 182 95 cq49 := ys_V 2 2 12 rc49 lo_2 kc12 (m49 l) kGood kw2115 kw2116 kw2117 kw241 kw2135 hdV_X10_sectionOf hf hlo
def mt50 : yMt := ([(182, (95, 0))], ([], ([], [])))
theorem rc50 : yRc cq50 2 0 = true := by decide +kernel
set_option maxRecDepth 100000 in
def u50_0 : Nat × (qS × (qL × (qL × qL))) := (1, (([(0, (2, ((5, []), (0, [])))), (1, (0, ((0, [(13, 1)]), (0, []))))], [], ([(438, (0, [(0, 1)])), (5, (0, [(1, 1)])), (12, (0, [(2, 1)])), (432, (0, [(3, 1)])), (437, (0, [(4, 1)])), (436, (0, [(5, 1)])), (433, (0, [(6, 1)])), (435, (0, [(7, 1)])), (430, (0, [(8, 1)])), (431, (0, [(9, 1)])), (10, (0, [(10, 1)])), (8, (0, [(11, 1)])), (9, (0, [(12, 1)]))], [(27, 0), (22, 1), (23, 2)]), (14, [(1, (0, 31)), (12, (0, 4096)), (0, (0, 0)), (2, (0, 4194304)), (3, (0, 131072)), (4, (0, 0)), (5, (0, 5000)), (6, (0, 1024)), (7, ((-1), 2097152)), (8, (0, 8192)), (9, (0, 4096)), (10, (0, 131072)), (11, (0, 8192)), (13, (0, 4096))], [(0, [(9, (-1)), (13, 1)])], 3, [], [], [], [(1092, ([1, 0], [(0, [(1, 1)]), (0, [(8, 1)])])), (1094, ([2, 1], [(0, [(9, 1)]), (0, [(8, 1)])])), (1095, ([2, 0], [(0, [(1, 1)]), (0, [(9, 1)]), (0, [(8, 1)])])), (1100, ([0], [(0, [(1, 1)])])), (34, ([0], [(1, []), (1, [(1, 1)]), (0, [(6, 1)])])), (35, ([0], [(1, []), (1, [(1, 1)]), (0, [(8, 1)])])), (36, ([0], [(1, []), (1, [(1, 1)]), (0, [(9, 1)])])), (61, ([1], [(0, []), (0, [(8, 1)])])), (37, ([1], [(0, [(8, 1)]), (0, [(11, 1)]), ((-1), [(0, 1), (4, 1)])])), (1096, ([2, 1], [(0, [(9, 1)]), (0, [(12, 1)]), (0, [(11, 1)]), (0, [(7, 1)]), ((-1), [(0, 1), (4, 1)])])), (39, ([1], [(0, [(8, 1)]), (0, [(11, 1)])])), (1090, ([1], [(0, [(8, 1)]), (0, [(11, 1)])])), (1098, ([1], [(0, [(8, 1)]), (0, [(11, 1)]), (0, [(5, 1)]), ((-1), [(0, 1), (4, 1)])])), (1103, ([1, 2], [(0, [(8, 1)]), (0, [(11, 1)]), (0, [(12, 1)]), ((-1), [(0, 1), (4, 1)])])), (54, ([1], [(0, [(8, 1)]), (0, [(11, 1)])])), (51, ([2], [(0, [(9, 1)]), (0, [(12, 1)]), (0, [(11, 1)]), ((-1), [(0, 1), (4, 1)])])), (50, ([2], [(0, [(9, 1)]), (0, [(12, 1)]), (0, [(8, 1)])])), (40, ([1], [(0, [(8, 1)]), (0, [(11, 1)]), (0, [(10, 1)]), ((-1), [(0, 1), (4, 1)])])), (41, ([1], [(0, [(8, 1)]), (0, [(11, 1)]), (0, [(10, 1)]), ((-1), [(0, 1), (4, 1)])])), (42, ([1], [(0, [(8, 1)]), (0, [(11, 1)]), (0, [(10, 1)]), ((-1), [(0, 1), (4, 1)])])), (43, ([1], [(0, [(8, 1)]), (0, [(11, 1)]), (0, [(10, 1)]), ((-1), [(0, 1), (4, 1)])])), (2, ([0], [(0, [(1, 17)]), (1, [(1, 17)]), (0, [(6, 1)])])), (3, ([0], [(0, [(1, 17)]), (1, [(1, 17)]), (0, [(6, 1)])])), (2, ([0], [(1, [(1, 17)]), (2, [(1, 17)]), (0, [(8, 1)])])), (3, ([0], [(1, [(1, 17)]), (2, [(1, 17)]), (0, [(8, 1)])])), (2, ([0], [(2, [(1, 17)]), (3, [(1, 17)]), (0, [(9, 1)])])), (3, ([0], [(2, [(1, 17)]), (3, [(1, 17)]), (0, [(9, 1)])])), (2, ([0], [(4, [(1, 17)]), (5, [(1, 17)]), (0, [(2, 1), (3, (-1))])])), (3, ([0], [(4, [(1, 17)]), (5, [(1, 17)]), (0, [(2, 1), (3, (-1))])])), (56, ([1], [(0, [(8, 1)]), (0, [(11, 1)])])), (57, ([2], [(0, [(9, 1)]), (0, [(13, 1)])])), (58, ([2], [(0, [(9, 1)]), (0, [(13, 1)])]))])), ((0, []), ((262144, [(12, 64), (13, (-64))]), (0, [])))))
def u50 : qCu := [u50_0]
set_option maxRecDepth 100000 in
theorem z50_s : zsm (zblk gAll cq50.2.2.2 t50 ruI2 ruJ2 rqL b50 cq50 (zrun gAll cq50.2.2.2 t50 ruI2 ruJ2 rqL b50 u50 cq50 none 300) 0 cq50.2.1 []) = true := sorry
set_option maxRecDepth 100000 in
theorem z50_0 : zsm (zfrom gAll cq50.2.2.2 t50 ruI2 ruJ2 rqL b50 u50 cq50 300 u50_0 []) = true := sorry
theorem yr50 : yRun gAll t50 b50 cq50 := yRun_p (cuts := u50) (fuel := 300) gAll_tag ruI2_RtI ruJ2_RtJ rqL_ok ⟨zsm_e _ z50_s, List.forall_mem_cons.mpr ⟨zsm_e _ z50_0, yA_n⟩⟩
theorem zw50 : zwid cq50.2.1.1 cq50.1 0 5 = true := by decide +kernel
set_option maxRecDepth 100000 in
theorem yw50 : yRows gAll LAll yt11 mt50 gHo 5 1 (zby cX10_brokenSpan) p50 b50 p50 = true := by decide +kernel
set_option maxRecDepth 100000 in
theorem m50 (l : Launch) : kMet gAll LAll vwCl rFo rZs rRs rNs rTs l yX10_brokenSpan cX10_brokenSpan 5 (some .int) 1 22 cq50 := kmet_y2 (rt := 1) (by decide +kernel) yr50 zw50 rfl yw50 LAll_ok LAll_la yt11_ok gHo_ok rfl (fun G n Qf => List.forall_mem_cons.mpr ⟨⟨cq49, rfl, st53 l (by decide) (by decide)⟩, yA_n⟩) rfl (fun G n Rr => yA_n) rfl
/-! 51 Units.keepAll ()V -/
set_option maxRecDepth 100000 in
def b51 : qCd := [([(3, 0, 2, 0), (7, 0, 0, 0), (24, 5, 5, 0), (0, 1, 0, 0), (38, 0, 0, 0), (14, 0, 0, 0), (36, 0, 0, 0), (38, 0, 0, 0), (26, 5, 5, 0), (3, 0, 2, 0), (25, 5, 26659, 0), (3, 0, 2, 0), (24, 5, 5, 0), (38, 0, 0, 0), (27, 26659, 27, 0), (4, 1, 2, 0), (3, 1, 2, 0), (0, 0, 0, 0), (3, 0, 2, 0), (25, 5, 7, 0), (24, 7, 13, 0), (38, 0, 0, 0), (29, 27, 0, 0), (3, 1, 2, 0), (0, 1, 0, 0), (3, 0, 2, 0), (24, 5, 8, 0), (38, 0, 0, 0), (29, 27, 0, 0), (3, 1, 2, 0), (0, 2, 0, 0), (3, 0, 2, 0), (24, 5, 9, 0), (38, 0, 0, 0), (29, 27, 0, 0), (34, 8, 0, 0), (38, 0, 0, 0), (39, 430, 38, 0), (34, 9, 0, 0), (38, 0, 0, 0), (39, 431, 39, 0), (34, 12, 0, 0), (38, 0, 0, 0), (39, 432, 36, 0), (34, 13, 0, 0), (38, 0, 0, 0), (39, 433, 37, 0), (34, 438, 0, 0), (34, 5, 0, 0), (34, 12, 0, 0), (34, 432, 0, 0), (34, 437, 0, 0), (34, 433, 0, 0), (34, 435, 0, 0), (34, 430, 0, 0), (34, 431, 0, 0), (34, 13, 0, 0), (34, 8, 0, 0), (34, 9, 0, 0), (35, 15, 0, 0), (35, 27, 0, 0), (35, 22, 0, 0), (35, 23, 0, 0), (38, 0, 0, 0)], (4, 0, 0, 0, []))]
def p51 : List Nat := [0]
set_option maxRecDepth 100000 in
def cq51 : qCt := (1, (([(0, (2, ((5, []), (0, []))))], [], ([(438, (0, [(0, 1)])), (5, (0, [(1, 1)])), (12, (0, [(2, 1)])), (432, (0, [(3, 1)])), (437, (0, [(4, 1)])), (433, (0, [(5, 1)])), (435, (0, [(6, 1)])), (430, (0, [(7, 1)])), (431, (0, [(8, 1)])), (13, (0, [(9, 1)])), (8, (0, [(10, 1)])), (9, (0, [(11, 1)]))], [(15, 0), (27, 1), (22, 2), (23, 3)]), (12, [(1, (0, 31)), (9, (0, 1024)), (10, (0, 8192)), (11, (0, 4096)), (0, (0, 0)), (2, (0, 131072)), (3, (0, 131072)), (4, (0, 0)), (5, (0, 1024)), (6, ((-1), 2097152)), (7, (0, 8192)), (8, (0, 4096))], [(0, [(7, (-1)), (10, 1)]), (0, [(8, (-1)), (11, 1)]), (0, [(5, (-1)), (9, 1)]), ((-1), [(0, 3000000), (6, (-1))])], 4, [(0, 15), (1, 27), (2, 22), (3, 23)], [], [], [(30, ([0], [(0, []), (0, [(9, 1)])])), (1092, ([2, 1], [(0, [(1, 1)]), (0, [(7, 1)])])), (1095, ([3, 1], [(0, [(1, 1)]), (0, [(8, 1)]), (0, [(7, 1)])])), (1100, ([1], [(0, [(1, 1)])])), (34, ([1], [(1, []), (1, [(1, 1)]), (0, [(5, 1)])])), (35, ([1], [(1, []), (1, [(1, 1)]), (0, [(7, 1)])])), (36, ([1], [(1, []), (1, [(1, 1)]), (0, [(8, 1)])])), (2, ([1], [(1, [(1, 17)]), (2, [(1, 17)]), (0, [(7, 1)])])), (3, ([1], [(1, [(1, 17)]), (2, [(1, 17)]), (0, [(7, 1)])])), (2, ([1], [(2, [(1, 17)]), (3, [(1, 17)]), (0, [(8, 1)])])), (3, ([1], [(2, [(1, 17)]), (3, [(1, 17)]), (0, [(8, 1)])])), (1093, ([2, 1], [(0, [(1, 1)]), (0, [(7, 1)]), (0, [(10, 1)])])), (49, ([1], [(0, []), (4, []), (0, [(1, 1)]), (131072, [])])), (1097, ([3, 2], [(0, [(8, 1)]), (0, [(11, 1)])])), (51, ([3], [(0, [(8, 1)]), (0, [(11, 1)]), (0, [(10, 1)]), ((-1), [(0, 1), (4, 1)])])), (50, ([3], [(0, [(8, 1)]), (0, [(11, 1)]), (0, [(7, 1)])])), (39, ([2], [(0, [(7, 1)]), (0, [(10, 1)])])), (46, ([2], [(0, [(7, 1)]), (0, [(10, 1)])])), (1094, ([3, 2], [(0, [(8, 1)]), (0, [(7, 1)])])), (61, ([2], [(0, []), (0, [(7, 1)])]))])), ([([], [], ([(5, (0, [(12, 1)])), (432, (0, [(13, 1)])), (433, (0, [(14, 1)])), (430, (0, [(15, 1)])), (431, (0, [(16, 1)]))], [(27, 4)]), (17, [(12, (1, 32)), (13, (0, 131072)), (14, (0, 1024)), (15, (0, 8192)), (16, (0, 4096)), (0, (0, 1)), (2, (0, 131072)), (6, ((-1), (-1)))], [(0, [(10, 1), (15, (-1))]), (0, [(11, 1), (16, (-1))]), (0, [(9, 1), (14, (-1))]), (0, [(2, 1), (13, (-1))]), (0, [(10, (-1)), (15, 1)]), (0, [(11, (-1)), (16, 1)]), (0, [(9, (-1)), (14, 1)]), (0, [(2, (-1)), (13, 1)])], 5, [(4, 27)], [], [], [(30, ([0], [(0, []), (0, [(9, 1)])])), (1092, ([2, 4], [(0, [(12, 1)]), (0, [(15, 1)])])), (1095, ([3, 4], [(0, [(12, 1)]), (0, [(16, 1)]), (0, [(15, 1)])])), (1100, ([4], [(0, [(12, 1)])])), (34, ([4], [(1, []), (1, [(12, 1)]), (0, [(14, 1)])])), (35, ([4], [(1, []), (1, [(12, 1)]), (0, [(15, 1)])])), (36, ([4], [(1, []), (1, [(12, 1)]), (0, [(16, 1)])])), (50, ([3], [(0, [(16, 1)]), (0, [(11, 1)]), (0, [(15, 1)])])), (39, ([2], [(0, [(15, 1)]), (0, [(10, 1)])])), (1094, ([3, 2], [(0, [(16, 1)]), (0, [(15, 1)])])), (61, ([2], [(0, []), (0, [(15, 1)])]))]))], [5, 27, 430, 431, 432, 433])))
def t51 : List qCt := []
def mt51 : yMt := ([], ([], ([], [])))
theorem rc51 : yRc cq51 2 0 = true := by decide +kernel
set_option maxRecDepth 100000 in
def u51 : qCu := []
set_option maxRecDepth 100000 in
theorem z51 : zchk gAll t51 ruI2 ruJ2 rqL b51 u51 cq51 300 [] = true := sorry
theorem yr51 : yRun gAll t51 b51 cq51 := yRun_z gAll_tag ruI2_RtI ruJ2_RtJ rqL_ok z51
theorem zw51 : zwid cq51.2.1.1 cq51.1 0 2 = true := by decide +kernel
set_option maxRecDepth 100000 in
theorem yw51 : yRows gAll LAll yt11 mt51 gHo 2 0 (zby cX10_keepAll) p51 b51 p51 = true := by decide +kernel
set_option maxRecDepth 100000 in
theorem m51 (l : Launch) : kMet gAll LAll vwCl rFo rZs rRs rNs rTs l yX10_keepAll cX10_keepAll 2 none 0 0 cq51 := kmet_y2 (rt := 0) (by decide +kernel) yr51 zw51 rfl yw51 LAll_ok LAll_la yt11_ok gHo_ok rfl (fun G n Qf => yA_n) rfl (fun G n Rr => yA_n) rfl
/-! 52 Units.placeOf/statements[] (I[I)I -/
set_option maxRecDepth 100000 in
def b52 : qCd := [([(3, 1, 0, 0), (0, (-2), 0, 0)], (1, 1, 2, 1, [])),
  ([(3, 2, 2, 0), (0, 3, 0, 0), (38, 0, 0, 0), (28, 22, 0, 0)], (0, 0, 3, 0, [])),
  ([(3, 0, 2, 0), (25, 5, 19, 0), (3, 1, 0, 0), (38, 0, 0, 0), (27, 19, 19, 0), (0, 4, 0, 0), (38, 0, 0, 0), (28, 19, 0, 0)], (0, 0, 3, 0, [])),
  ([(34, 438, 0, 0), (34, 5, 0, 0), (34, 437, 0, 0), (34, 436, 0, 0), (34, 435, 0, 0), (34, 430, 0, 0), (34, 431, 0, 0), (34, 10, 0, 0), (34, 8, 0, 0), (34, 9, 0, 0), (35, 27, 0, 0), (35, 22, 0, 0), (35, 23, 0, 0), (38, 0, 0, 0)], (5, 0, 0, 0, [((-2147483648), 0), (2147483647, 0)]))]
def p52 : List Nat := [0, 6, 12, 20]
set_option maxRecDepth 100000 in
def cq52 : qCt := (3, (([(0, (2, ((5, []), (0, [])))), (1, (0, ((0, [(0, 1)]), (0, [])))), (2, (2, ((2075, [(1, 2)]), (0, []))))], [], ([(438, (0, [(2, 1)])), (5, (0, [(3, 1)])), (437, (0, [(4, 1)])), (436, (0, [(5, 1)])), (435, (0, [(6, 1)])), (430, (0, [(7, 1)])), (431, (0, [(8, 1)])), (10, (0, [(9, 1)])), (8, (0, [(10, 1)])), (9, (0, [(11, 1)]))], [(27, 0), (22, 1), (23, 2)]), (12, [(1, (0, 8191)), (0, ((-2), 1023)), (2, (0, 0)), (3, (0, 32)), (4, (0, 0)), (5, (0, 5000)), (6, ((-1), 2097152)), (7, (0, 8192)), (8, (0, 4096)), (9, (0, 131072)), (10, (0, 8192)), (11, (0, 4096))], [], 3, [(0, 27), (1, 22), (2, 23)], [], [], [(1092, ([1, 0], [(0, [(3, 1)]), (0, [(7, 1)])])), (1094, ([2, 1], [(0, [(8, 1)]), (0, [(7, 1)])])), (61, ([1], [(0, []), (0, [(7, 1)])])), (37, ([1], [(0, [(7, 1)]), (0, [(10, 1)]), ((-1), [(2, 1), (4, 1)])])), (1096, ([2, 1], [(0, [(8, 1)]), (0, [(11, 1)]), (0, [(10, 1)]), (0, [(6, 1)]), ((-1), [(2, 1), (4, 1)])])), (39, ([1], [(0, [(7, 1)]), (0, [(10, 1)])])), (1090, ([1], [(0, [(7, 1)]), (0, [(10, 1)])])), (1098, ([1], [(0, [(7, 1)]), (0, [(10, 1)]), (0, [(5, 1)]), ((-1), [(2, 1), (4, 1)])])), (40, ([1], [(0, [(7, 1)]), (0, [(10, 1)]), (0, [(9, 1)]), ((-1), [(2, 1), (4, 1)])])), (41, ([1], [(0, [(7, 1)]), (0, [(10, 1)]), (0, [(9, 1)]), ((-1), [(2, 1), (4, 1)])])), (42, ([1], [(0, [(7, 1)]), (0, [(10, 1)]), (0, [(9, 1)]), ((-1), [(2, 1), (4, 1)])])), (43, ([1], [(0, [(7, 1)]), (0, [(10, 1)]), (0, [(9, 1)]), ((-1), [(2, 1), (4, 1)])])), (56, ([1], [(0, [(7, 1)]), (0, [(10, 1)])])), (0, ([], [(0, []), (1, []), ((-2), [(0, (-1))]), (0, [(0, 1)])]))])), ([([], [(0, ((0, [(12, 1)]), (0, [])))], ([], []), (13, [(12, ((-2147483648), 2147483647)), (2, (0, 1))], [], 3, [], [], [], [(1092, ([1, 0], [(0, [(3, 1)]), (0, [(7, 1)])])), (1094, ([2, 1], [(0, [(8, 1)]), (0, [(7, 1)])])), (61, ([1], [(0, []), (0, [(7, 1)])])), (37, ([1], [(0, [(7, 1)]), (0, [(10, 1)]), ((-1), [(2, 1), (4, 1)])])), (1096, ([2, 1], [(0, [(8, 1)]), (0, [(11, 1)]), (0, [(10, 1)]), (0, [(6, 1)]), ((-1), [(2, 1), (4, 1)])])), (39, ([1], [(0, [(7, 1)]), (0, [(10, 1)])])), (1090, ([1], [(0, [(7, 1)]), (0, [(10, 1)])])), (1098, ([1], [(0, [(7, 1)]), (0, [(10, 1)]), (0, [(5, 1)]), ((-1), [(2, 1), (4, 1)])])), (40, ([1], [(0, [(7, 1)]), (0, [(10, 1)]), (0, [(9, 1)]), ((-1), [(2, 1), (4, 1)])])), (41, ([1], [(0, [(7, 1)]), (0, [(10, 1)]), (0, [(9, 1)]), ((-1), [(2, 1), (4, 1)])])), (42, ([1], [(0, [(7, 1)]), (0, [(10, 1)]), (0, [(9, 1)]), ((-1), [(2, 1), (4, 1)])])), (43, ([1], [(0, [(7, 1)]), (0, [(10, 1)]), (0, [(9, 1)]), ((-1), [(2, 1), (4, 1)])])), (56, ([1], [(0, [(7, 1)]), (0, [(10, 1)])]))]))], [])))
def t52 : List qCt := []
def mt52 : yMt := ([], ([], ([], [])))
theorem rc52 : yRc cq52 2 2 = true := by decide +kernel
set_option maxRecDepth 100000 in
def u52 : qCu := []
set_option maxRecDepth 100000 in
theorem z52 : zchk gAll t52 ruI2 ruJ2 rqL b52 u52 cq52 300 [] = true := sorry
theorem yr52 : yRun gAll t52 b52 cq52 := yRun_z gAll_tag ruI2_RtI ruJ2_RtJ rqL_ok z52
theorem zw52 : zwid cq52.2.1.1 cq52.1 0 3 = true := by decide +kernel
set_option maxRecDepth 100000 in
theorem yw52 : yRows gAll LAll yt11 mt52 gHo 3 1 (zby cX10_placeOf) p52 b52 p52 = true := by decide +kernel
set_option maxRecDepth 100000 in
theorem m52 (l : Launch) : kMet gAll LAll vwCl rFo rZs rRs rNs rTs l yX10_placeOf cX10_placeOf 3 (some .int) 0 0 cq52 := kmet_y2 (rt := 1) (by decide +kernel) yr52 zw52 rfl yw52 LAll_ok LAll_la yt11_ok gHo_ok rfl (fun G n Qf => yA_n) rfl (fun G n Rr => yA_n) rfl
/-! 53 Units.distance/statements[] ([I)J -/
set_option maxRecDepth 100000 in
def b53 : qCd := [([(3, 1, 2, 0), (0, 6, 0, 0), (38, 0, 0, 0), (28, 22, 0, 0), (4, 2, 0, 0), (3, 0, 2, 0), (3, 0, 2, 0), (25, 5, 18459, 0), (3, 2, 0, 0), (38, 0, 0, 0), (27, 18459, 23, 0), (0, 4, 0, 0), (38, 0, 0, 0), (28, 23, 0, 0), (3, 1, 2, 0), (34, 438, 0, 0), (34, 5, 0, 0), (34, 437, 0, 0), (34, 436, 0, 0), (34, 435, 0, 0), (34, 430, 0, 0), (34, 431, 0, 0), (34, 10, 0, 0), (34, 8, 0, 0), (34, 9, 0, 0), (35, 27, 0, 0), (35, 22, 0, 0), (35, 23, 0, 0), (38, 0, 0, 0), (33, 0, 0, 0), (21, 0, 0, 0), (3, 0, 2, 0), (25, 5, 26653, 0), (3, 2, 0, 0), (38, 0, 0, 0), (28, 24, 0, 0), (14, 1, 0, 0), (37, 0, 0, 0), (3, 1, 2, 0), (0, 3, 0, 0), (38, 0, 0, 0), (28, 22, 0, 0), (21, 0, 0, 0), (15, 1, 0, 0), (37, 0, 0, 0), (3, 1, 2, 0), (0, 4, 0, 0), (38, 0, 0, 0), (28, 22, 0, 0), (21, 0, 0, 0), (15, 1, 0, 0), (37, 0, 0, 0), (34, 438, 0, 0), (34, 5, 0, 0), (34, 437, 0, 0), (34, 436, 0, 0), (34, 435, 0, 0), (34, 430, 0, 0), (34, 431, 0, 0), (34, 10, 0, 0), (34, 8, 0, 0), (34, 9, 0, 0), (35, 27, 0, 0), (35, 22, 0, 0), (35, 23, 0, 0), (38, 0, 0, 0)], (5, 1, 0, 0, [((-9223372036854775808), 0), (9223372036854775807, 0)]))]
def p53 : List Nat := [0]
set_option maxRecDepth 100000 in
def cq53 : qCt := (2, (([(0, (2, ((5, []), (0, [])))), (1, (2, ((2075, [(0, 2)]), (0, []))))], [], ([(438, (0, [(1, 1)])), (5, (0, [(2, 1)])), (437, (0, [(3, 1)])), (436, (0, [(4, 1)])), (435, (0, [(5, 1)])), (430, (0, [(6, 1)])), (431, (0, [(7, 1)])), (10, (0, [(8, 1)])), (8, (0, [(9, 1)])), (9, (0, [(10, 1)]))], [(27, 0), (22, 1), (23, 2)]), (11, [(0, (0, 8191)), (1, (0, 0)), (2, (0, 32)), (3, (0, 0)), (4, (0, 5000)), (5, ((-1), 2097152)), (6, (0, 8192)), (7, (0, 4096)), (8, (0, 131072)), (9, (0, 8192)), (10, (0, 4096))], [(0, [(6, (-1)), (9, 1)]), (0, [(7, (-1)), (10, 1)]), ((-1), [(1, 3000000), (5, (-1))]), (0, [(1, 9000), (4, (-1)), (10, 1)]), (0, [(0, 1), (6, (-1))]), ((-1), [(0, (-1)), (9, 1)])], 3, [(0, 27), (1, 22), (2, 23)], [], [], [(1092, ([1, 0], [(0, [(2, 1)]), (0, [(6, 1)])])), (1094, ([2, 1], [(0, [(7, 1)]), (0, [(6, 1)])])), (1095, ([2, 0], [(0, [(2, 1)]), (0, [(7, 1)]), (0, [(6, 1)])])), (61, ([1], [(0, []), (0, [(6, 1)])])), (37, ([1], [(0, [(6, 1)]), (0, [(9, 1)]), ((-1), [(1, 1), (3, 1)])])), (1096, ([2, 1], [(0, [(7, 1)]), (0, [(10, 1)]), (0, [(9, 1)]), (0, [(5, 1)]), ((-1), [(1, 1), (3, 1)])])), (39, ([1], [(0, [(6, 1)]), (0, [(9, 1)])])), (1090, ([1], [(0, [(6, 1)]), (0, [(9, 1)])])), (1098, ([1], [(0, [(6, 1)]), (0, [(9, 1)]), (0, [(4, 1)]), ((-1), [(1, 1), (3, 1)])])), (51, ([2], [(0, [(7, 1)]), (0, [(10, 1)]), (0, [(9, 1)]), ((-1), [(1, 1), (3, 1)])])), (50, ([2], [(0, [(7, 1)]), (0, [(10, 1)]), (0, [(6, 1)])])), (40, ([1], [(0, [(6, 1)]), (0, [(9, 1)]), (0, [(8, 1)]), ((-1), [(1, 1), (3, 1)])])), (41, ([1], [(0, [(6, 1)]), (0, [(9, 1)]), (0, [(8, 1)]), ((-1), [(1, 1), (3, 1)])])), (42, ([1], [(0, [(6, 1)]), (0, [(9, 1)]), (0, [(8, 1)]), ((-1), [(1, 1), (3, 1)])])), (43, ([1], [(0, [(6, 1)]), (0, [(9, 1)]), (0, [(8, 1)]), ((-1), [(1, 1), (3, 1)])])), (56, ([1], [(0, [(6, 1)]), (0, [(9, 1)])])), (1105, ([1, 2], [(0, [(6, 1)]), (0, [(9, 1)])])), (2, ([1], [(0, [(0, 7)]), (1, [(0, 7)]), (5, [])])), (1088, ([], [(0, [(0, 1)]), (0, [(0, 1)])]))])), ([([], [(1, ((0, [(11, 1)]), (0, [])))], ([], []), (12, [(11, ((-9223372036854775808), 9223372036854775807)), (1, ((-9223372036854775808), 1))], [(0, [(6, (-1)), (9, 1)]), (0, [(7, (-1)), (10, 1)]), ((-1), [(1, 3000000), (5, (-1))]), (0, [(1, 9000), (4, (-1)), (10, 1)])], 3, [], [], [], [(1092, ([1, 0], [(0, [(2, 1)]), (0, [(6, 1)])])), (1094, ([2, 1], [(0, [(7, 1)]), (0, [(6, 1)])])), (1095, ([2, 0], [(0, [(2, 1)]), (0, [(7, 1)]), (0, [(6, 1)])])), (61, ([1], [(0, []), (0, [(6, 1)])])), (37, ([1], [(0, [(6, 1)]), (0, [(9, 1)]), ((-1), [(1, 1), (3, 1)])])), (1096, ([2, 1], [(0, [(7, 1)]), (0, [(10, 1)]), (0, [(9, 1)]), (0, [(5, 1)]), ((-1), [(1, 1), (3, 1)])])), (39, ([1], [(0, [(6, 1)]), (0, [(9, 1)])])), (1090, ([1], [(0, [(6, 1)]), (0, [(9, 1)])])), (1098, ([1], [(0, [(6, 1)]), (0, [(9, 1)]), (0, [(4, 1)]), ((-1), [(1, 1), (3, 1)])])), (51, ([2], [(0, [(7, 1)]), (0, [(10, 1)]), (0, [(9, 1)]), ((-1), [(1, 1), (3, 1)])])), (50, ([2], [(0, [(7, 1)]), (0, [(10, 1)]), (0, [(6, 1)])])), (40, ([1], [(0, [(6, 1)]), (0, [(9, 1)]), (0, [(8, 1)]), ((-1), [(1, 1), (3, 1)])])), (41, ([1], [(0, [(6, 1)]), (0, [(9, 1)]), (0, [(8, 1)]), ((-1), [(1, 1), (3, 1)])])), (42, ([1], [(0, [(6, 1)]), (0, [(9, 1)]), (0, [(8, 1)]), ((-1), [(1, 1), (3, 1)])])), (43, ([1], [(0, [(6, 1)]), (0, [(9, 1)]), (0, [(8, 1)]), ((-1), [(1, 1), (3, 1)])])), (56, ([1], [(0, [(6, 1)]), (0, [(9, 1)])])), (1105, ([1, 2], [(0, [(6, 1)]), (0, [(9, 1)])])), (2, ([1], [(0, [(0, 7)]), (1, [(0, 7)]), (5, [])])), (1088, ([], [(0, [(0, 1)]), (0, [(0, 1)])]))]))], [])))
def t53 : List qCt := [cq52]
theorem hdV_X10_placeOf : yX10_placeOf.cls = RX10 ∧ yX10_placeOf.cls ≠ "java/lang/invoke/MethodHandle" ∧ yX10_placeOf.cls ≠ "java/lang/invoke/VarHandle" ∧ (parseMethodDescriptor yX10_placeOf.desc).map (fun d => d.parameters.length) = some 2 := by decide +kernel
theorem st54 (l : Launch) {G : rGm} {cc : ByteArray} {nL n fr lo : Nat} {ret : Option FieldType} {Qf : kQf} (hf : 1 ≤ fr) (hlo : 22 ≤ lo) : ySite gAll LAll vwCl rFo rZs rRs rNs rTs G l cc nL RX10 ret fr lo n Qf 182 121 cq52 := ys_V 2 2 12 rc52 lo_2 kc12 (m52 l) kGood kw2119 kw2120 kw2121 kw241 kw2133 hdV_X10_placeOf hf hlo
def mt53 : yMt := ([(182, (121, 0))], ([], ([], [])))
theorem rc53 : yRc cq53 2 1 = true := by decide +kernel
set_option maxRecDepth 100000 in
def u53 : qCu := []
set_option maxRecDepth 100000 in
theorem z53 : zchk gAll t53 ruI2 ruJ2 rqL b53 u53 cq53 300 [] = true := sorry
theorem yr53 : yRun gAll t53 b53 cq53 := yRun_z gAll_tag ruI2_RtI ruJ2_RtJ rqL_ok z53
theorem zw53 : zwid cq53.2.1.1 cq53.1 0 3 = true := by decide +kernel
set_option maxRecDepth 100000 in
theorem yw53 : yRows gAll LAll yt11 mt53 gHo 3 2 (zby cX10_distance) p53 b53 p53 = true := by decide +kernel
set_option maxRecDepth 100000 in
theorem m53 (l : Launch) : kMet gAll LAll vwCl rFo rZs rRs rNs rTs l yX10_distance cX10_distance 3 (some .long) 1 22 cq53 := kmet_y2 (rt := 2) (by decide +kernel) yr53 zw53 rfl yw53 LAll_ok LAll_la yt11_ok gHo_ok rfl (fun G n Qf => List.forall_mem_cons.mpr ⟨⟨cq52, rfl, st54 l (by decide) (by decide)⟩, yA_n⟩) rfl (fun G n Rr => yA_n) rfl
/-! 54 Units.lengthen ()Z -/
set_option maxRecDepth 100000 in
def b54 : qCd := [([(0, 0, 0, 0), (4, 1, 0, 0), (3, 0, 2, 0), (25, 5, 26659, 0), (3, 0, 2, 0), (24, 5, 5, 0), (38, 0, 0, 0), (27, 26659, 27, 0), (0, 1, 0, 0), (38, 0, 0, 0), (28, 27, 0, 0), (4, 2, 0, 0), (34, 438, 0, 0), (34, 5, 0, 0), (34, 12, 0, 0), (34, 432, 0, 0), (34, 437, 0, 0), (34, 436, 0, 0), (34, 434, 0, 0), (34, 433, 0, 0), (34, 435, 0, 0), (34, 430, 0, 0), (34, 431, 0, 0), (34, 10, 0, 0), (34, 8, 0, 0), (34, 9, 0, 0), (35, 28, 0, 0), (35, 27, 0, 0), (35, 22, 0, 0), (35, 23, 0, 0), (40, 2, 0, 0), (38, 0, 0, 0)], (0, 0, 1, 0, [])),
  ([(3, 2, 0, 0), (36, 0, 0, 0), (3, 0, 2, 0), (24, 5, 8, 0)], (1, 3, 7, 2, [])),
  ([(3, 0, 2, 0), (25, 5, 2073, 0), (3, 2, 0, 0), (36, 0, 0, 0), (38, 0, 0, 0), (27, 2073, 22, 0), (4, 3, 2, 0), (3, 3, 2, 0), (0, 0, 0, 0), (38, 0, 0, 0), (28, 22, 0, 0), (0, 5, 0, 0)], (1, 1, 6, 3, [])),
  ([(3, 0, 2, 0), (3, 3, 2, 0), (34, 438, 0, 0), (34, 5, 0, 0), (34, 437, 0, 0), (34, 436, 0, 0), (34, 435, 0, 0), (34, 430, 0, 0), (34, 431, 0, 0), (34, 10, 0, 0), (34, 8, 0, 0), (34, 9, 0, 0), (35, 27, 0, 0), (35, 22, 0, 0), (35, 23, 0, 0), (38, 0, 0, 0), (33, 0, 0, 0), (4, 4, 1, 0), (3, 4, 1, 0), (1, (-128), 0, 0), (23, 0, 0, 0)], (2, 2, 5, 4, [])),
  ([(3, 4, 1, 0), (1, 127, 0, 0), (23, 0, 0, 0)], (2, 5, 6, 5, [])),
  ([(34, 434, 0, 0), (38, 0, 0, 0), (39, 434, 42, 0), (3, 3, 2, 0), (0, 0, 0, 0), (0, 4, 0, 0), (38, 0, 0, 0), (29, 22, 0, 0), (0, 1, 0, 0), (4, 1, 0, 0)], (0, 0, 6, 0, [])),
  ([(5, 2, 1, 0), (34, 438, 0, 0), (34, 5, 0, 0), (34, 12, 0, 0), (34, 432, 0, 0), (34, 437, 0, 0), (34, 436, 0, 0), (34, 434, 0, 0), (34, 433, 0, 0), (34, 435, 0, 0), (34, 430, 0, 0), (34, 431, 0, 0), (34, 10, 0, 0), (34, 8, 0, 0), (34, 9, 0, 0), (35, 28, 0, 0), (35, 27, 0, 0), (35, 22, 0, 0), (35, 23, 0, 0), (40, 2, 0, 0), (38, 0, 0, 0)], (0, 0, 1, 0, [])),
  ([(3, 1, 0, 0), (34, 438, 0, 0), (34, 5, 0, 0), (34, 12, 0, 0), (34, 432, 0, 0), (34, 437, 0, 0), (34, 436, 0, 0), (34, 434, 0, 0), (34, 433, 0, 0), (34, 435, 0, 0), (34, 430, 0, 0), (34, 431, 0, 0), (34, 10, 0, 0), (34, 8, 0, 0), (34, 9, 0, 0), (35, 28, 0, 0), (35, 27, 0, 0), (35, 22, 0, 0), (35, 23, 0, 0), (38, 0, 0, 0)], (5, 0, 0, 0, [(0, 0), (1, 0)]))]
def p54 : List Nat := [0, 14, 22, 36, 52, 61, 67, 73]
set_option maxRecDepth 100000 in
def cq54 : qCt := (1, (([(0, (2, ((5, []), (0, []))))], [], ([(438, (0, [(0, 1)])), (5, (0, [(1, 1)])), (12, (0, [(2, 1)])), (432, (0, [(3, 1)])), (437, (0, [(4, 1)])), (436, (0, [(5, 1)])), (434, (0, [(6, 1)])), (433, (0, [(7, 1)])), (435, (0, [(8, 1)])), (430, (0, [(9, 1)])), (431, (0, [(10, 1)])), (10, (0, [(11, 1)])), (8, (0, [(12, 1)])), (9, (0, [(13, 1)]))], [(28, 0), (27, 1), (22, 2), (23, 3)]), (14, [(1, (0, 31)), (12, (0, 8192)), (0, (0, 0)), (2, (0, 4194304)), (3, (0, 131072)), (4, (0, 0)), (5, (0, 5000)), (6, ((-1), 4096)), (7, (0, 1024)), (8, ((-1), 2097152)), (9, (0, 8192)), (10, (0, 4096)), (11, (0, 131072)), (13, (0, 4096))], [(0, [(9, (-1)), (12, 1)]), (0, [(10, (-1)), (13, 1)]), (0, [(2, 1), (3, (-1))]), (131072, [(0, 3000000), (2, (-1))]), ((-1), [(0, 3000000), (8, (-1))]), (0, [(0, 9000), (5, (-1)), (13, 1)])], 4, [(0, 28), (1, 27), (2, 22), (3, 23)], [], [], [(1092, ([2, 1], [(0, [(1, 1)]), (0, [(9, 1)])])), (1094, ([3, 2], [(0, [(10, 1)]), (0, [(9, 1)])])), (1095, ([3, 1], [(0, [(1, 1)]), (0, [(10, 1)]), (0, [(9, 1)])])), (1100, ([1], [(0, [(1, 1)])])), (34, ([1], [(1, []), (1, [(1, 1)]), (0, [(7, 1)])])), (35, ([1], [(1, []), (1, [(1, 1)]), (0, [(9, 1)])])), (36, ([1], [(1, []), (1, [(1, 1)]), (0, [(10, 1)])])), (61, ([2], [(0, []), (0, [(9, 1)])])), (37, ([2], [(0, [(9, 1)]), (0, [(12, 1)]), ((-1), [(0, 1), (4, 1)])])), (1096, ([3, 2], [(0, [(10, 1)]), (0, [(13, 1)]), (0, [(12, 1)]), (0, [(8, 1)]), ((-1), [(0, 1), (4, 1)])])), (39, ([2], [(0, [(9, 1)]), (0, [(12, 1)])])), (1090, ([2], [(0, [(9, 1)]), (0, [(12, 1)])])), (1098, ([2], [(0, [(9, 1)]), (0, [(12, 1)]), (0, [(5, 1)]), ((-1), [(0, 1), (4, 1)])])), (1103, ([2, 3], [(0, [(9, 1)]), (0, [(12, 1)]), (0, [(13, 1)]), ((-1), [(0, 1), (4, 1)])])), (51, ([3], [(0, [(10, 1)]), (0, [(13, 1)]), (0, [(12, 1)]), ((-1), [(0, 1), (4, 1)])])), (50, ([3], [(0, [(10, 1)]), (0, [(13, 1)]), (0, [(9, 1)])])), (40, ([2], [(0, [(9, 1)]), (0, [(12, 1)]), (0, [(11, 1)]), ((-1), [(0, 1), (4, 1)])])), (41, ([2], [(0, [(9, 1)]), (0, [(12, 1)]), (0, [(11, 1)]), ((-1), [(0, 1), (4, 1)])])), (42, ([2], [(0, [(9, 1)]), (0, [(12, 1)]), (0, [(11, 1)]), ((-1), [(0, 1), (4, 1)])])), (43, ([2], [(0, [(9, 1)]), (0, [(12, 1)]), (0, [(11, 1)]), ((-1), [(0, 1), (4, 1)])])), (2, ([1], [(0, [(1, 17)]), (1, [(1, 17)]), (0, [(7, 1)])])), (3, ([1], [(0, [(1, 17)]), (1, [(1, 17)]), (0, [(7, 1)])])), (2, ([1], [(1, [(1, 17)]), (2, [(1, 17)]), (0, [(9, 1)])])), (3, ([1], [(1, [(1, 17)]), (2, [(1, 17)]), (0, [(9, 1)])])), (2, ([1], [(2, [(1, 17)]), (3, [(1, 17)]), (0, [(10, 1)])])), (3, ([1], [(2, [(1, 17)]), (3, [(1, 17)]), (0, [(10, 1)])])), (2, ([1], [(4, [(1, 17)]), (5, [(1, 17)]), (0, [(2, 1), (3, (-1))])])), (3, ([1], [(4, [(1, 17)]), (5, [(1, 17)]), (0, [(2, 1), (3, (-1))])])), (56, ([2], [(0, [(9, 1)]), (0, [(12, 1)])])), (1105, ([2, 3], [(0, [(9, 1)]), (0, [(12, 1)])])), (1099, ([2], [(0, [(9, 1)]), (0, [(12, 1)]), (0, [(6, 1)])])), (1091, ([2, 0], [(0, [(9, 1)]), (0, [(12, 1)])])), (1114, ([2, 0], [(0, [(9, 1)]), (0, [(12, 1)])])), (46, ([2], [(0, [(9, 1)]), (0, [(12, 1)])])), (44, ([2], [(0, [(9, 1)]), (0, [(12, 1)]), ((-1), [])])), (45, ([2], [(0, [(9, 1)]), (0, [(12, 1)]), ((-1), [])]))])), ([([], [(0, ((0, [(14, 1)]), (0, [])))], ([(434, (0, [(15, 1)]))], [(22, 4)]), (16, [(14, (0, 0)), (15, ((-1), 4096)), (0, (0, 1))], [(0, [(6, 1), (15, (-1))])], 5, [(4, 22)], [], [], [(1092, ([4, 1], [(0, [(1, 1)]), (0, [(9, 1)])])), (1094, ([3, 4], [(0, [(10, 1)]), (0, [(9, 1)])])), (1095, ([3, 1], [(0, [(1, 1)]), (0, [(10, 1)]), (0, [(9, 1)])])), (1100, ([1], [(0, [(1, 1)])])), (34, ([1], [(1, []), (1, [(1, 1)]), (0, [(7, 1)])])), (35, ([1], [(1, []), (1, [(1, 1)]), (0, [(9, 1)])])), (36, ([1], [(1, []), (1, [(1, 1)]), (0, [(10, 1)])])), (61, ([4], [(0, []), (0, [(9, 1)])])), (37, ([4], [(0, [(9, 1)]), (0, [(12, 1)]), ((-1), [(0, 1), (4, 1)])])), (1096, ([3, 4], [(0, [(10, 1)]), (0, [(13, 1)]), (0, [(12, 1)]), (0, [(8, 1)]), ((-1), [(0, 1), (4, 1)])])), (39, ([4], [(0, [(9, 1)]), (0, [(12, 1)])])), (1090, ([4], [(0, [(9, 1)]), (0, [(12, 1)])])), (1098, ([4], [(0, [(9, 1)]), (0, [(12, 1)]), (0, [(5, 1)]), ((-1), [(0, 1), (4, 1)])])), (1103, ([4, 3], [(0, [(9, 1)]), (0, [(12, 1)]), (0, [(13, 1)]), ((-1), [(0, 1), (4, 1)])])), (51, ([3], [(0, [(10, 1)]), (0, [(13, 1)]), (0, [(12, 1)]), ((-1), [(0, 1), (4, 1)])])), (50, ([3], [(0, [(10, 1)]), (0, [(13, 1)]), (0, [(9, 1)])])), (40, ([4], [(0, [(9, 1)]), (0, [(12, 1)]), (0, [(11, 1)]), ((-1), [(0, 1), (4, 1)])])), (41, ([4], [(0, [(9, 1)]), (0, [(12, 1)]), (0, [(11, 1)]), ((-1), [(0, 1), (4, 1)])])), (42, ([4], [(0, [(9, 1)]), (0, [(12, 1)]), (0, [(11, 1)]), ((-1), [(0, 1), (4, 1)])])), (43, ([4], [(0, [(9, 1)]), (0, [(12, 1)]), (0, [(11, 1)]), ((-1), [(0, 1), (4, 1)])])), (2, ([1], [(0, [(1, 17)]), (1, [(1, 17)]), (0, [(7, 1)])])), (3, ([1], [(0, [(1, 17)]), (1, [(1, 17)]), (0, [(7, 1)])])), (2, ([1], [(1, [(1, 17)]), (2, [(1, 17)]), (0, [(9, 1)])])), (3, ([1], [(1, [(1, 17)]), (2, [(1, 17)]), (0, [(9, 1)])])), (2, ([1], [(2, [(1, 17)]), (3, [(1, 17)]), (0, [(10, 1)])])), (3, ([1], [(2, [(1, 17)]), (3, [(1, 17)]), (0, [(10, 1)])])), (2, ([1], [(4, [(1, 17)]), (5, [(1, 17)]), (0, [(2, 1), (3, (-1))])])), (3, ([1], [(4, [(1, 17)]), (5, [(1, 17)]), (0, [(2, 1), (3, (-1))])])), (56, ([4], [(0, [(9, 1)]), (0, [(12, 1)])])), (1105, ([4, 3], [(0, [(9, 1)]), (0, [(12, 1)])])), (1099, ([4], [(0, [(9, 1)]), (0, [(12, 1)]), (0, [(15, 1)])])), (1091, ([4, 0], [(0, [(9, 1)]), (0, [(12, 1)])])), (1114, ([4, 0], [(0, [(9, 1)]), (0, [(12, 1)])])), (46, ([4], [(0, [(9, 1)]), (0, [(12, 1)])])), (44, ([4], [(0, [(9, 1)]), (0, [(12, 1)]), ((-1), [])])), (45, ([4], [(0, [(9, 1)]), (0, [(12, 1)]), ((-1), [])]))])),
   ([], [(0, ((0, [(14, 1)]), (0, [])))], ([(434, (0, [(15, 1)]))], [(22, 4)]), (16, [(14, (0, 0)), (15, ((-1), 4096)), (0, (0, 1))], [(0, [(6, 1), (15, (-1))])], 5, [(4, 22)], [], [], [(1092, ([4, 1], [(0, [(1, 1)]), (0, [(9, 1)])])), (1094, ([3, 4], [(0, [(10, 1)]), (0, [(9, 1)])])), (1095, ([3, 1], [(0, [(1, 1)]), (0, [(10, 1)]), (0, [(9, 1)])])), (1100, ([1], [(0, [(1, 1)])])), (34, ([1], [(1, []), (1, [(1, 1)]), (0, [(7, 1)])])), (35, ([1], [(1, []), (1, [(1, 1)]), (0, [(9, 1)])])), (36, ([1], [(1, []), (1, [(1, 1)]), (0, [(10, 1)])])), (61, ([4], [(0, []), (0, [(9, 1)])])), (37, ([4], [(0, [(9, 1)]), (0, [(12, 1)]), ((-1), [(0, 1), (4, 1)])])), (1096, ([3, 4], [(0, [(10, 1)]), (0, [(13, 1)]), (0, [(12, 1)]), (0, [(8, 1)]), ((-1), [(0, 1), (4, 1)])])), (39, ([4], [(0, [(9, 1)]), (0, [(12, 1)])])), (1090, ([4], [(0, [(9, 1)]), (0, [(12, 1)])])), (1098, ([4], [(0, [(9, 1)]), (0, [(12, 1)]), (0, [(5, 1)]), ((-1), [(0, 1), (4, 1)])])), (1103, ([4, 3], [(0, [(9, 1)]), (0, [(12, 1)]), (0, [(13, 1)]), ((-1), [(0, 1), (4, 1)])])), (51, ([3], [(0, [(10, 1)]), (0, [(13, 1)]), (0, [(12, 1)]), ((-1), [(0, 1), (4, 1)])])), (50, ([3], [(0, [(10, 1)]), (0, [(13, 1)]), (0, [(9, 1)])])), (40, ([4], [(0, [(9, 1)]), (0, [(12, 1)]), (0, [(11, 1)]), ((-1), [(0, 1), (4, 1)])])), (41, ([4], [(0, [(9, 1)]), (0, [(12, 1)]), (0, [(11, 1)]), ((-1), [(0, 1), (4, 1)])])), (42, ([4], [(0, [(9, 1)]), (0, [(12, 1)]), (0, [(11, 1)]), ((-1), [(0, 1), (4, 1)])])), (43, ([4], [(0, [(9, 1)]), (0, [(12, 1)]), (0, [(11, 1)]), ((-1), [(0, 1), (4, 1)])])), (2, ([1], [(0, [(1, 17)]), (1, [(1, 17)]), (0, [(7, 1)])])), (3, ([1], [(0, [(1, 17)]), (1, [(1, 17)]), (0, [(7, 1)])])), (2, ([1], [(1, [(1, 17)]), (2, [(1, 17)]), (0, [(9, 1)])])), (3, ([1], [(1, [(1, 17)]), (2, [(1, 17)]), (0, [(9, 1)])])), (2, ([1], [(2, [(1, 17)]), (3, [(1, 17)]), (0, [(10, 1)])])), (3, ([1], [(2, [(1, 17)]), (3, [(1, 17)]), (0, [(10, 1)])])), (2, ([1], [(4, [(1, 17)]), (5, [(1, 17)]), (0, [(2, 1), (3, (-1))])])), (3, ([1], [(4, [(1, 17)]), (5, [(1, 17)]), (0, [(2, 1), (3, (-1))])])), (56, ([4], [(0, [(9, 1)]), (0, [(12, 1)])])), (1105, ([4, 3], [(0, [(9, 1)]), (0, [(12, 1)])])), (1099, ([4], [(0, [(9, 1)]), (0, [(12, 1)]), (0, [(15, 1)])])), (1091, ([4, 0], [(0, [(9, 1)]), (0, [(12, 1)])])), (1114, ([4, 0], [(0, [(9, 1)]), (0, [(12, 1)])])), (46, ([4], [(0, [(9, 1)]), (0, [(12, 1)])])), (44, ([4], [(0, [(9, 1)]), (0, [(12, 1)]), ((-1), [])])), (45, ([4], [(0, [(9, 1)]), (0, [(12, 1)]), ((-1), [])]))])),
   ([], [(0, ((0, [(14, 1)]), (0, [])))], ([(434, (0, [(15, 1)]))], [(22, 4)]), (16, [(14, (1, 1)), (15, ((-1), 4096)), (0, (0, 1))], [((-1), [(6, 1), (15, (-1))])], 5, [(4, 22)], [], [], [(1092, ([4, 1], [(0, [(1, 1)]), (0, [(9, 1)])])), (1094, ([3, 4], [(0, [(10, 1)]), (0, [(9, 1)])])), (1095, ([3, 1], [(0, [(1, 1)]), (0, [(10, 1)]), (0, [(9, 1)])])), (1100, ([1], [(0, [(1, 1)])])), (34, ([1], [(1, []), (1, [(1, 1)]), (0, [(7, 1)])])), (35, ([1], [(1, []), (1, [(1, 1)]), (0, [(9, 1)])])), (36, ([1], [(1, []), (1, [(1, 1)]), (0, [(10, 1)])])), (61, ([4], [(0, []), (0, [(9, 1)])])), (37, ([4], [(0, [(9, 1)]), (0, [(12, 1)]), ((-1), [(0, 1), (4, 1)])])), (1096, ([3, 4], [(0, [(10, 1)]), (0, [(13, 1)]), (0, [(12, 1)]), (0, [(8, 1)]), ((-1), [(0, 1), (4, 1)])])), (39, ([4], [(0, [(9, 1)]), (0, [(12, 1)])])), (1090, ([4], [(0, [(9, 1)]), (0, [(12, 1)])])), (1098, ([4], [(0, [(9, 1)]), (0, [(12, 1)]), (0, [(5, 1)]), ((-1), [(0, 1), (4, 1)])])), (1103, ([4, 3], [(0, [(9, 1)]), (0, [(12, 1)]), (0, [(13, 1)]), ((-1), [(0, 1), (4, 1)])])), (51, ([3], [(0, [(10, 1)]), (0, [(13, 1)]), (0, [(12, 1)]), ((-1), [(0, 1), (4, 1)])])), (50, ([3], [(0, [(10, 1)]), (0, [(13, 1)]), (0, [(9, 1)])])), (40, ([4], [(0, [(9, 1)]), (0, [(12, 1)]), (0, [(11, 1)]), ((-1), [(0, 1), (4, 1)])])), (41, ([4], [(0, [(9, 1)]), (0, [(12, 1)]), (0, [(11, 1)]), ((-1), [(0, 1), (4, 1)])])), (42, ([4], [(0, [(9, 1)]), (0, [(12, 1)]), (0, [(11, 1)]), ((-1), [(0, 1), (4, 1)])])), (43, ([4], [(0, [(9, 1)]), (0, [(12, 1)]), (0, [(11, 1)]), ((-1), [(0, 1), (4, 1)])])), (2, ([1], [(0, [(1, 17)]), (1, [(1, 17)]), (0, [(7, 1)])])), (3, ([1], [(0, [(1, 17)]), (1, [(1, 17)]), (0, [(7, 1)])])), (2, ([1], [(1, [(1, 17)]), (2, [(1, 17)]), (0, [(9, 1)])])), (3, ([1], [(1, [(1, 17)]), (2, [(1, 17)]), (0, [(9, 1)])])), (2, ([1], [(2, [(1, 17)]), (3, [(1, 17)]), (0, [(10, 1)])])), (3, ([1], [(2, [(1, 17)]), (3, [(1, 17)]), (0, [(10, 1)])])), (2, ([1], [(4, [(1, 17)]), (5, [(1, 17)]), (0, [(2, 1), (3, (-1))])])), (3, ([1], [(4, [(1, 17)]), (5, [(1, 17)]), (0, [(2, 1), (3, (-1))])])), (56, ([4], [(0, [(9, 1)]), (0, [(12, 1)])])), (1105, ([4, 3], [(0, [(9, 1)]), (0, [(12, 1)])])), (1099, ([4], [(0, [(9, 1)]), (0, [(12, 1)]), (0, [(15, 1)])])), (1091, ([4, 0], [(0, [(9, 1)]), (0, [(12, 1)])])), (1114, ([4, 0], [(0, [(9, 1)]), (0, [(12, 1)])])), (46, ([4], [(0, [(9, 1)]), (0, [(12, 1)])]))]))], [22, 434])))
def t54 : List qCt := [cq53]
theorem hdV_X10_distance : yX10_distance.cls = RX10 ∧ yX10_distance.cls ≠ "java/lang/invoke/MethodHandle" ∧ yX10_distance.cls ≠ "java/lang/invoke/VarHandle" ∧ (parseMethodDescriptor yX10_distance.desc).map (fun d => d.parameters.length) = some 1 := by decide +kernel
theorem st55 (l : Launch) {G : rGm} {cc : ByteArray} {nL n fr lo : Nat} {ret : Option FieldType} {Qf : kQf} (hf : 2 ≤ fr) (hlo : 44 ≤ lo) : ySite gAll LAll vwCl rFo rZs rRs rNs rTs G l cc nL RX10 ret fr lo n Qf 182 113 cq53 := ys_V 1 2 12 rc53 lo_2 kc12 (m53 l) kGood kw2126 kw2127 kw2128 kw241 kw2118 hdV_X10_distance hf hlo
def mt54 : yMt := ([(182, (113, 0))], ([], ([], [])))
theorem rc54 : yRc cq54 2 0 = true := by decide +kernel
set_option maxRecDepth 100000 in
def u54_0 : Nat × (qS × (qL × (qL × qL))) := (1, (([(0, (2, ((5, []), (0, [])))), (1, (0, ((0, [(14, 1)]), (0, [])))), (2, (0, ((0, [(15, 1)]), (0, []))))], [], ([(438, (0, [(0, 1)])), (5, (0, [(1, 1)])), (12, (0, [(2, 1)])), (432, (0, [(3, 1)])), (437, (0, [(4, 1)])), (436, (0, [(5, 1)])), (434, (0, [(16, 1)])), (433, (0, [(7, 1)])), (435, (0, [(8, 1)])), (430, (0, [(9, 1)])), (431, (0, [(10, 1)])), (10, (0, [(11, 1)])), (8, (0, [(12, 1)])), (9, (0, [(13, 1)]))], [(28, 0), (27, 1), (22, 4), (23, 3)]), (17, [(1, (0, 31)), (12, (0, 8192)), (0, (0, 0)), (2, (0, 4194304)), (3, (0, 131072)), (4, (0, 0)), (5, (0, 5000)), (6, ((-1), 4096)), (7, (0, 1024)), (8, ((-1), 2097152)), (9, (0, 8192)), (10, (0, 4096)), (11, (0, 131072)), (13, (0, 4096)), (14, (0, 1)), (15, (0, 2147483647)), (16, ((-1), 4096))], [(0, [(9, (-1)), (12, 1)]), (0, [(10, (-1)), (13, 1)]), (0, [(2, 1), (3, (-1))]), (131072, [(0, 3000000), (2, (-1))]), ((-1), [(0, 3000000), (8, (-1))]), (0, [(0, 9000), (5, (-1)), (13, 1)]), (2147483648, [(14, (-1)), (15, 1)]), (63, [(1, (-1)), (14, 1)]), (1, [(1, 1), (14, (-1))]), (2147483648, [(12, 1), (14, (-1))]), (0, [(9, (-1)), (15, 1)]), (0, [(6, 1), (14, (-1)), (16, (-1))]), (0, [(12, 1), (15, (-1))]), (0, [(6, (-1)), (14, 4097), (16, 1)])], 5, [(4, 22)], [], [], [(1092, ([2, 1], [(0, [(1, 1)]), (0, [(9, 1)])])), (1092, ([4, 1], [(0, [(1, 1)]), (0, [(9, 1)])])), (1094, ([3, 2], [(0, [(10, 1)]), (0, [(9, 1)])])), (1094, ([3, 4], [(0, [(10, 1)]), (0, [(9, 1)])])), (1095, ([3, 1], [(0, [(1, 1)]), (0, [(10, 1)]), (0, [(9, 1)])])), (1100, ([1], [(0, [(1, 1)])])), (34, ([1], [(1, []), (1, [(1, 1)]), (0, [(7, 1)])])), (35, ([1], [(1, []), (1, [(1, 1)]), (0, [(9, 1)])])), (36, ([1], [(1, []), (1, [(1, 1)]), (0, [(10, 1)])])), (61, ([2], [(0, []), (0, [(9, 1)])])), (61, ([4], [(0, []), (0, [(9, 1)])])), (37, ([2], [(0, [(9, 1)]), (0, [(12, 1)]), ((-1), [(0, 1), (4, 1)])])), (37, ([4], [(0, [(9, 1)]), (0, [(12, 1)]), ((-1), [(0, 1), (4, 1)])])), (1096, ([3, 2], [(0, [(10, 1)]), (0, [(13, 1)]), (0, [(12, 1)]), (0, [(8, 1)]), ((-1), [(0, 1), (4, 1)])])), (1096, ([3, 4], [(0, [(10, 1)]), (0, [(13, 1)]), (0, [(12, 1)]), (0, [(8, 1)]), ((-1), [(0, 1), (4, 1)])])), (39, ([2], [(0, [(9, 1)]), (0, [(12, 1)])])), (39, ([4], [(0, [(9, 1)]), (0, [(12, 1)])])), (1090, ([2], [(0, [(9, 1)]), (0, [(12, 1)])])), (1090, ([4], [(0, [(9, 1)]), (0, [(12, 1)])])), (1098, ([2], [(0, [(9, 1)]), (0, [(12, 1)]), (0, [(5, 1)]), ((-1), [(0, 1), (4, 1)])])), (1098, ([4], [(0, [(9, 1)]), (0, [(12, 1)]), (0, [(5, 1)]), ((-1), [(0, 1), (4, 1)])])), (1103, ([2, 3], [(0, [(9, 1)]), (0, [(12, 1)]), (0, [(13, 1)]), ((-1), [(0, 1), (4, 1)])])), (1103, ([4, 3], [(0, [(9, 1)]), (0, [(12, 1)]), (0, [(13, 1)]), ((-1), [(0, 1), (4, 1)])])), (51, ([3], [(0, [(10, 1)]), (0, [(13, 1)]), (0, [(12, 1)]), ((-1), [(0, 1), (4, 1)])])), (50, ([3], [(0, [(10, 1)]), (0, [(13, 1)]), (0, [(9, 1)])])), (40, ([2], [(0, [(9, 1)]), (0, [(12, 1)]), (0, [(11, 1)]), ((-1), [(0, 1), (4, 1)])])), (40, ([4], [(0, [(9, 1)]), (0, [(12, 1)]), (0, [(11, 1)]), ((-1), [(0, 1), (4, 1)])])), (41, ([2], [(0, [(9, 1)]), (0, [(12, 1)]), (0, [(11, 1)]), ((-1), [(0, 1), (4, 1)])])), (41, ([4], [(0, [(9, 1)]), (0, [(12, 1)]), (0, [(11, 1)]), ((-1), [(0, 1), (4, 1)])])), (42, ([2], [(0, [(9, 1)]), (0, [(12, 1)]), (0, [(11, 1)]), ((-1), [(0, 1), (4, 1)])])), (42, ([4], [(0, [(9, 1)]), (0, [(12, 1)]), (0, [(11, 1)]), ((-1), [(0, 1), (4, 1)])])), (43, ([2], [(0, [(9, 1)]), (0, [(12, 1)]), (0, [(11, 1)]), ((-1), [(0, 1), (4, 1)])])), (43, ([4], [(0, [(9, 1)]), (0, [(12, 1)]), (0, [(11, 1)]), ((-1), [(0, 1), (4, 1)])])), (2, ([1], [(0, [(1, 17)]), (1, [(1, 17)]), (0, [(7, 1)])])), (3, ([1], [(0, [(1, 17)]), (1, [(1, 17)]), (0, [(7, 1)])])), (2, ([1], [(1, [(1, 17)]), (2, [(1, 17)]), (0, [(9, 1)])])), (3, ([1], [(1, [(1, 17)]), (2, [(1, 17)]), (0, [(9, 1)])])), (2, ([1], [(2, [(1, 17)]), (3, [(1, 17)]), (0, [(10, 1)])])), (3, ([1], [(2, [(1, 17)]), (3, [(1, 17)]), (0, [(10, 1)])])), (2, ([1], [(4, [(1, 17)]), (5, [(1, 17)]), (0, [(2, 1), (3, (-1))])])), (3, ([1], [(4, [(1, 17)]), (5, [(1, 17)]), (0, [(2, 1), (3, (-1))])])), (56, ([2], [(0, [(9, 1)]), (0, [(12, 1)])])), (56, ([4], [(0, [(9, 1)]), (0, [(12, 1)])])), (1105, ([2, 3], [(0, [(9, 1)]), (0, [(12, 1)])])), (1105, ([4, 3], [(0, [(9, 1)]), (0, [(12, 1)])])), (1099, ([2], [(0, [(9, 1)]), (0, [(12, 1)]), (0, [(6, 1)])])), (1099, ([4], [(0, [(9, 1)]), (0, [(12, 1)]), (0, [(6, 1)])])), (1099, ([4], [(0, [(9, 1)]), (0, [(12, 1)]), (0, [(16, 1)])])), (1091, ([2, 0], [(0, [(9, 1)]), (0, [(12, 1)])])), (1091, ([4, 0], [(0, [(9, 1)]), (0, [(12, 1)])])), (1114, ([2, 0], [(0, [(9, 1)]), (0, [(12, 1)])])), (1114, ([4, 0], [(0, [(9, 1)]), (0, [(12, 1)])])), (46, ([2], [(0, [(9, 1)]), (0, [(12, 1)])])), (46, ([4], [(0, [(9, 1)]), (0, [(12, 1)])])), (44, ([2], [(0, [(9, 1)]), (0, [(12, 1)]), ((-1), [])])), (45, ([2], [(0, [(9, 1)]), (0, [(12, 1)]), ((-1), [])])), (1088, ([], [(0, [(15, 1)]), (0, [(15, 1)])])), (44, ([4], [(0, [(9, 1)]), (0, [(12, 1)]), ((-1), [(14, 1)])])), (45, ([4], [(0, [(9, 1)]), (0, [(12, 1)]), ((-1), [(14, 1)])]))])), ((0, []), ((137438953408, [(12, 64), (15, (-64))]), (0, [])))))
def u54 : qCu := [u54_0]
set_option maxRecDepth 100000 in
theorem z54_s : zsm (zblk gAll cq54.2.2.2 t54 ruI2 ruJ2 rqL b54 cq54 (zrun gAll cq54.2.2.2 t54 ruI2 ruJ2 rqL b54 u54 cq54 none 300) 0 cq54.2.1 []) = true := sorry
set_option maxRecDepth 100000 in
theorem z54_0 : zsm (zfrom gAll cq54.2.2.2 t54 ruI2 ruJ2 rqL b54 u54 cq54 300 u54_0 []) = true := sorry
theorem yr54 : yRun gAll t54 b54 cq54 := yRun_p (cuts := u54) (fuel := 300) gAll_tag ruI2_RtI ruJ2_RtJ rqL_ok ⟨zsm_e _ z54_s, List.forall_mem_cons.mpr ⟨zsm_e _ z54_0, yA_n⟩⟩
theorem zw54 : zwid cq54.2.1.1 cq54.1 0 6 = true := by decide +kernel
set_option maxRecDepth 100000 in
theorem yw54 : yRows gAll LAll yt11 mt54 gHo 6 3 (zby cX10_lengthen) p54 b54 p54 = true := by decide +kernel
set_option maxRecDepth 100000 in
theorem m54 (l : Launch) : kMet gAll LAll vwCl rFo rZs rRs rNs rTs l yX10_lengthen cX10_lengthen 6 (some .boolean) 2 44 cq54 := kmet_y2 (rt := 3) (by decide +kernel) yr54 zw54 rfl yw54 LAll_ok LAll_la yt11_ok gHo_ok rfl (fun G n Qf => List.forall_mem_cons.mpr ⟨⟨cq53, rfl, st55 l (by decide) (by decide)⟩, yA_n⟩) rfl (fun G n Rr => yA_n) rfl
/-! 55 Units.mayBeShort/waits[]/statements[] ([I[I)Z -/
set_option maxRecDepth 100000 in
def b55 : qCd := [([(3, 1, 2, 0), (0, 4, 0, 0), (38, 0, 0, 0), (28, 23, 0, 0), (4, 3, 0, 0), (3, 1, 2, 0), (0, 5, 0, 0), (38, 0, 0, 0), (28, 23, 0, 0), (0, (-1), 0, 0)], (1, 1, 2, 1, [])),
  ([(3, 3, 0, 0), (0, (-1), 0, 0)], (1, 1, 3, 2, [])),
  ([(0, 0, 0, 0), (34, 438, 0, 0), (34, 5, 0, 0), (34, 437, 0, 0), (34, 436, 0, 0), (34, 435, 0, 0), (34, 430, 0, 0), (34, 431, 0, 0), (34, 10, 0, 0), (34, 8, 0, 0), (34, 9, 0, 0), (35, 27, 0, 0), (35, 22, 0, 0), (35, 23, 0, 0), (38, 0, 0, 0)], (5, 0, 0, 0, [(0, 0), (1, 0)])),
  ([(3, 0, 2, 0), (3, 3, 0, 0), (3, 2, 2, 0), (34, 438, 0, 0), (34, 5, 0, 0), (34, 437, 0, 0), (34, 436, 0, 0), (34, 435, 0, 0), (34, 430, 0, 0), (34, 431, 0, 0), (34, 10, 0, 0), (34, 8, 0, 0), (34, 9, 0, 0), (35, 27, 0, 0), (35, 22, 0, 0), (35, 23, 0, 0), (38, 0, 0, 0), (33, 0, 0, 0), (3, 2, 2, 0), (0, 1, 0, 0), (38, 0, 0, 0), (28, 22, 0, 0)], (1, 1, 7, 4, [])),
  ([(3, 3, 0, 0), (0, (-2), 0, 0)], (1, 0, 6, 5, [])),
  ([(3, 0, 2, 0), (25, 5, 19, 0), (3, 3, 0, 0), (38, 0, 0, 0), (27, 19, 19, 0), (0, 1, 0, 0), (38, 0, 0, 0), (28, 19, 0, 0), (0, 8, 0, 0), (38, 0, 0, 0), (18, 0, 0, 0)], (2, 1, 7, 6, [])),
  ([(0, 1, 0, 0)], (0, 0, 8, 0, [])),
  ([(0, 0, 0, 0)], (0, 0, 8, 0, [])),
  ([(34, 438, 0, 0), (34, 5, 0, 0), (34, 437, 0, 0), (34, 436, 0, 0), (34, 435, 0, 0), (34, 430, 0, 0), (34, 431, 0, 0), (34, 10, 0, 0), (34, 8, 0, 0), (34, 9, 0, 0), (35, 27, 0, 0), (35, 22, 0, 0), (35, 23, 0, 0), (38, 0, 0, 0)], (5, 0, 0, 0, [(0, 0), (1, 0)]))]
def p55 : List Nat := [0, 11, 16, 18, 30, 36, 50, 54, 55]
set_option maxRecDepth 100000 in
def cq55 : qCt := (3, (([(0, (2, ((5, []), (0, [])))), (1, (2, ((18461, [(0, 2)]), (0, [])))), (2, (2, ((2075, [(1, 2)]), (0, []))))], [], ([(438, (0, [(2, 1)])), (5, (0, [(3, 1)])), (437, (0, [(4, 1)])), (436, (0, [(5, 1)])), (435, (0, [(6, 1)])), (430, (0, [(7, 1)])), (431, (0, [(8, 1)])), (10, (0, [(9, 1)])), (8, (0, [(10, 1)])), (9, (0, [(11, 1)]))], [(27, 0), (22, 1), (23, 2)]), (12, [(0, (0, 4095)), (1, (0, 8191)), (2, (0, 0)), (3, (0, 32)), (4, (0, 0)), (5, (0, 5000)), (6, ((-1), 2097152)), (7, (0, 8192)), (8, (0, 4096)), (9, (0, 131072)), (10, (0, 8192)), (11, (0, 4096))], [], 3, [(0, 27), (1, 22), (2, 23)], [], [], [(1092, ([1, 0], [(0, [(3, 1)]), (0, [(7, 1)])])), (1094, ([2, 1], [(0, [(8, 1)]), (0, [(7, 1)])])), (1095, ([2, 0], [(0, [(3, 1)]), (0, [(8, 1)]), (0, [(7, 1)])])), (61, ([1], [(0, []), (0, [(7, 1)])])), (37, ([1], [(0, [(7, 1)]), (0, [(10, 1)]), ((-1), [(2, 1), (4, 1)])])), (1096, ([2, 1], [(0, [(8, 1)]), (0, [(11, 1)]), (0, [(10, 1)]), (0, [(6, 1)]), ((-1), [(2, 1), (4, 1)])])), (39, ([1], [(0, [(7, 1)]), (0, [(10, 1)])])), (1090, ([1], [(0, [(7, 1)]), (0, [(10, 1)])])), (1098, ([1], [(0, [(7, 1)]), (0, [(10, 1)]), (0, [(5, 1)]), ((-1), [(2, 1), (4, 1)])])), (1103, ([1, 2], [(0, [(7, 1)]), (0, [(10, 1)]), (0, [(11, 1)]), ((-1), [(2, 1), (4, 1)])])), (51, ([2], [(0, [(8, 1)]), (0, [(11, 1)]), (0, [(10, 1)]), ((-1), [(2, 1), (4, 1)])])), (50, ([2], [(0, [(8, 1)]), (0, [(11, 1)]), (0, [(7, 1)])])), (40, ([1], [(0, [(7, 1)]), (0, [(10, 1)]), (0, [(9, 1)]), ((-1), [(2, 1), (4, 1)])])), (41, ([1], [(0, [(7, 1)]), (0, [(10, 1)]), (0, [(9, 1)]), ((-1), [(2, 1), (4, 1)])])), (42, ([1], [(0, [(7, 1)]), (0, [(10, 1)]), (0, [(9, 1)]), ((-1), [(2, 1), (4, 1)])])), (43, ([1], [(0, [(7, 1)]), (0, [(10, 1)]), (0, [(9, 1)]), ((-1), [(2, 1), (4, 1)])])), (56, ([1], [(0, [(7, 1)]), (0, [(10, 1)])]))])), ([([], [(0, ((0, [(12, 1)]), (0, [])))], ([], []), (13, [(12, (0, 0)), (2, (0, 1))], [], 3, [], [], [], [(1092, ([1, 0], [(0, [(3, 1)]), (0, [(7, 1)])])), (1094, ([2, 1], [(0, [(8, 1)]), (0, [(7, 1)])])), (1095, ([2, 0], [(0, [(3, 1)]), (0, [(8, 1)]), (0, [(7, 1)])])), (61, ([1], [(0, []), (0, [(7, 1)])])), (37, ([1], [(0, [(7, 1)]), (0, [(10, 1)]), ((-1), [(2, 1), (4, 1)])])), (1096, ([2, 1], [(0, [(8, 1)]), (0, [(11, 1)]), (0, [(10, 1)]), (0, [(6, 1)]), ((-1), [(2, 1), (4, 1)])])), (39, ([1], [(0, [(7, 1)]), (0, [(10, 1)])])), (1090, ([1], [(0, [(7, 1)]), (0, [(10, 1)])])), (1098, ([1], [(0, [(7, 1)]), (0, [(10, 1)]), (0, [(5, 1)]), ((-1), [(2, 1), (4, 1)])])), (1103, ([1, 2], [(0, [(7, 1)]), (0, [(10, 1)]), (0, [(11, 1)]), ((-1), [(2, 1), (4, 1)])])), (51, ([2], [(0, [(8, 1)]), (0, [(11, 1)]), (0, [(10, 1)]), ((-1), [(2, 1), (4, 1)])])), (50, ([2], [(0, [(8, 1)]), (0, [(11, 1)]), (0, [(7, 1)])])), (40, ([1], [(0, [(7, 1)]), (0, [(10, 1)]), (0, [(9, 1)]), ((-1), [(2, 1), (4, 1)])])), (41, ([1], [(0, [(7, 1)]), (0, [(10, 1)]), (0, [(9, 1)]), ((-1), [(2, 1), (4, 1)])])), (42, ([1], [(0, [(7, 1)]), (0, [(10, 1)]), (0, [(9, 1)]), ((-1), [(2, 1), (4, 1)])])), (43, ([1], [(0, [(7, 1)]), (0, [(10, 1)]), (0, [(9, 1)]), ((-1), [(2, 1), (4, 1)])])), (56, ([1], [(0, [(7, 1)]), (0, [(10, 1)])]))])),
   ([], [(0, ((0, [(12, 1)]), (0, [])))], ([], []), (13, [(12, (1, 1)), (2, (0, 1))], [], 3, [], [], [], [(1092, ([1, 0], [(0, [(3, 1)]), (0, [(7, 1)])])), (1094, ([2, 1], [(0, [(8, 1)]), (0, [(7, 1)])])), (1095, ([2, 0], [(0, [(3, 1)]), (0, [(8, 1)]), (0, [(7, 1)])])), (61, ([1], [(0, []), (0, [(7, 1)])])), (37, ([1], [(0, [(7, 1)]), (0, [(10, 1)]), ((-1), [(2, 1), (4, 1)])])), (1096, ([2, 1], [(0, [(8, 1)]), (0, [(11, 1)]), (0, [(10, 1)]), (0, [(6, 1)]), ((-1), [(2, 1), (4, 1)])])), (39, ([1], [(0, [(7, 1)]), (0, [(10, 1)])])), (1090, ([1], [(0, [(7, 1)]), (0, [(10, 1)])])), (1098, ([1], [(0, [(7, 1)]), (0, [(10, 1)]), (0, [(5, 1)]), ((-1), [(2, 1), (4, 1)])])), (1103, ([1, 2], [(0, [(7, 1)]), (0, [(10, 1)]), (0, [(11, 1)]), ((-1), [(2, 1), (4, 1)])])), (51, ([2], [(0, [(8, 1)]), (0, [(11, 1)]), (0, [(10, 1)]), ((-1), [(2, 1), (4, 1)])])), (50, ([2], [(0, [(8, 1)]), (0, [(11, 1)]), (0, [(7, 1)])])), (40, ([1], [(0, [(7, 1)]), (0, [(10, 1)]), (0, [(9, 1)]), ((-1), [(2, 1), (4, 1)])])), (41, ([1], [(0, [(7, 1)]), (0, [(10, 1)]), (0, [(9, 1)]), ((-1), [(2, 1), (4, 1)])])), (42, ([1], [(0, [(7, 1)]), (0, [(10, 1)]), (0, [(9, 1)]), ((-1), [(2, 1), (4, 1)])])), (43, ([1], [(0, [(7, 1)]), (0, [(10, 1)]), (0, [(9, 1)]), ((-1), [(2, 1), (4, 1)])])), (56, ([1], [(0, [(7, 1)]), (0, [(10, 1)])])), (1113, ([2], [(0, [(0, 1)])]))]))], [])))
def t55 : List qCt := [cq49]
def mt55 : yMt := ([(182, (95, 0))], ([], ([], [])))
theorem rc55 : yRc cq55 2 2 = true := by decide +kernel
set_option maxRecDepth 100000 in
def u55 : qCu := []
set_option maxRecDepth 100000 in
theorem z55 : zchk gAll t55 ruI2 ruJ2 rqL b55 u55 cq55 300 [] = true := sorry
theorem yr55 : yRun gAll t55 b55 cq55 := yRun_z gAll_tag ruI2_RtI ruJ2_RtJ rqL_ok z55
theorem zw55 : zwid cq55.2.1.1 cq55.1 0 4 = true := by decide +kernel
set_option maxRecDepth 100000 in
theorem yw55 : yRows gAll LAll yt11 mt55 gHo 4 3 (zby cX10_mayBeShort) p55 b55 p55 = true := by decide +kernel
set_option maxRecDepth 100000 in
theorem m55 (l : Launch) : kMet gAll LAll vwCl rFo rZs rRs rNs rTs l yX10_mayBeShort cX10_mayBeShort 4 (some .boolean) 1 22 cq55 := kmet_y2 (rt := 3) (by decide +kernel) yr55 zw55 rfl yw55 LAll_ok LAll_la yt11_ok gHo_ok rfl (fun G n Qf => List.forall_mem_cons.mpr ⟨⟨cq49, rfl, st53 l (by decide) (by decide)⟩, yA_n⟩) rfl (fun G n Rr => yA_n) rfl
/-! 56 java/util/Arrays.fill/ends ([II)V -/
set_option maxRecDepth 100000 in
def b56 : qCd := [([(0, 0, 0, 0), (4, 2, 0, 0), (3, 0, 2, 0), (38, 0, 0, 0), (30, 28, 0, 0), (4, 3, 0, 0), (35, 28, 0, 0), (40, 2, 0, 0), (38, 0, 0, 0)], (0, 0, 1, 0, [])),
  ([(3, 2, 0, 0), (36, 0, 0, 0), (3, 3, 0, 0)], (1, 3, 3, 2, [])),
  ([(3, 0, 2, 0), (3, 2, 0, 0), (36, 0, 0, 0), (3, 1, 0, 0), (38, 0, 0, 0), (29, 28, 0, 0), (5, 2, 1, 0), (35, 28, 0, 0), (40, 2, 0, 0), (38, 0, 0, 0)], (0, 0, 1, 0, [])),
  ([(35, 28, 0, 0), (38, 0, 0, 0)], (4, 0, 0, 0, []))]
def p56 : List Nat := [0, 5, 10, 20]
set_option maxRecDepth 100000 in
def cq56 : qCt := (2, (([(0, (2, ((26727, []), (0, [])))), (1, (0, ((0, [(0, 1)]), (0, []))))], [], ([], [(28, 0)]), (1, [(0, (0, 1074003968))], [], 1, [(0, 28)], [], [], [])), ([([], [], ([], [(28, 1)]), (1, [], [], 2, [(1, 28)], [], [], [(3, ([1], [(0, []), (4, []), (0, [(0, 1)])]))]))], [28])))
def t56 : List qCt := []
def mt56 : yMt := ([], ([], ([], [])))
set_option maxRecDepth 100000 in
def u56_0 : Nat × (qS × (qL × (qL × qL))) := (1, (([(0, (2, ((26727, []), (0, [])))), (1, (0, ((0, [(0, 1)]), (0, [])))), (2, (0, ((0, [(1, 1)]), (0, [])))), (3, (0, ((0, [(2, 1)]), (0, []))))], [], ([], [(28, 1)]), (3, [(0, (0, 1074003968)), (1, (0, 4)), (2, (4, 4))], [], 2, [(1, 28)], [], [], [(3, ([1], [(0, []), (0, [(1, 1)]), (0, [(0, 1)])]))])), ((0, []), ((0, [(1, (-64)), (2, 64)]), (0, [])))))
def u56 : qCu := [u56_0]
set_option maxRecDepth 100000 in
theorem z56_s : zsm (zblk gAll cq56.2.2.2 t56 ruI2 ruJ2 rqL b56 cq56 (zrun gAll cq56.2.2.2 t56 ruI2 ruJ2 rqL b56 u56 cq56 none 300) 0 cq56.2.1 [0, 0, 2, 61, 1, 3, 0, 0, 0, 0, 0, 0, 1, 0, 2, 0, 0]) = true := sorry
set_option maxRecDepth 100000 in
theorem z56_0 : zsm (zfrom gAll cq56.2.2.2 t56 ruI2 ruJ2 rqL b56 u56 cq56 300 u56_0 []) = true := sorry
theorem yr56 : yRun gAll t56 b56 cq56 := yRun_p (cuts := u56) (fuel := 300) gAll_tag ruI2_RtI ruJ2_RtJ rqL_ok ⟨zsm_e _ z56_s, List.forall_mem_cons.mpr ⟨zsm_e _ z56_0, yA_n⟩⟩
theorem zw56 : zwid cq56.2.1.1 cq56.1 0 4 = true := by decide +kernel
set_option maxRecDepth 100000 in
theorem yw56 : yRows gAll LAll yt17 mt56 gHo 4 0 (zby cJ7_fill_53178) p56 b56 p56 = true := by decide +kernel
set_option maxRecDepth 100000 in
theorem m56 (l : Launch) : kMet gAll LAll vwCl rFo rZs rRs rNs rTs l yJ7_fill_53178 cJ7_fill_53178 4 none 0 0 cq56 := kmet_y2 (rt := 0) (by decide +kernel) yr56 zw56 rfl yw56 LAll_ok LAll_la yt17_ok gHo_ok rfl (fun G n Qf => yA_n) rfl (fun G n Rr => yA_n) rfl
