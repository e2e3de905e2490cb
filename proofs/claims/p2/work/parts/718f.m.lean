/-! 301 Model.pass (IZ)I -/
set_option maxRecDepth 100000 in
def b301 : qCd := [([(3, 1, 0, 0), (4, 3, 0, 0), (0, 0, 0, 0), (4, 4, 0, 0), (0, 1, 0, 0), (4, 5, 0, 0), (34, 223, 0, 0), (34, 192, 0, 0), (34, 231, 0, 0), (34, 191, 0, 0), (35, 291, 0, 0), (35, 347, 0, 0), (35, 349, 0, 0), (35, 350, 0, 0), (35, 290, 0, 0), (40, 3, 0, 0), (40, 4, 0, 0), (38, 0, 0, 0)], (0, 0, 1, 0, [])),
  ([(3, 3, 0, 0), (36, 0, 0, 0), (3, 0, 2, 0), (24, 26909, 231, 0)], (1, 3, 22, 2, [])),
  ([(3, 5, 0, 0)], (2, 0, 9, 3, [])),
  ([(3, 0, 2, 0), (3, 3, 0, 0), (36, 0, 0, 0), (0, 40, 0, 0), (34, 223, 0, 0), (34, 231, 0, 0), (35, 347, 0, 0), (35, 349, 0, 0), (35, 350, 0, 0), (38, 0, 0, 0), (33, 0, 0, 0)], (2, 0, 5, 4, [])),
  ([(5, 4, 1, 0), (34, 223, 0, 0), (34, 192, 0, 0), (34, 231, 0, 0), (34, 191, 0, 0), (35, 291, 0, 0), (35, 347, 0, 0), (35, 349, 0, 0), (35, 350, 0, 0), (35, 290, 0, 0), (40, 3, 0, 0), (40, 4, 0, 0), (38, 0, 0, 0)], (0, 0, 21, 0, [])),
  ([(3, 0, 2, 0), (3, 3, 0, 0), (36, 0, 0, 0), (34, 223, 0, 0), (34, 192, 0, 0), (34, 202, 0, 0), (34, 231, 0, 0), (34, 191, 0, 0), (35, 291, 0, 0), (35, 347, 0, 0), (35, 349, 0, 0), (35, 350, 0, 0), (35, 290, 0, 0), (38, 0, 0, 0), (33, 1, 0, 0)], (2, 0, 7, 6, [])),
  ([(0, 0, 0, 0), (4, 5, 0, 0), (34, 223, 0, 0), (34, 192, 0, 0), (34, 231, 0, 0), (34, 191, 0, 0), (35, 291, 0, 0), (35, 347, 0, 0), (35, 349, 0, 0), (35, 350, 0, 0), (35, 290, 0, 0), (40, 3, 0, 0), (40, 4, 0, 0), (38, 0, 0, 0)], (0, 0, 21, 0, [])),
  ([(3, 0, 2, 0), (3, 3, 0, 0), (36, 0, 0, 0), (34, 223, 0, 0), (34, 231, 0, 0), (35, 347, 0, 0), (35, 349, 0, 0), (35, 350, 0, 0), (38, 0, 0, 0), (33, 2, 0, 0)], (2, 1, 27, 8, [])),
  ([(0, (-1), 0, 0), (34, 223, 0, 0), (34, 192, 0, 0), (34, 231, 0, 0), (34, 191, 0, 0), (35, 291, 0, 0), (35, 347, 0, 0), (35, 349, 0, 0), (35, 350, 0, 0), (35, 290, 0, 0), (38, 0, 0, 0)], (5, 0, 0, 0, [((-2147483648), 0), (2147483647, 0)])),
  ([(3, 0, 2, 0), (3, 3, 0, 0), (36, 0, 0, 0), (0, 41, 0, 0), (34, 223, 0, 0), (34, 231, 0, 0), (35, 347, 0, 0), (35, 349, 0, 0), (35, 350, 0, 0), (38, 0, 0, 0), (33, 0, 0, 0)], (2, 0, 12, 10, [])),
  ([(3, 4, 0, 0), (36, 0, 0, 0)], (2, 5, 12, 11, [])),
  ([(5, 4, (-1), 0), (34, 223, 0, 0), (34, 192, 0, 0), (34, 231, 0, 0), (34, 191, 0, 0), (35, 291, 0, 0), (35, 347, 0, 0), (35, 349, 0, 0), (35, 350, 0, 0), (35, 290, 0, 0), (40, 3, 0, 0), (40, 4, 0, 0), (38, 0, 0, 0)], (0, 0, 21, 0, [])),
  ([(3, 0, 2, 0), (25, 26909, 27115, 0), (3, 3, 0, 0), (36, 0, 0, 0), (38, 0, 0, 0), (28, 347, 0, 0), (0, 4, 0, 0)], (1, 1, 14, 13, [])),
  ([(3, 0, 2, 0), (25, 26909, 27121, 0), (3, 3, 0, 0), (36, 0, 0, 0), (38, 0, 0, 0), (28, 350, 0, 0), (38, 0, 0, 0), (22, 0, 0, 0), (36, 0, 0, 0), (38, 0, 0, 0), (33, 3, 0, 0)], (0, 0, 15, 0, [])),
  ([(0, 0, 0, 0)], (0, 0, 15, 0, [])),
  ([(4, 6, 0, 0), (3, 6, 0, 0)], (2, 0, 22, 16, [])),
  ([(3, 2, 0, 0)], (2, 0, 20, 17, [])),
  ([(3, 4, 0, 0), (36, 0, 0, 0)], (2, 1, 20, 18, [])),
  ([(3, 6, 0, 0), (0, 6, 0, 0)], (1, 3, 20, 19, [])),
  ([], (0, 0, 22, 0, [])),
  ([(0, 1, 0, 0), (4, 5, 0, 0), (34, 223, 0, 0), (34, 192, 0, 0), (34, 231, 0, 0), (34, 191, 0, 0), (35, 291, 0, 0), (35, 347, 0, 0), (35, 349, 0, 0), (35, 350, 0, 0), (35, 290, 0, 0), (40, 3, 0, 0), (40, 4, 0, 0), (38, 0, 0, 0)], (0, 0, 21, 0, [])),
  ([(5, 3, 1, 0), (34, 223, 0, 0), (34, 192, 0, 0), (34, 231, 0, 0), (34, 191, 0, 0), (35, 291, 0, 0), (35, 347, 0, 0), (35, 349, 0, 0), (35, 350, 0, 0), (35, 290, 0, 0), (40, 3, 0, 0), (40, 4, 0, 0), (38, 0, 0, 0)], (0, 0, 1, 0, [])),
  ([(3, 5, 0, 0)], (2, 1, 28, 23, [])),
  ([(3, 4, 0, 0), (36, 0, 0, 0)], (2, 5, 25, 29, [])),
  ([(0, (-1), 0, 0)], (0, 0, 26, 0, [])),
  ([(3, 3, 0, 0), (36, 0, 0, 0)], (0, 0, 26, 0, [])),
  ([(34, 223, 0, 0), (34, 192, 0, 0), (34, 231, 0, 0), (34, 191, 0, 0), (35, 291, 0, 0), (35, 347, 0, 0), (35, 349, 0, 0), (35, 350, 0, 0), (35, 290, 0, 0), (38, 0, 0, 0)], (5, 0, 0, 0, [((-2147483648), 0), (2147483647, 0)])),
  ([(34, 223, 0, 0), (34, 192, 0, 0), (34, 231, 0, 0), (34, 191, 0, 0), (35, 291, 0, 0), (35, 347, 0, 0), (35, 349, 0, 0), (35, 350, 0, 0), (35, 290, 0, 0), (40, 3, 0, 0), (40, 4, 0, 0), (38, 0, 0, 0)], (0, 0, 21, 0, [])),
  ([(34, 223, 0, 0), (34, 192, 0, 0), (34, 231, 0, 0), (34, 191, 0, 0), (35, 291, 0, 0), (35, 347, 0, 0), (35, 349, 0, 0), (35, 350, 0, 0), (35, 290, 0, 0), (38, 0, 0, 0)], (0, 0, 24, 0, [])),
  ([(34, 223, 0, 0), (34, 192, 0, 0), (34, 231, 0, 0), (34, 191, 0, 0), (35, 291, 0, 0), (35, 347, 0, 0), (35, 349, 0, 0), (35, 350, 0, 0), (35, 290, 0, 0), (38, 0, 0, 0)], (0, 0, 24, 0, []))]
def p301 : List Nat := [0, 8, 16, 21, 31, 37, 45, 51, 59, 61, 71, 76, 82, 92, 105, 106, 113, 117, 122, 129, 132, 135, 141, 146, 151, 155, 156, 135, 151, 151]
set_option maxRecDepth 100000 in
def d301 : qCt := (3, (([(0, (2, ((26909, []), (0, [])))), (1, (0, ((0, [(0, 1)]), (0, [])))), (2, (0, ((0, [(1, 1)]), (0, []))))], [], ([(223, (0, [(2, 1)])), (192, (0, [(3, 1)])), (231, (0, [(4, 1)])), (191, (0, [(5, 1)]))], [(291, 0), (347, 1), (349, 2), (350, 3), (290, 4)]), (6, [(0, (0, 4097)), (1, (0, 1)), (3, (48, 48)), (4, (1, 1024)), (5, (137, 137)), (2, (0, 7))], [(0, [(0, 1), (1, (-1))])], 5, [(0, 291), (1, 347), (2, 349), (3, 350), (4, 290)], [], [], [(11, ([1, 2], [(0, []), (0, [(4, 1)]), (0, [(2, 1)])])), (12, ([1, 2], [(0, []), (0, [(4, 1)]), (0, [(2, 1)])])), (17, ([1, 3], [(0, []), (0, [(4, 1)])])), (18, ([1, 3], [(0, []), (0, [(4, 1)])])), (21, ([1, 2], [(0, []), (0, [(4, 1)])])), (1172, ([4], [(0, []), (200, [])])), (1173, ([0], [(0, []), (50, [])]))])), ([([], [(0, ((0, [(6, 1)]), (0, [])))], ([], []), (7, [(6, ((-1), (-1)))], [((-1), [(0, 1), (6, (-1))]), ((-1), [(1, 1), (6, (-1))]), ((-2), [(4, 1), (6, (-1))])], 5, [], [], [], [(11, ([1, 2], [(0, []), (0, [(4, 1)]), (0, [(2, 1)])])), (12, ([1, 2], [(0, []), (0, [(4, 1)]), (0, [(2, 1)])])), (17, ([1, 3], [(0, []), (0, [(4, 1)])])), (18, ([1, 3], [(0, []), (0, [(4, 1)])])), (21, ([1, 2], [(0, []), (0, [(4, 1)])])), (1172, ([4], [(0, []), (200, [])])), (1173, ([0], [(0, []), (50, [])]))])),
   ([], [(0, ((0, [(6, 1)]), (0, [])))], ([], []), (7, [(6, (0, 4096))], [(0, [(0, (-1)), (6, 1)]), (0, [(1, (-1)), (6, 1)]), (0, [(4, 1), (6, (-1))])], 5, [], [], [], [(11, ([1, 2], [(0, []), (0, [(4, 1)]), (0, [(2, 1)])])), (12, ([1, 2], [(0, []), (0, [(4, 1)]), (0, [(2, 1)])])), (17, ([1, 3], [(0, []), (0, [(4, 1)])])), (18, ([1, 3], [(0, []), (0, [(4, 1)])])), (21, ([1, 2], [(0, []), (0, [(4, 1)])])), (1172, ([4], [(0, []), (200, [])])), (1173, ([0], [(0, []), (50, [])])), (1010, ([1, 3], [(0, [(0, 1)]), (0, [(6, 1)])]))]))], [])))
set_option maxRecDepth 100000 in
def cq301 : qCt := (3, (([(0, (2, ((26909, []), (0, [])))), (1, (0, ((0, [(0, 1)]), (0, [])))), (2, (0, ((0, [(1, 1)]), (0, []))))], [], ([(223, (0, [(2, 1)])), (192, (0, [(3, 1)])), (231, (0, [(4, 1)])), (191, (0, [(5, 1)]))], [(291, 0), (347, 1), (349, 2), (350, 3), (290, 4)]), (6, [(0, (0, 4097)), (1, (0, 1)), (3, (48, 48)), (4, (1, 1024)), (5, (137, 137)), (2, (0, 7))], [(0, [(0, 1), (1, (-1))])], 5, [(0, 291), (1, 347), (2, 349), (3, 350), (4, 290)], [], [], [(11, ([1, 2], [(0, []), (0, [(4, 1)]), (0, [(2, 1)])])), (12, ([1, 2], [(0, []), (0, [(4, 1)]), (0, [(2, 1)])])), (17, ([1, 3], [(0, []), (0, [(4, 1)])])), (18, ([1, 3], [(0, []), (0, [(4, 1)])])), (21, ([1, 2], [(0, []), (0, [(4, 1)])])), (1172, ([4], [(0, []), (200, [])])), (1173, ([0], [(0, []), (50, [])]))])), ([([], [(0, ((0, [(6, 1)]), (0, [])))], ([], []), (7, [(6, ((-1), (-1)))], [((-1), [(0, 1), (6, (-1))]), ((-1), [(1, 1), (6, (-1))]), ((-2), [(4, 1), (6, (-1))])], 5, [], [], [], [(11, ([1, 2], [(0, []), (0, [(4, 1)]), (0, [(2, 1)])])), (12, ([1, 2], [(0, []), (0, [(4, 1)]), (0, [(2, 1)])])), (17, ([1, 3], [(0, []), (0, [(4, 1)])])), (18, ([1, 3], [(0, []), (0, [(4, 1)])])), (21, ([1, 2], [(0, []), (0, [(4, 1)])])), (1172, ([4], [(0, []), (200, [])])), (1173, ([0], [(0, []), (50, [])])), (1023, ([1, 3], [(0, [(0, 1)]), (0, [(1, 1)]), (0, [(4, 1)]), (0, [(6, 1)])]))])),
   ([], [(0, ((0, [(6, 1)]), (0, [])))], ([], []), (7, [(6, (0, 4096))], [(0, [(0, (-1)), (6, 1)]), (0, [(1, (-1)), (6, 1)]), (0, [(4, 1), (6, (-1))])], 5, [], [], [], [(11, ([1, 2], [(0, []), (0, [(4, 1)]), (0, [(2, 1)])])), (12, ([1, 2], [(0, []), (0, [(4, 1)]), (0, [(2, 1)])])), (17, ([1, 3], [(0, []), (0, [(4, 1)])])), (18, ([1, 3], [(0, []), (0, [(4, 1)])])), (21, ([1, 2], [(0, []), (0, [(4, 1)])])), (1172, ([4], [(0, []), (200, [])])), (1173, ([0], [(0, []), (50, [])])), (1023, ([1, 3], [(0, [(0, 1)]), (0, [(1, 1)]), (0, [(4, 1)]), (0, [(6, 1)])])), (1010, ([1, 3], [(0, [(0, 1)]), (0, [(6, 1)])]))]))], [])))
def t301 : List qCt := [cq296, cq300, cq297, cq289]
theorem hdV_X13_isValue : yX13_isValue.cls = RX13 ∧ yX13_isValue.cls ≠ "java/lang/invoke/MethodHandle" ∧ yX13_isValue.cls ≠ "java/lang/invoke/VarHandle" ∧ (parseMethodDescriptor yX13_isValue.desc).map (fun d => d.parameters.length) = some 1 := by decide +kernel
theorem st292 (l : Launch) {G : rGm} {cc : ByteArray} {nL n fr lo : Nat} {ret : Option FieldType} {Qf : kQf} (hf : 2 ≤ fr) (hlo : 45 ≤ lo) : ySite gAll LAll vwCl rFo rZs rRs rNs rTs G l cc nL RX13 ret fr lo n Qf 182 801 cq300 := ys_V 1 13454 15 rc300 lo_13454 kc15 (m300 l) kGood kw2677 kw2678 kw2679 kw315 kw2578 hdV_X13_isValue hf hlo
theorem hdV_X13_isFront : yX13_isFront.cls = RX13 ∧ yX13_isFront.cls ≠ "java/lang/invoke/MethodHandle" ∧ yX13_isFront.cls ≠ "java/lang/invoke/VarHandle" ∧ (parseMethodDescriptor yX13_isFront.desc).map (fun d => d.parameters.length) = some 1 := by decide +kernel
theorem st293 (l : Launch) {G : rGm} {cc : ByteArray} {nL n fr lo : Nat} {ret : Option FieldType} {Qf : kQf} (hf : 2 ≤ fr) (hlo : 43 ≤ lo) : ySite gAll LAll vwCl rFo rZs rRs rNs rTs G l cc nL RX13 ret fr lo n Qf 182 804 cq297 := ys_V 1 13454 15 rc297 lo_13454 kc15 (m297 l) kGood kw2680 kw2681 kw2682 kw315 kw2559 hdV_X13_isFront hf hlo
def mt301 : yMt := ([(182, (797, 0)), (182, (801, 1)), (182, (804, 2)), (184, (807, 3))], ([], ([], [])))
theorem rc301 : yRc cq301 13454 2 = true := by decide +kernel
set_option maxRecDepth 100000 in
def u301 : qCu := [(1, (([(0, (2, ((26909, []), (0, [])))), (2, (0, ((0, [(1, 1)]), (0, [])))), (3, (0, ((0, [(6, 1)]), (0, [])))), (4, (0, ((0, [(7, 1)]), (0, [])))), (5, (0, ((0, [(8, 1)]), (0, []))))], [], ([(223, (0, [(2, 1)])), (192, (0, [(3, 1)])), (231, (0, [(4, 1)])), (191, (0, [(5, 1)]))], [(291, 0), (347, 1), (349, 2), (350, 3), (290, 4)]), (9, [(0, (0, 2147483647)), (1, (0, 1)), (3, (48, 48)), (4, (1, 1024)), (5, (137, 137)), (2, (0, 7)), (6, (0, 4097)), (7, (0, 1025)), (8, (0, 1))], [(0, [(1, (-1)), (6, 1)]), (0, [(6, 1), (7, (-1))]), (4096, [(6, (-1)), (8, 1)]), (0, [(0, (-1)), (6, 1)]), (0, [(4, 1), (7, (-1))])], 5, [], [], [], [(11, ([1, 2], [(0, []), (0, [(4, 1)]), (0, [(2, 1)])])), (12, ([1, 2], [(0, []), (0, [(4, 1)]), (0, [(2, 1)])])), (17, ([1, 3], [(0, []), (0, [(4, 1)])])), (18, ([1, 3], [(0, []), (0, [(4, 1)])])), (21, ([1, 2], [(0, []), (0, [(4, 1)])])), (1172, ([4], [(0, []), (200, [])])), (1173, ([0], [(0, []), (50, [])])), (0, ([], [(0, []), (1, []), (0, [(4, 1), (6, (-1))]), ((-1), [(8, 1)])])), (1009, ([1, 3], [(0, [(0, 1)]), (0, [(6, 1)]), (0, [(7, 1)]), (0, [(8, 1)])]))])), ((1, []), ((262145, [(4, 64), (6, (-64))]), (0, []))))),
  (24, (([], [], ([(223, (0, [(2, 1)])), (192, (0, [(3, 1)])), (231, (0, [(4, 1)])), (191, (0, [(5, 1)]))], [(291, 0), (347, 1), (349, 2), (350, 3), (290, 4)]), (6, [(0, (0, 2147483647)), (1, (0, 1)), (3, (48, 48)), (4, (1, 1025)), (5, (137, 137)), (2, (0, 7))], [], 5, [], [], [], [(11, ([1, 2], [(0, []), (0, [(4, 1)]), (0, [(2, 1)])])), (12, ([1, 2], [(0, []), (0, [(4, 1)]), (0, [(2, 1)])])), (17, ([1, 3], [(0, []), (0, [(4, 1)])])), (18, ([1, 3], [(0, []), (0, [(4, 1)])])), (21, ([1, 2], [(0, []), (0, [(4, 1)])])), (1172, ([4], [(0, []), (200, [])])), (1173, ([0], [(0, []), (50, [])]))])), ((0, []), ((0, []), (0, []))))),
  (21, (([(0, (2, ((26909, []), (0, [])))), (2, (0, ((0, [(1, 1)]), (0, [])))), (3, (0, ((0, [(6, 1)]), (0, [])))), (4, (0, ((0, [(7, 1)]), (0, [])))), (5, (0, ((0, [(8, 1)]), (0, []))))], [], ([(223, (0, [(2, 1)])), (192, (0, [(3, 1)])), (231, (0, [(4, 1)])), (191, (0, [(5, 1)]))], [(291, 0), (347, 1), (349, 2), (350, 3), (290, 4)]), (9, [(0, (0, 2147483647)), (1, (0, 1)), (3, (48, 48)), (4, (1, 1024)), (5, (137, 137)), (2, (0, 7)), (6, (0, 1024)), (7, (0, 1025)), (8, (0, 1))], [(1, [(6, 1), (7, (-1))]), (0, [(0, (-1)), (6, 1)]), ((-1), [(4, 1), (6, (-1))]), (0, [(4, 1), (7, (-1))])], 5, [], [], [], [(11, ([1, 2], [(0, []), (0, [(4, 1)]), (0, [(2, 1)])])), (12, ([1, 2], [(0, []), (0, [(4, 1)]), (0, [(2, 1)])])), (17, ([1, 3], [(0, []), (0, [(4, 1)])])), (18, ([1, 3], [(0, []), (0, [(4, 1)])])), (21, ([1, 2], [(0, []), (0, [(4, 1)])])), (1172, ([4], [(0, []), (200, [])])), (1173, ([0], [(0, []), (50, [])])), (1009, ([1, 3], [(0, [(0, 1)]), (1, [(6, 1)]), (0, [(7, 1)]), (0, [(8, 1)])]))])), ((1, []), ((262144, [(4, 64), (6, (-64))]), (0, [])))))]
set_option maxRecDepth 100000 in
theorem z301 : zchk gAll t301 ruI2 ruJ2 rqL b301 u301 d301 300 [] = true := sorry
def fp_Model_pass : List Nat := [191, 192, 202, 231, 288, 289, 290, 291, 347, 350]
theorem ag_Model_pass {s s' : qSg} (hB : ∀ b ∈ fp_Model_pass, AgB gDet s s' b) (as : List qV) : dm_Model_pass as s = dm_Model_pass as s' := by
  unfold dm_Model_pass
  have e : dk_Model_pass s = dk_Model_pass s' := by
    funext i
    match i with
    | 0 => exact congrArg (fun f => some (3, f)) (funext fun as => ag_Model_isSign (fun b hb => hB b ((show ∀ b ∈ fp_Model_isSign, b ∈ fp_Model_pass by decide +kernel) b hb)) as)
    | 1 => exact congrArg (fun f => some (2, f)) (funext fun as => ag_Model_isValue (fun b hb => hB b ((show ∀ b ∈ fp_Model_isValue, b ∈ fp_Model_pass by decide +kernel) b hb)) as)
    | 2 => exact congrArg (fun f => some (2, f)) (funext fun as => ag_Model_isFront (fun b hb => hB b ((show ∀ b ∈ fp_Model_isFront, b ∈ fp_Model_pass by decide +kernel) b hb)) as)
    | 3 => exact congrArg (fun f => some (1, f)) (funext fun as => ag_Model_strength (fun b hb => hB b ((show ∀ b ∈ fp_Model_strength, b ∈ fp_Model_pass by decide +kernel) b hb)) as)
    | i + 4 => rfl
  rw [e]
  exact zRun_ag gd_ok.P hB (show dc_Model_pass.all (fun x => x.1.all (okF gDet fp_Model_pass)) = true by decide +kernel) as
set_option maxHeartbeats 4000000 in
theorem he_Model_pass (s : qSg) : ∀ as r a v, CtBeg gAll d301 as s r a → Typed gAll s → dm_Model_pass (as.map cnV) s = some v → dEv 1023 (([1, 3] : List Nat).map a) (([(0, [(0, 1)]), (0, [(1, 1)]), (0, [(4, 1)])] : List qL).map (qe r)) = some v.2 := by
  intro as r a v hB hT e
  obtain ⟨hlen, ls, hsub, hsat⟩ := hB
  obtain ⟨hls, -, hsc, hav, -⟩ := hsat.now
  have hlen : as.length = 3 := hlen
  match as, hlen with
  | [w0, w1, w2], _ =>
    have x0 := hsub (0, ((2 : Nat), qe r ((26909, []) : qL))) (by rw [hls]; exact List.mem_cons_self)
    cases lsArgs_hd (x0)
    have x1 := hsub (1, ((0 : Nat), qe r ((0, [(0, 1)]) : qL))) (by rw [hls]; exact List.mem_cons_of_mem _ (List.mem_cons_self))
    cases lsArgs_hd (lsArgs_tl (by decide) (by decide) (x1))
    have x2 := hsub (2, ((0 : Nat), qe r ((0, [(1, 1)]) : qL))) (by rw [hls]; exact List.mem_cons_of_mem _ (List.mem_cons_of_mem _ (List.mem_cons_self)))
    cases lsArgs_hd (lsArgs_tl (by decide) (by decide) (lsArgs_tl (by decide) (by decide) (x2)))
    have e1 : dm_Model_pass [((2 : Nat), qe r ((26909, []) : qL)), ((0 : Nat), qe r ((0, [(0, 1)]) : qL)), ((0 : Nat), qe r ((0, [(1, 1)]) : qL))] s = some v := by
      unfold dm_Model_pass at e ⊢
      rw [zRun_cn (map_cn _)] at e
      exact e
    have e2 := ag_Model_pass (s := s) (s' := dSto [(347, dF (([1, 3] : List Nat).map a) 0), (350, dF (([1, 3] : List Nat).map a) 1)] [(231, dZ (([(0, [(0, 1)]), (0, [(1, 1)]), (0, [(4, 1)])] : List qL).map (qe r)) 2)]) (fun b hb => by
      rcases List.mem_cons.mp hb with rfl | hb
      · exact yCon gd_ok hT (by decide +kernel) rfl rfl
      rcases List.mem_cons.mp hb with rfl | hb
      · exact yCon gd_ok hT (by decide +kernel) rfl rfl
      rcases List.mem_cons.mp hb with rfl | hb
      · exact yCon gd_ok hT (by decide +kernel) rfl rfl
      rcases List.mem_cons.mp hb with rfl | hb
      · exact yFld (by decide +kernel) rfl rfl (hsc (231, (0, [(4, 1)])) (List.mem_cons_of_mem _ (List.mem_cons_of_mem _ (List.mem_cons_self))))
      rcases List.mem_cons.mp hb with rfl | hb
      · exact yCon gd_ok hT (by decide +kernel) rfl rfl
      rcases List.mem_cons.mp hb with rfl | hb
      · exact yCon gd_ok hT (by decide +kernel) rfl rfl
      rcases List.mem_cons.mp hb with rfl | hb
      · exact yCon gd_ok hT (by decide +kernel) rfl rfl
      rcases List.mem_cons.mp hb with rfl | hb
      · exact yCon gd_ok hT (by decide +kernel) rfl rfl
      rcases List.mem_cons.mp hb with rfl | hb
      · exact yArr rfl (hav (347, 1) (List.mem_cons_of_mem _ (List.mem_cons_self)))
      rcases List.mem_cons.mp hb with rfl | hb
      · exact yArr rfl (hav (350, 3) (List.mem_cons_of_mem _ (List.mem_cons_of_mem _ (List.mem_cons_of_mem _ (List.mem_cons_self)))))
      cases hb) [((2 : Nat), qe r ((26909, []) : qL)), ((0 : Nat), qe r ((0, [(0, 1)]) : qL)), ((0 : Nat), qe r ((0, [(1, 1)]) : qL))]
    rw [e2] at e1
    exact congrArg (fun o => o.map (fun v => v.2)) e1
theorem hd_Model_pass : ∀ s, Typed gAll s → HC gAll t301 (dk_Model_pass s) s := by
  intro s hT j C hC
  match j, hC with
  | 0, hC =>
    cases (show some cq296 = some C from hC)
    exact ⟨_, rfl, rfl, dC_Model_isSign s hT⟩
  | 1, hC =>
    cases (show some cq300 = some C from hC)
    exact ⟨_, rfl, rfl, dC_Model_isValue s hT⟩
  | 2, hC =>
    cases (show some cq297 = some C from hC)
    exact ⟨_, rfl, rfl, dC_Model_isFront s hT⟩
  | 3, hC =>
    cases (show some cq289 = some C from hC)
    exact ⟨_, rfl, rfl, dC_Model_strength s hT⟩
  | j + 4, hC => cases (show none = some C from hC)
set_option maxHeartbeats 4000000 in
theorem dC_Model_pass (s : qSg) (hT : Typed gAll s) : DetC gAll cq301 s (fun as => dm_Model_pass as s) := detC_of (p := 1023) (t := 0) (vs := [1, 3]) (zi := [(0, [(0, 1)]), (0, [(1, 1)]), (0, [(4, 1)])]) (Cd := d301) rfl rfl rfl (⟨⟨_, rfl, ⟨_, rfl, (fun z hz => by
    rcases List.mem_cons.mp hz with rfl | hz
    · exact Or.inl (List.mem_cons_self)
    rcases List.mem_cons.mp hz with rfl | hz
    · exact Or.inl (List.mem_cons_of_mem _ (List.mem_cons_self))
    rcases List.mem_cons.mp hz with rfl | hz
    · exact Or.inl (List.mem_cons_of_mem _ (List.mem_cons_of_mem _ (List.mem_cons_self)))
    rcases List.mem_cons.mp hz with rfl | hz
    · exact Or.inl (List.mem_cons_of_mem _ (List.mem_cons_of_mem _ (List.mem_cons_of_mem _ (List.mem_cons_self))))
    rcases List.mem_cons.mp hz with rfl | hz
    · exact Or.inl (List.mem_cons_of_mem _ (List.mem_cons_of_mem _ (List.mem_cons_of_mem _ (List.mem_cons_of_mem _ (List.mem_cons_self)))))
    rcases List.mem_cons.mp hz with rfl | hz
    · exact Or.inl (List.mem_cons_of_mem _ (List.mem_cons_of_mem _ (List.mem_cons_of_mem _ (List.mem_cons_of_mem _ (List.mem_cons_of_mem _ (List.mem_cons_self))))))
    rcases List.mem_cons.mp hz with rfl | hz
    · exact Or.inl (List.mem_cons_of_mem _ (List.mem_cons_of_mem _ (List.mem_cons_of_mem _ (List.mem_cons_of_mem _ (List.mem_cons_of_mem _ (List.mem_cons_of_mem _ (List.mem_cons_self)))))))
    rcases List.mem_cons.mp hz with rfl | hz
    · exact Or.inr rfl
    cases hz), List.mem_cons_of_mem _ (List.mem_cons_of_mem _ (List.mem_cons_of_mem _ (List.mem_cons_of_mem _ (List.mem_cons_of_mem _ (List.mem_cons_of_mem _ (List.mem_cons_of_mem _ (List.mem_cons_self)))))))⟩, Nat.le_of_ble_eq_true rfl, Nat.le_of_ble_eq_true rfl⟩, ⟨⟨_, rfl, ⟨_, rfl, (fun z hz => by
    rcases List.mem_cons.mp hz with rfl | hz
    · exact Or.inl (List.mem_cons_self)
    rcases List.mem_cons.mp hz with rfl | hz
    · exact Or.inl (List.mem_cons_of_mem _ (List.mem_cons_self))
    rcases List.mem_cons.mp hz with rfl | hz
    · exact Or.inl (List.mem_cons_of_mem _ (List.mem_cons_of_mem _ (List.mem_cons_self)))
    rcases List.mem_cons.mp hz with rfl | hz
    · exact Or.inl (List.mem_cons_of_mem _ (List.mem_cons_of_mem _ (List.mem_cons_of_mem _ (List.mem_cons_self))))
    rcases List.mem_cons.mp hz with rfl | hz
    · exact Or.inl (List.mem_cons_of_mem _ (List.mem_cons_of_mem _ (List.mem_cons_of_mem _ (List.mem_cons_of_mem _ (List.mem_cons_self)))))
    rcases List.mem_cons.mp hz with rfl | hz
    · exact Or.inl (List.mem_cons_of_mem _ (List.mem_cons_of_mem _ (List.mem_cons_of_mem _ (List.mem_cons_of_mem _ (List.mem_cons_of_mem _ (List.mem_cons_self))))))
    rcases List.mem_cons.mp hz with rfl | hz
    · exact Or.inl (List.mem_cons_of_mem _ (List.mem_cons_of_mem _ (List.mem_cons_of_mem _ (List.mem_cons_of_mem _ (List.mem_cons_of_mem _ (List.mem_cons_of_mem _ (List.mem_cons_self)))))))
    rcases List.mem_cons.mp hz with rfl | hz
    · exact Or.inr rfl
    rcases List.mem_cons.mp hz with rfl | hz
    · exact Or.inl (List.mem_cons_of_mem _ (List.mem_cons_of_mem _ (List.mem_cons_of_mem _ (List.mem_cons_of_mem _ (List.mem_cons_of_mem _ (List.mem_cons_of_mem _ (List.mem_cons_of_mem _ (List.mem_cons_self))))))))
    cases hz), List.mem_cons_of_mem _ (List.mem_cons_of_mem _ (List.mem_cons_of_mem _ (List.mem_cons_of_mem _ (List.mem_cons_of_mem _ (List.mem_cons_of_mem _ (List.mem_cons_of_mem _ (List.mem_cons_self)))))))⟩, Nat.le_of_ble_eq_true rfl, Nat.le_of_ble_eq_true rfl⟩, trivial⟩⟩) (by decide) (by decide +kernel) (by decide +kernel)
  (fun fs zs z h1 h2 => by
    rw [PQ_c (show fTab[1023]? = none by decide +kernel)]
    match fs, zs, h1, h2 with
    | [f0, f1], [z0, z1, z2], _, _ => exact Iff.rfl) (yDet_b gAll_tag z301 gd_ok (by decide +kernel) (eqCd_ok (by decide +kernel)) hd_Model_pass s) (he_Model_pass s)
theorem yr301 : yRun gAll t301 b301 cq301 := yRun_d (dc := dc_Model_pass) (cl := dk_Model_pass) gAll_tag z301 gd_ok (by decide +kernel) (eqCd_ok (by decide +kernel)) hd_Model_pass rfl rfl (fun s hT => dC_Model_pass s hT)
theorem zw301 : zwid cq301.2.1.1 cq301.1 0 7 = true := by decide +kernel
set_option maxRecDepth 100000 in
theorem yw301 : yRows gAll LAll yt12 mt301 gHo 7 1 (zby cX13_pass) p301 b301 p301 = true := by decide +kernel
set_option maxRecDepth 100000 in
theorem m301 (l : Launch) : kMet gAll LAll vwCl rFo rZs rRs rNs rTs l yX13_pass cX13_pass 7 (some .int) 2 45 cq301 := kmet_y2 (rt := 1) (by decide +kernel) yr301 zw301 rfl yw301 LAll_ok LAll_la yt12_ok gHo_ok rfl (fun G n Qf => List.forall_mem_cons.mpr ⟨⟨cq296, rfl, st289 l (by decide) (by decide)⟩, List.forall_mem_cons.mpr ⟨⟨cq300, rfl, st292 l (by decide) (by decide)⟩, List.forall_mem_cons.mpr ⟨⟨cq297, rfl, st293 l (by decide) (by decide)⟩, List.forall_mem_cons.mpr ⟨⟨cq289, rfl, st286 l (by decide) (by decide)⟩, yA_n⟩⟩⟩⟩) rfl (fun G n Rr => yA_n) rfl
