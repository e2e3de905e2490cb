/-! 300 Model.isValue (I)Z -/
set_option maxRecDepth 100000 in
def b300 : qCd := [([(3, 1, 0, 0), (3, 0, 2, 0), (24, 26909, 231, 0)], (1, 2, 2, 1, [])),
  ([(0, 0, 0, 0), (34, 223, 0, 0), (34, 192, 0, 0), (34, 202, 0, 0), (34, 231, 0, 0), (34, 191, 0, 0), (35, 291, 0, 0), (35, 347, 0, 0), (35, 349, 0, 0), (35, 350, 0, 0), (35, 290, 0, 0), (38, 0, 0, 0)], (5, 0, 0, 0, [(0, 0), (1, 0)])),
  ([(3, 0, 2, 0), (25, 26909, 27115, 0), (3, 1, 0, 0), (38, 0, 0, 0), (28, 347, 0, 0), (0, 2, 0, 0)], (1, 0, 4, 3, [])),
  ([(3, 0, 2, 0), (3, 1, 0, 0), (0, 36, 0, 0), (34, 223, 0, 0), (34, 231, 0, 0), (35, 347, 0, 0), (35, 349, 0, 0), (35, 350, 0, 0), (38, 0, 0, 0), (33, 0, 0, 0)], (2, 0, 5, 4, [])),
  ([(0, 1, 0, 0), (34, 223, 0, 0), (34, 192, 0, 0), (34, 202, 0, 0), (34, 231, 0, 0), (34, 191, 0, 0), (35, 291, 0, 0), (35, 347, 0, 0), (35, 349, 0, 0), (35, 350, 0, 0), (35, 290, 0, 0), (38, 0, 0, 0)], (5, 0, 0, 0, [(0, 0), (1, 0)])),
  ([(3, 0, 2, 0), (3, 0, 2, 0), (25, 26909, 27121, 0), (3, 1, 0, 0), (38, 0, 0, 0), (28, 350, 0, 0), (34, 191, 0, 0), (35, 290, 0, 0), (38, 0, 0, 0), (33, 1, 0, 0), (0, 120, 0, 0)], (1, 0, 7, 6, [])),
  ([(3, 0, 2, 0), (25, 26909, 27121, 0), (3, 1, 0, 0), (38, 0, 0, 0), (28, 350, 0, 0), (3, 0, 2, 0), (24, 26909, 202, 0), (23, 0, 0, 0)], (2, 1, 8, 7, [])),
  ([(0, 1, 0, 0)], (0, 0, 9, 0, [])),
  ([(0, 0, 0, 0)], (0, 0, 9, 0, [])),
  ([(4, 2, 0, 0), (3, 0, 2, 0), (25, 26909, 27115, 0), (3, 1, 0, 0), (38, 0, 0, 0), (28, 347, 0, 0), (0, 1, 0, 0)], (1, 1, 13, 10, [])),
  ([(3, 0, 2, 0), (3, 0, 2, 0), (25, 26909, 27121, 0), (3, 1, 0, 0), (38, 0, 0, 0), (28, 350, 0, 0), (34, 192, 0, 0), (35, 291, 0, 0), (38, 0, 0, 0), (33, 2, 0, 0), (0, (-1), 0, 0)], (1, 1, 13, 11, [])),
  ([(3, 2, 0, 0)], (2, 1, 13, 12, [])),
  ([(0, 1, 0, 0)], (0, 0, 14, 0, [])),
  ([(0, 0, 0, 0)], (0, 0, 14, 0, [])),
  ([(34, 223, 0, 0), (34, 192, 0, 0), (34, 202, 0, 0), (34, 231, 0, 0), (34, 191, 0, 0), (35, 291, 0, 0), (35, 347, 0, 0), (35, 349, 0, 0), (35, 350, 0, 0), (35, 290, 0, 0), (38, 0, 0, 0)], (5, 0, 0, 0, [(0, 0), (1, 0)]))]
def p300 : List Nat := [0, 8, 10, 20, 30, 32, 47, 61, 65, 66, 77, 91, 95, 99, 100]
set_option maxRecDepth 100000 in
def d300 : qCt := (2, (([(0, (2, ((26909, []), (0, [])))), (1, (0, ((0, [(0, 1)]), (0, []))))], [], ([(223, (0, [(1, 1)])), (192, (0, [(2, 1)])), (202, (0, [(3, 1)])), (231, (0, [(4, 1)])), (191, (0, [(5, 1)]))], [(291, 0), (347, 1), (349, 2), (350, 3), (290, 4)]), (6, [(0, (0, 1024)), (2, (48, 48)), (3, (7497072, 7497072)), (4, (1, 1025)), (5, (137, 137)), (1, (0, 7))], [((-1), [(0, (-1)), (4, 1)])], 5, [(0, 291), (1, 347), (2, 349), (3, 350), (4, 290)], [], [], [(11, ([1, 2], [(0, []), (0, [(4, 1)]), (0, [(1, 1)])])), (12, ([1, 2], [(0, []), (0, [(4, 1)]), (0, [(1, 1)])])), (17, ([1, 3], [(0, []), (0, [(4, 1)])])), (18, ([1, 3], [(0, []), (0, [(4, 1)])])), (21, ([1, 2], [(0, []), (0, [(4, 1)])])), (1172, ([4], [(0, []), (200, [])])), (1173, ([0], [(0, []), (50, [])]))])), ([([], [(0, ((0, [(6, 1)]), (0, [])))], ([], []), (7, [(6, (1, 1))], [], 5, [], [], [], [(11, ([1, 2], [(0, []), (0, [(4, 1)]), (0, [(1, 1)])])), (12, ([1, 2], [(0, []), (0, [(4, 1)]), (0, [(1, 1)])])), (17, ([1, 3], [(0, []), (0, [(4, 1)])])), (18, ([1, 3], [(0, []), (0, [(4, 1)])])), (21, ([1, 2], [(0, []), (0, [(4, 1)])])), (1172, ([4], [(0, []), (200, [])])), (1173, ([0], [(0, []), (50, [])])), (1007, ([1, 3], [(0, [(0, 1)])]))])),
   ([], [(0, ((0, [(6, 1)]), (0, [])))], ([], []), (7, [(6, (0, 0))], [], 5, [], [], [], [(11, ([1, 2], [(0, []), (0, [(4, 1)]), (0, [(1, 1)])])), (12, ([1, 2], [(0, []), (0, [(4, 1)]), (0, [(1, 1)])])), (17, ([1, 3], [(0, []), (0, [(4, 1)])])), (18, ([1, 3], [(0, []), (0, [(4, 1)])])), (21, ([1, 2], [(0, []), (0, [(4, 1)])])), (1172, ([4], [(0, []), (200, [])])), (1173, ([0], [(0, []), (50, [])]))]))], [])))
set_option maxRecDepth 100000 in
def cq300 : qCt := (2, (([(0, (2, ((26909, []), (0, [])))), (1, (0, ((0, [(0, 1)]), (0, []))))], [], ([(223, (0, [(1, 1)])), (192, (0, [(2, 1)])), (202, (0, [(3, 1)])), (231, (0, [(4, 1)])), (191, (0, [(5, 1)]))], [(291, 0), (347, 1), (349, 2), (350, 3), (290, 4)]), (6, [(0, (0, 1024)), (2, (48, 48)), (3, (7497072, 7497072)), (4, (1, 1025)), (5, (137, 137)), (1, (0, 7))], [((-1), [(0, (-1)), (4, 1)])], 5, [(0, 291), (1, 347), (2, 349), (3, 350), (4, 290)], [], [], [(11, ([1, 2], [(0, []), (0, [(4, 1)]), (0, [(1, 1)])])), (12, ([1, 2], [(0, []), (0, [(4, 1)]), (0, [(1, 1)])])), (17, ([1, 3], [(0, []), (0, [(4, 1)])])), (18, ([1, 3], [(0, []), (0, [(4, 1)])])), (21, ([1, 2], [(0, []), (0, [(4, 1)])])), (1172, ([4], [(0, []), (200, [])])), (1173, ([0], [(0, []), (50, [])]))])), ([([], [(0, ((0, [(6, 1)]), (0, [])))], ([], []), (7, [(6, (1, 1))], [], 5, [], [], [], [(11, ([1, 2], [(0, []), (0, [(4, 1)]), (0, [(1, 1)])])), (12, ([1, 2], [(0, []), (0, [(4, 1)]), (0, [(1, 1)])])), (17, ([1, 3], [(0, []), (0, [(4, 1)])])), (18, ([1, 3], [(0, []), (0, [(4, 1)])])), (21, ([1, 2], [(0, []), (0, [(4, 1)])])), (1172, ([4], [(0, []), (200, [])])), (1173, ([0], [(0, []), (50, [])])), (1028, ([1, 3], [(0, [(0, 1)]), (0, [(4, 1)]), (0, [(6, 1)])])), (1007, ([1, 3], [(0, [(0, 1)])]))])),
   ([], [(0, ((0, [(6, 1)]), (0, [])))], ([], []), (7, [(6, (0, 0))], [], 5, [], [], [], [(11, ([1, 2], [(0, []), (0, [(4, 1)]), (0, [(1, 1)])])), (12, ([1, 2], [(0, []), (0, [(4, 1)]), (0, [(1, 1)])])), (17, ([1, 3], [(0, []), (0, [(4, 1)])])), (18, ([1, 3], [(0, []), (0, [(4, 1)])])), (21, ([1, 2], [(0, []), (0, [(4, 1)])])), (1172, ([4], [(0, []), (200, [])])), (1173, ([0], [(0, []), (50, [])])), (1028, ([1, 3], [(0, [(0, 1)]), (0, [(4, 1)]), (0, [(6, 1)])]))]))], [])))
def t300 : List qCt := [cq296, cq299, cq298]
theorem hdV_X13_wordOf : yX13_wordOf.cls = RX13 ∧ yX13_wordOf.cls ≠ "java/lang/invoke/MethodHandle" ∧ yX13_wordOf.cls ≠ "java/lang/invoke/VarHandle" ∧ (parseMethodDescriptor yX13_wordOf.desc).map (fun d => d.parameters.length) = some 1 := by decide +kernel
theorem st290 (l : Launch) {G : rGm} {cc : ByteArray} {nL n fr lo : Nat} {ret : Option FieldType} {Qf : kQf} (hf : 1 ≤ fr) (hlo : 23 ≤ lo) : ySite gAll LAll vwCl rFo rZs rRs rNs rTs G l cc nL RX13 ret fr lo n Qf 182 645 cq299 := ys_V 1 13454 15 rc299 lo_13454 kc15 (m299 l) kGood kw2486 kw2487 kw2488 kw315 kw2871 hdV_X13_wordOf hf hlo
theorem hdV_X13_registerOf : yX13_registerOf.cls = RX13 ∧ yX13_registerOf.cls ≠ "java/lang/invoke/MethodHandle" ∧ yX13_registerOf.cls ≠ "java/lang/invoke/VarHandle" ∧ (parseMethodDescriptor yX13_registerOf.desc).map (fun d => d.parameters.length) = some 1 := by decide +kernel
theorem st291 (l : Launch) {G : rGm} {cc : ByteArray} {nL n fr lo : Nat} {ret : Option FieldType} {Qf : kQf} (hf : 1 ≤ fr) (hlo : 23 ≤ lo) : ySite gAll LAll vwCl rFo rZs rRs rNs rTs G l cc nL RX13 ret fr lo n Qf 182 766 cq298 := ys_V 1 13454 15 rc298 lo_13454 kc15 (m298 l) kGood kw2496 kw2497 kw2498 kw315 kw2787 hdV_X13_registerOf hf hlo
def mt300 : yMt := ([(182, (797, 0)), (182, (645, 1)), (182, (766, 2))], ([], ([], [])))
theorem rc300 : yRc cq300 13454 1 = true := by decide +kernel
set_option maxRecDepth 100000 in
def u300 : qCu := []
set_option maxRecDepth 100000 in
theorem z300 : zchk gAll t300 ruI2 ruJ2 rqL b300 u300 d300 300 [] = true := sorry
def fp_Model_isValue : List Nat := [191, 192, 202, 231, 288, 289, 290, 291, 347, 350]
theorem ag_Model_isValue {s s' : qSg} (hB : ∀ b ∈ fp_Model_isValue, AgB gDet s s' b) (as : List qV) : dm_Model_isValue as s = dm_Model_isValue as s' := by
  unfold dm_Model_isValue
  have e : dk_Model_isValue s = dk_Model_isValue s' := by
    funext i
    match i with
    | 0 => exact congrArg (fun f => some (3, f)) (funext fun as => ag_Model_isSign (fun b hb => hB b ((show ∀ b ∈ fp_Model_isSign, b ∈ fp_Model_isValue by decide +kernel) b hb)) as)
    | 1 => exact congrArg (fun f => some (2, f)) (funext fun as => ag_Model_wordOf (fun b hb => hB b ((show ∀ b ∈ fp_Model_wordOf, b ∈ fp_Model_isValue by decide +kernel) b hb)) as)
    | 2 => exact congrArg (fun f => some (2, f)) (funext fun as => ag_Model_registerOf (fun b hb => hB b ((show ∀ b ∈ fp_Model_registerOf, b ∈ fp_Model_isValue by decide +kernel) b hb)) as)
    | i + 3 => rfl
  rw [e]
  exact zRun_ag gd_ok.P hB (show dc_Model_isValue.all (fun x => x.1.all (okF gDet fp_Model_isValue)) = true by decide +kernel) as
set_option maxHeartbeats 4000000 in
theorem he_Model_isValue (s : qSg) : ∀ as r a v, CtBeg gAll d300 as s r a → Typed gAll s → dm_Model_isValue (as.map cnV) s = some v → dEv 1028 (([1, 3] : List Nat).map a) (([(0, [(0, 1)]), (0, [(4, 1)])] : List qL).map (qe r)) = some v.2 := by
  intro as r a v hB hT e
  obtain ⟨hlen, ls, hsub, hsat⟩ := hB
  obtain ⟨hls, -, hsc, hav, -⟩ := hsat.now
  have hlen : as.length = 2 := hlen
  match as, hlen with
  | [w0, w1], _ =>
    have x0 := hsub (0, ((2 : Nat), qe r ((26909, []) : qL))) (by rw [hls]; exact List.mem_cons_self)
    cases lsArgs_hd (x0)
    have x1 := hsub (1, ((0 : Nat), qe r ((0, [(0, 1)]) : qL))) (by rw [hls]; exact List.mem_cons_of_mem _ (List.mem_cons_self))
    cases lsArgs_hd (lsArgs_tl (by decide) (by decide) (x1))
    have e1 : dm_Model_isValue [((2 : Nat), qe r ((26909, []) : qL)), ((0 : Nat), qe r ((0, [(0, 1)]) : qL))] s = some v := by
      unfold dm_Model_isValue at e ⊢
      rw [zRun_cn (map_cn _)] at e
      exact e
    have e2 := ag_Model_isValue (s := s) (s' := dSto [(347, dF (([1, 3] : List Nat).map a) 0), (350, dF (([1, 3] : List Nat).map a) 1)] [(231, dZ (([(0, [(0, 1)]), (0, [(4, 1)])] : List qL).map (qe r)) 1)]) (fun b hb => by
      rcases List.mem_cons.mp hb with rfl | hb
      · exact yCon gd_ok hT (by decide +kernel) rfl rfl
      rcases List.mem_cons.mp hb with rfl | hb
      · exact yCon gd_ok hT (by decide +kernel) rfl rfl
      rcases List.mem_cons.mp hb with rfl | hb
      · exact yCon gd_ok hT (by decide +kernel) rfl rfl
      rcases List.mem_cons.mp hb with rfl | hb
      · exact yFld (by decide +kernel) rfl rfl (hsc (231, (0, [(4, 1)])) (List.mem_cons_of_mem _ (List.mem_cons_of_mem _ (List.mem_cons_of_mem _ (List.mem_cons_self)))))
      rcases List.mem_cons.mp hb with rfl | hb
      · exact yCon gd_ok hT (by decide +kernel) rfl rfl
      rcases List.mem_cons.mp hb with rfl | hb
      · exact yCon gd_ok hT (by decide +kernel) rfl rfl
      rcases List.mem_cons.mp hb with rfl | hb
      · exact yCon gd_ok hT (by decide +kernel) rfl rfl
      rcases List.mem_cons.mp hb with rfl | hb
      · exact yCon gd_ok hT (by decide +kernel) rfl rfl
      rcases List.mem_cons.mp hb with rfl | hb
      · exact yArr rfl (hav (347, 1) (List.mem_cons_of_mem _ (List.mem_cons_self)))
      rcases List.mem_cons.mp hb with rfl | hb
      · exact yArr rfl (hav (350, 3) (List.mem_cons_of_mem _ (List.mem_cons_of_mem _ (List.mem_cons_of_mem _ (List.mem_cons_self)))))
      cases hb) [((2 : Nat), qe r ((26909, []) : qL)), ((0 : Nat), qe r ((0, [(0, 1)]) : qL))]
    rw [e2] at e1
    exact congrArg (fun o => o.map (fun v => v.2)) e1
theorem hd_Model_isValue : ∀ s, Typed gAll s → HC gAll t300 (dk_Model_isValue s) s := by
  intro s hT j C hC
  match j, hC with
  | 0, hC =>
    cases (show some cq296 = some C from hC)
    exact ⟨_, rfl, rfl, dC_Model_isSign s hT⟩
  | 1, hC =>
    cases (show some cq299 = some C from hC)
    exact ⟨_, rfl, rfl, dC_Model_wordOf s hT⟩
  | 2, hC =>
    cases (show some cq298 = some C from hC)
    exact ⟨_, rfl, rfl, dC_Model_registerOf s hT⟩
  | j + 3, hC => cases (show none = some C from hC)
set_option maxHeartbeats 4000000 in
theorem dC_Model_isValue (s : qSg) (hT : Typed gAll s) : DetC gAll cq300 s (fun as => dm_Model_isValue as s) := detC_of (p := 1028) (t := 0) (vs := [1, 3]) (zi := [(0, [(0, 1)]), (0, [(4, 1)])]) (Cd := d300) rfl rfl rfl (⟨⟨_, rfl, ⟨_, rfl, (fun z hz => by
    rcases List.mem_cons.mp hz with rfl | hz
    · exact Or.inl (List.mem_cons_self)
    rcases List.mem_cons.mp hz with rfl | hz
    · exact Or.inl (List.mem_cons_of_mem _ (List.mem_cons_self))
    rcases List.mem_cons.mp hz with rfl | hz
    · exact Or.inl (List.mem_cons_of_mem _ (List.mem_cons_of_mem _ (List.mem_cons_self)))
    rcases List.mem_cons.mp hz with rfl | hz
    · exact Or.inl (List.mem_cons_of_mem _ (List.mem_cons_of_mem _ (List.mem_cons_of_mem _ (List.mem_cons_self))))
    rcases List.mem_cons.mp hz with rfl | hz
    · exact Or.inl (List.mem_cons_of_mem _ (List.mem_cons_of_mem _ (List.mem_cons_of_mem _ (List.mem_cons_of_mem _ (List.mem_cons_self)))))
    rcases List.mem_cons.mp hz with rfl | hz
    · exact Or.inl (List.mem_cons_of_mem _ (List.mem_cons_of_mem _ (List.mem_cons_of_mem _ (List.mem_cons_of_mem _ (List.mem_cons_of_mem _ (List.mem_cons_self))))))
    rcases List.mem_cons.mp hz with rfl | hz
    · exact Or.inl (List.mem_cons_of_mem _ (List.mem_cons_of_mem _ (List.mem_cons_of_mem _ (List.mem_cons_of_mem _ (List.mem_cons_of_mem _ (List.mem_cons_of_mem _ (List.mem_cons_self)))))))
    rcases List.mem_cons.mp hz with rfl | hz
    · exact Or.inr rfl
    rcases List.mem_cons.mp hz with rfl | hz
    · exact Or.inl (List.mem_cons_of_mem _ (List.mem_cons_of_mem _ (List.mem_cons_of_mem _ (List.mem_cons_of_mem _ (List.mem_cons_of_mem _ (List.mem_cons_of_mem _ (List.mem_cons_of_mem _ (List.mem_cons_self))))))))
    cases hz), List.mem_cons_of_mem _ (List.mem_cons_of_mem _ (List.mem_cons_of_mem _ (List.mem_cons_of_mem _ (List.mem_cons_of_mem _ (List.mem_cons_of_mem _ (List.mem_cons_of_mem _ (List.mem_cons_self)))))))⟩, Nat.le_of_ble_eq_true rfl, Nat.le_of_ble_eq_true rfl⟩, ⟨⟨_, rfl, ⟨_, rfl, (fun z hz => by
    rcases List.mem_cons.mp hz with rfl | hz
    · exact Or.inl (List.mem_cons_self)
    rcases List.mem_cons.mp hz with rfl | hz
    · exact Or.inl (List.mem_cons_of_mem _ (List.mem_cons_self))
    rcases List.mem_cons.mp hz with rfl | hz
    · exact Or.inl (List.mem_cons_of_mem _ (List.mem_cons_of_mem _ (List.mem_cons_self)))
    rcases List.mem_cons.mp hz with rfl | hz
    · exact Or.inl (List.mem_cons_of_mem _ (List.mem_cons_of_mem _ (List.mem_cons_of_mem _ (List.mem_cons_self))))
    rcases List.mem_cons.mp hz with rfl | hz
    · exact Or.inl (List.mem_cons_of_mem _ (List.mem_cons_of_mem _ (List.mem_cons_of_mem _ (List.mem_cons_of_mem _ (List.mem_cons_self)))))
    rcases List.mem_cons.mp hz with rfl | hz
    · exact Or.inl (List.mem_cons_of_mem _ (List.mem_cons_of_mem _ (List.mem_cons_of_mem _ (List.mem_cons_of_mem _ (List.mem_cons_of_mem _ (List.mem_cons_self))))))
    rcases List.mem_cons.mp hz with rfl | hz
    · exact Or.inl (List.mem_cons_of_mem _ (List.mem_cons_of_mem _ (List.mem_cons_of_mem _ (List.mem_cons_of_mem _ (List.mem_cons_of_mem _ (List.mem_cons_of_mem _ (List.mem_cons_self)))))))
    rcases List.mem_cons.mp hz with rfl | hz
    · exact Or.inr rfl
    cases hz), List.mem_cons_of_mem _ (List.mem_cons_of_mem _ (List.mem_cons_of_mem _ (List.mem_cons_of_mem _ (List.mem_cons_of_mem _ (List.mem_cons_of_mem _ (List.mem_cons_of_mem _ (List.mem_cons_self)))))))⟩, Nat.le_of_ble_eq_true rfl, Nat.le_of_ble_eq_true rfl⟩, trivial⟩⟩) (by decide) (by decide +kernel) (by decide +kernel)
  (fun fs zs z h1 h2 => by
    rw [PQ_c (show fTab[1028]? = none by decide +kernel)]
    match fs, zs, h1, h2 with
    | [f0, f1], [z0, z1], _, _ => exact Iff.rfl) (yDet_b gAll_tag z300 gd_ok (by decide +kernel) (eqCd_ok (by decide +kernel)) hd_Model_isValue s) (he_Model_isValue s)
theorem yr300 : yRun gAll t300 b300 cq300 := yRun_d (dc := dc_Model_isValue) (cl := dk_Model_isValue) gAll_tag z300 gd_ok (by decide +kernel) (eqCd_ok (by decide +kernel)) hd_Model_isValue rfl rfl (fun s hT => dC_Model_isValue s hT)
theorem zw300 : zwid cq300.2.1.1 cq300.1 0 3 = true := by decide +kernel
set_option maxRecDepth 100000 in
theorem yw300 : yRows gAll LAll yt12 mt300 gHo 3 3 (zby cX13_isValue) p300 b300 p300 = true := by decide +kernel
set_option maxRecDepth 100000 in
theorem m300 (l : Launch) : kMet gAll LAll vwCl rFo rZs rRs rNs rTs l yX13_isValue cX13_isValue 3 (some .boolean) 1 23 cq300 := kmet_y2 (rt := 3) (by decide +kernel) yr300 zw300 rfl yw300 LAll_ok LAll_la yt12_ok gHo_ok rfl (fun G n Qf => List.forall_mem_cons.mpr ⟨⟨cq296, rfl, st289 l (by decide) (by decide)⟩, List.forall_mem_cons.mpr ⟨⟨cq299, rfl, st290 l (by decide) (by decide)⟩, List.forall_mem_cons.mpr ⟨⟨cq298, rfl, st291 l (by decide) (by decide)⟩, yA_n⟩⟩⟩) rfl (fun G n Rr => yA_n) rfl
