/-! 302 Model.partEnd (IZ)I -/
set_option maxRecDepth 100000 in
def b302 : qCd := [([(3, 2, 0, 0)], (2, 0, 4, 1, [])),
  ([(3, 1, 0, 0), (3, 0, 2, 0), (24, 26909, 231, 0)], (1, 3, 4, 2, [])),
  ([(3, 0, 2, 0), (25, 26909, 27115, 0), (3, 1, 0, 0), (38, 0, 0, 0), (28, 347, 0, 0), (0, 3, 0, 0)], (1, 1, 4, 3, [])),
  ([(3, 1, 0, 0), (0, 1, 0, 0), (38, 0, 0, 0), (14, 0, 0, 0), (36, 0, 0, 0)], (0, 0, 5, 0, [])),
  ([(3, 0, 2, 0), (3, 1, 0, 0), (0, 0, 0, 0), (34, 223, 0, 0), (34, 192, 0, 0), (34, 231, 0, 0), (34, 191, 0, 0), (35, 291, 0, 0), (35, 347, 0, 0), (35, 349, 0, 0), (35, 350, 0, 0), (35, 290, 0, 0), (38, 0, 0, 0), (33, 0, 0, 0)], (0, 0, 5, 0, [])),
  ([(34, 223, 0, 0), (34, 192, 0, 0), (34, 231, 0, 0), (34, 191, 0, 0), (35, 291, 0, 0), (35, 347, 0, 0), (35, 349, 0, 0), (35, 350, 0, 0), (35, 290, 0, 0), (38, 0, 0, 0)], (5, 0, 0, 0, [((-2147483648), 0), (2147483647, 0)]))]
def p302 : List Nat := [0, 4, 12, 22, 28, 34]
set_option maxRecDepth 100000 in
def d302 : qCt := (3, (([(0, (2, ((26909, []), (0, [])))), (1, (0, ((0, [(0, 1)]), (0, [])))), (2, (0, ((0, [(1, 1)]), (0, []))))], [], ([(223, (0, [(2, 1)])), (192, (0, [(3, 1)])), (231, (0, [(4, 1)])), (191, (0, [(5, 1)]))], [(291, 0), (347, 1), (349, 2), (350, 3), (290, 4)]), (6, [(0, (0, 4097)), (1, (0, 1)), (3, (48, 48)), (4, (1, 1024)), (5, (137, 137)), (2, (0, 7))], [], 5, [(0, 291), (1, 347), (2, 349), (3, 350), (4, 290)], [], [], [(11, ([1, 2], [(0, []), (0, [(4, 1)]), (0, [(2, 1)])])), (12, ([1, 2], [(0, []), (0, [(4, 1)]), (0, [(2, 1)])])), (17, ([1, 3], [(0, []), (0, [(4, 1)])])), (18, ([1, 3], [(0, []), (0, [(4, 1)])])), (21, ([1, 2], [(0, []), (0, [(4, 1)])])), (1172, ([4], [(0, []), (200, [])])), (1173, ([0], [(0, []), (50, [])]))])), ([([], [(0, ((0, [(6, 1)]), (0, [])))], ([], []), (7, [(6, (0, 4096))], [(0, [(0, (-1)), (6, 1)]), (0, [(4, 1), (6, (-1))]), ((-1), [(0, (-1)), (4, 1)])], 5, [], [], [], [(11, ([1, 2], [(0, []), (0, [(4, 1)]), (0, [(2, 1)])])), (12, ([1, 2], [(0, []), (0, [(4, 1)]), (0, [(2, 1)])])), (17, ([1, 3], [(0, []), (0, [(4, 1)])])), (18, ([1, 3], [(0, []), (0, [(4, 1)])])), (21, ([1, 2], [(0, []), (0, [(4, 1)])])), (1172, ([4], [(0, []), (200, [])])), (1173, ([0], [(0, []), (50, [])])), (1043, ([1, 3], [(0, [(0, 1)]), (0, [(4, 1)]), (0, [(6, 1)])]))])),
   ([], [(0, ((0, [(6, 1)]), (0, [])))], ([], []), (7, [(6, ((-1), (-1)))], [((-1), [(0, 1), (6, (-1))]), ((-1), [(1, 1), (6, (-1))])], 5, [], [], [], [(11, ([1, 2], [(0, []), (0, [(4, 1)]), (0, [(2, 1)])])), (12, ([1, 2], [(0, []), (0, [(4, 1)]), (0, [(2, 1)])])), (17, ([1, 3], [(0, []), (0, [(4, 1)])])), (18, ([1, 3], [(0, []), (0, [(4, 1)])])), (21, ([1, 2], [(0, []), (0, [(4, 1)])])), (1172, ([4], [(0, []), (200, [])])), (1173, ([0], [(0, []), (50, [])])), (1043, ([1, 3], [(0, [(0, 1)]), (0, [(4, 1)]), (0, [(6, 1)])]))]))], [])))
set_option maxRecDepth 100000 in
def cq302 : qCt := (3, (([(0, (2, ((26909, []), (0, [])))), (1, (0, ((0, [(0, 1)]), (0, [])))), (2, (0, ((0, [(1, 1)]), (0, []))))], [], ([(223, (0, [(2, 1)])), (192, (0, [(3, 1)])), (231, (0, [(4, 1)])), (191, (0, [(5, 1)]))], [(291, 0), (347, 1), (349, 2), (350, 3), (290, 4)]), (6, [(0, (0, 4097)), (1, (0, 1)), (3, (48, 48)), (4, (1, 1024)), (5, (137, 137)), (2, (0, 7))], [], 5, [(0, 291), (1, 347), (2, 349), (3, 350), (4, 290)], [], [], [(11, ([1, 2], [(0, []), (0, [(4, 1)]), (0, [(2, 1)])])), (12, ([1, 2], [(0, []), (0, [(4, 1)]), (0, [(2, 1)])])), (17, ([1, 3], [(0, []), (0, [(4, 1)])])), (18, ([1, 3], [(0, []), (0, [(4, 1)])])), (21, ([1, 2], [(0, []), (0, [(4, 1)])])), (1172, ([4], [(0, []), (200, [])])), (1173, ([0], [(0, []), (50, [])]))])), ([([], [(0, ((0, [(6, 1)]), (0, [])))], ([], []), (7, [(6, (0, 4096))], [(0, [(0, (-1)), (6, 1)]), (0, [(4, 1), (6, (-1))]), ((-1), [(0, (-1)), (4, 1)])], 5, [], [], [], [(11, ([1, 2], [(0, []), (0, [(4, 1)]), (0, [(2, 1)])])), (12, ([1, 2], [(0, []), (0, [(4, 1)]), (0, [(2, 1)])])), (17, ([1, 3], [(0, []), (0, [(4, 1)])])), (18, ([1, 3], [(0, []), (0, [(4, 1)])])), (21, ([1, 2], [(0, []), (0, [(4, 1)])])), (1172, ([4], [(0, []), (200, [])])), (1173, ([0], [(0, []), (50, [])])), (1024, ([1, 3], [(0, [(0, 1)]), (0, [(1, 1)]), (0, [(4, 1)]), (0, [(6, 1)])])), (1043, ([1, 3], [(0, [(0, 1)]), (0, [(4, 1)]), (0, [(6, 1)])]))])),
   ([], [(0, ((0, [(6, 1)]), (0, [])))], ([], []), (7, [(6, ((-1), (-1)))], [((-1), [(0, 1), (6, (-1))]), ((-1), [(1, 1), (6, (-1))])], 5, [], [], [], [(11, ([1, 2], [(0, []), (0, [(4, 1)]), (0, [(2, 1)])])), (12, ([1, 2], [(0, []), (0, [(4, 1)]), (0, [(2, 1)])])), (17, ([1, 3], [(0, []), (0, [(4, 1)])])), (18, ([1, 3], [(0, []), (0, [(4, 1)])])), (21, ([1, 2], [(0, []), (0, [(4, 1)])])), (1172, ([4], [(0, []), (200, [])])), (1173, ([0], [(0, []), (50, [])])), (1024, ([1, 3], [(0, [(0, 1)]), (0, [(1, 1)]), (0, [(4, 1)]), (0, [(6, 1)])])), (1043, ([1, 3], [(0, [(0, 1)]), (0, [(4, 1)]), (0, [(6, 1)])]))]))], [])))
def t302 : List qCt := [cq301]
theorem hdV_X13_pass : yX13_pass.cls = RX13 ∧ yX13_pass.cls ≠ "java/lang/invoke/MethodHandle" ∧ yX13_pass.cls ≠ "java/lang/invoke/VarHandle" ∧ (parseMethodDescriptor yX13_pass.desc).map (fun d => d.parameters.length) = some 2 := by decide +kernel
theorem st294 (l : Launch) {G : rGm} {cc : ByteArray} {nL n fr lo : Nat} {ret : Option FieldType} {Qf : kQf} (hf : 3 ≤ fr) (hlo : 71 ≤ lo) : ySite gAll LAll vwCl rFo rZs rRs rNs rTs G l cc nL RX13 ret fr lo n Qf 182 918 cq301 := ys_V 2 13454 15 rc301 lo_13454 kc15 (m301 l) kGood kw2334 kw2335 kw2336 kw315 kw2676 hdV_X13_pass hf hlo
def mt302 : yMt := ([(182, (918, 0))], ([], ([], [])))
theorem rc302 : yRc cq302 13454 2 = true := by decide +kernel
set_option maxRecDepth 100000 in
def u302 : qCu := []
set_option maxRecDepth 100000 in
theorem z302 : zchk gAll t302 ruI2 ruJ2 rqL b302 u302 d302 300 [] = true := sorry
def fp_Model_partEnd : List Nat := [191, 192, 202, 231, 288, 289, 290, 291, 347, 350]
theorem ag_Model_partEnd {s s' : qSg} (hB : ∀ b ∈ fp_Model_partEnd, AgB gDet s s' b) (as : List qV) : dm_Model_partEnd as s = dm_Model_partEnd as s' := by
  unfold dm_Model_partEnd
  have e : dk_Model_partEnd s = dk_Model_partEnd s' := by
    funext i
    match i with
    | 0 => exact congrArg (fun f => some (3, f)) (funext fun as => ag_Model_pass (fun b hb => hB b ((show ∀ b ∈ fp_Model_pass, b ∈ fp_Model_partEnd by decide +kernel) b hb)) as)
    | i + 1 => rfl
  rw [e]
  exact zRun_ag gd_ok.P hB (show dc_Model_partEnd.all (fun x => x.1.all (okF gDet fp_Model_partEnd)) = true by decide +kernel) as
set_option maxHeartbeats 4000000 in
theorem he_Model_partEnd (s : qSg) : ∀ as r a v, CtBeg gAll d302 as s r a → Typed gAll s → dm_Model_partEnd (as.map cnV) s = some v → dEv 1024 (([1, 3] : List Nat).map a) (([(0, [(0, 1)]), (0, [(1, 1)]), (0, [(4, 1)])] : List qL).map (qe r)) = some v.2 := by
  intro as r a v hB hT e
  obtain ⟨hlen, ls, hsub, hsat⟩ := hB
  obtain ⟨hls, -, hsc, hav, -⟩ := hsat.now
  have hlen : as.length = 3 := hlen
  match as, hlen with
  | [w0, w1, w2], _ =>
    have x0 := hsub (0, ((2 : Nat), qe r ((26909, []) : qL))) (by rw [hls]; exact List.mem_cons_self)
    cases lsArgs_hd (x0)
    have x1 := hsub (1, ((0 : Nat), qe r ((0, [(0, 1)]) : qL))) (by rw [hls]; exact List.mem_cons_of_mem _ (List.mem_cons_self))
    cases lsArgs_hd (lsArgs_tl (by decide) (by decide) (x1))
    have x2 := hsub (2, ((0 : Nat), qe r ((0, [(1, 1)]) : qL))) (by rw [hls]; exact List.mem_cons_of_mem _ (List.mem_cons_of_mem _ (List.mem_cons_self)))
    cases lsArgs_hd (lsArgs_tl (by decide) (by decide) (lsArgs_tl (by decide) (by decide) (x2)))
    have e1 : dm_Model_partEnd [((2 : Nat), qe r ((26909, []) : qL)), ((0 : Nat), qe r ((0, [(0, 1)]) : qL)), ((0 : Nat), qe r ((0, [(1, 1)]) : qL))] s = some v := by
      unfold dm_Model_partEnd at e ⊢
      rw [zRun_cn (map_cn _)] at e
      exact e
    have e2 := ag_Model_partEnd (s := s) (s' := dSto [(347, dF (([1, 3] : List Nat).map a) 0), (350, dF (([1, 3] : List Nat).map a) 1)] [(231, dZ (([(0, [(0, 1)]), (0, [(1, 1)]), (0, [(4, 1)])] : List qL).map (qe r)) 2)]) (fun b hb => by
      rcases List.mem_cons.mp hb with rfl | hb
      · exact yCon gd_ok hT (by decide +kernel) rfl rfl
      rcases List.mem_cons.mp hb with rfl | hb
      · exact yCon gd_ok hT (by decide +kernel) rfl rfl
      rcases List.mem_cons.mp hb with rfl | hb
      · exact yCon gd_ok hT (by decide +kernel) rfl rfl
      rcases List.mem_cons.mp hb with rfl | hb
      · exact yFld (by decide +kernel) rfl rfl (hsc (231, (0, [(4, 1)])) (List.mem_cons_of_mem _ (List.mem_cons_of_mem _ (List.mem_cons_self))))
      rcases List.mem_cons.mp hb with rfl | hb
      · exact yCon gd_ok hT (by decide +kernel) rfl rfl
      rcases List.mem_cons.mp hb with rfl | hb
      · exact yCon gd_ok hT (by decide +kernel) rfl rfl
      rcases List.mem_cons.mp hb with rfl | hb
      · exact yCon gd_ok hT (by decide +kernel) rfl rfl
      rcases List.mem_cons.mp hb with rfl | hb
      · exact yCon gd_ok hT (by decide +kernel) rfl rfl
      rcases List.mem_cons.mp hb with rfl | hb
      · exact yArr rfl (hav (347, 1) (List.mem_cons_of_mem _ (List.mem_cons_self)))
      rcases List.mem_cons.mp hb with rfl | hb
      · exact yArr rfl (hav (350, 3) (List.mem_cons_of_mem _ (List.mem_cons_of_mem _ (List.mem_cons_of_mem _ (List.mem_cons_self)))))
      cases hb) [((2 : Nat), qe r ((26909, []) : qL)), ((0 : Nat), qe r ((0, [(0, 1)]) : qL)), ((0 : Nat), qe r ((0, [(1, 1)]) : qL))]
    rw [e2] at e1
    exact congrArg (fun o => o.map (fun v => v.2)) e1
theorem hd_Model_partEnd : ∀ s, Typed gAll s → HC gAll t302 (dk_Model_partEnd s) s := by
  intro s hT j C hC
  match j, hC with
  | 0, hC =>
    cases (show some cq301 = some C from hC)
    exact ⟨_, rfl, rfl, dC_Model_pass s hT⟩
  | j + 1, hC => cases (show none = some C from hC)
set_option maxHeartbeats 4000000 in
theorem dC_Model_partEnd (s : qSg) (hT : Typed gAll s) : DetC gAll cq302 s (fun as => dm_Model_partEnd as s) := detC_of (p := 1024) (t := 0) (vs := [1, 3]) (zi := [(0, [(0, 1)]), (0, [(1, 1)]), (0, [(4, 1)])]) (Cd := d302) rfl rfl rfl (⟨⟨_, rfl, ⟨_, rfl, (fun z hz => by
    rcases List.mem_cons.mp hz with rfl | hz
    · exact Or.inl (List.mem_cons_self)
    rcases List.mem_cons.mp hz with rfl | hz
    · exact Or.inl (List.mem_cons_of_mem _ (List.mem_cons_self))
    rcases List.mem_cons.mp hz with rfl | hz
    · exact Or.inl (List.mem_cons_of_mem _ (List.mem_cons_of_mem _ (List.mem_cons_self)))
    rcases List.mem_cons.mp hz with rfl | hz
    · exact Or.inl (List.mem_cons_of_mem _ (List.mem_cons_of_mem _ (List.mem_cons_of_mem _ (List.mem_cons_self))))
    rcases List.mem_cons.mp hz with rfl | hz
    · exact Or.inl (List.mem_cons_of_mem _ (List.mem_cons_of_mem _ (List.mem_cons_of_mem _ (List.mem_cons_of_mem _ (List.mem_cons_self)))))
    rcases List.mem_cons.mp hz with rfl | hz
    · exact Or.inl (List.mem_cons_of_mem _ (List.mem_cons_of_mem _ (List.mem_cons_of_mem _ (List.mem_cons_of_mem _ (List.mem_cons_of_mem _ (List.mem_cons_self))))))
    rcases List.mem_cons.mp hz with rfl | hz
    · exact Or.inl (List.mem_cons_of_mem _ (List.mem_cons_of_mem _ (List.mem_cons_of_mem _ (List.mem_cons_of_mem _ (List.mem_cons_of_mem _ (List.mem_cons_of_mem _ (List.mem_cons_self)))))))
    rcases List.mem_cons.mp hz with rfl | hz
    · exact Or.inr rfl
    rcases List.mem_cons.mp hz with rfl | hz
    · exact Or.inl (List.mem_cons_of_mem _ (List.mem_cons_of_mem _ (List.mem_cons_of_mem _ (List.mem_cons_of_mem _ (List.mem_cons_of_mem _ (List.mem_cons_of_mem _ (List.mem_cons_of_mem _ (List.mem_cons_self))))))))
    cases hz), List.mem_cons_of_mem _ (List.mem_cons_of_mem _ (List.mem_cons_of_mem _ (List.mem_cons_of_mem _ (List.mem_cons_of_mem _ (List.mem_cons_of_mem _ (List.mem_cons_of_mem _ (List.mem_cons_self)))))))⟩, Nat.le_of_ble_eq_true rfl, Nat.le_of_ble_eq_true rfl⟩, ⟨⟨_, rfl, ⟨_, rfl, (fun z hz => by
    rcases List.mem_cons.mp hz with rfl | hz
    · exact Or.inl (List.mem_cons_self)
    rcases List.mem_cons.mp hz with rfl | hz
    · exact Or.inl (List.mem_cons_of_mem _ (List.mem_cons_self))
    rcases List.mem_cons.mp hz with rfl | hz
    · exact Or.inl (List.mem_cons_of_mem _ (List.mem_cons_of_mem _ (List.mem_cons_self)))
    rcases List.mem_cons.mp hz with rfl | hz
    · exact Or.inl (List.mem_cons_of_mem _ (List.mem_cons_of_mem _ (List.mem_cons_of_mem _ (List.mem_cons_self))))
    rcases List.mem_cons.mp hz with rfl | hz
    · exact Or.inl (List.mem_cons_of_mem _ (List.mem_cons_of_mem _ (List.mem_cons_of_mem _ (List.mem_cons_of_mem _ (List.mem_cons_self)))))
    rcases List.mem_cons.mp hz with rfl | hz
    · exact Or.inl (List.mem_cons_of_mem _ (List.mem_cons_of_mem _ (List.mem_cons_of_mem _ (List.mem_cons_of_mem _ (List.mem_cons_of_mem _ (List.mem_cons_self))))))
    rcases List.mem_cons.mp hz with rfl | hz
    · exact Or.inl (List.mem_cons_of_mem _ (List.mem_cons_of_mem _ (List.mem_cons_of_mem _ (List.mem_cons_of_mem _ (List.mem_cons_of_mem _ (List.mem_cons_of_mem _ (List.mem_cons_self)))))))
    rcases List.mem_cons.mp hz with rfl | hz
    · exact Or.inr rfl
    rcases List.mem_cons.mp hz with rfl | hz
    · exact Or.inl (List.mem_cons_of_mem _ (List.mem_cons_of_mem _ (List.mem_cons_of_mem _ (List.mem_cons_of_mem _ (List.mem_cons_of_mem _ (List.mem_cons_of_mem _ (List.mem_cons_of_mem _ (List.mem_cons_self))))))))
    cases hz), List.mem_cons_of_mem _ (List.mem_cons_of_mem _ (List.mem_cons_of_mem _ (List.mem_cons_of_mem _ (List.mem_cons_of_mem _ (List.mem_cons_of_mem _ (List.mem_cons_of_mem _ (List.mem_cons_self)))))))⟩, Nat.le_of_ble_eq_true rfl, Nat.le_of_ble_eq_true rfl⟩, trivial⟩⟩) (by decide) (by decide +kernel) (by decide +kernel)
  (fun fs zs z h1 h2 => by
    rw [PQ_c (show fTab[1024]? = none by decide +kernel)]
    match fs, zs, h1, h2 with
    | [f0, f1], [z0, z1, z2], _, _ => exact Iff.rfl) (yDet_b gAll_tag z302 gd_ok (by decide +kernel) (eqCd_ok (by decide +kernel)) hd_Model_partEnd s) (he_Model_partEnd s)
theorem yr302 : yRun gAll t302 b302 cq302 := yRun_d (dc := dc_Model_partEnd) (cl := dk_Model_partEnd) gAll_tag z302 gd_ok (by decide +kernel) (eqCd_ok (by decide +kernel)) hd_Model_partEnd rfl rfl (fun s hT => dC_Model_partEnd s hT)
theorem zw302 : zwid cq302.2.1.1 cq302.1 0 3 = true := by decide +kernel
set_option maxRecDepth 100000 in
theorem yw302 : yRows gAll LAll yt12 mt302 gHo 3 1 (zby cX13_partEnd) p302 b302 p302 = true := by decide +kernel
set_option maxRecDepth 100000 in
theorem m302 (l : Launch) : kMet gAll LAll vwCl rFo rZs rRs rNs rTs l yX13_partEnd cX13_partEnd 3 (some .int) 3 71 cq302 := kmet_y2 (rt := 1) (by decide +kernel) yr302 zw302 rfl yw302 LAll_ok LAll_la yt12_ok gHo_ok rfl (fun G n Qf => List.forall_mem_cons.mpr ⟨⟨cq301, rfl, st294 l (by decide) (by decide)⟩, yA_n⟩) rfl (fun G n Rr => yA_n) rfl
