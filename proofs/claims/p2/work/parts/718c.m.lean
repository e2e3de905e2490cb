/-! 298 Model.registerOf (J)I -/
set_option maxRecDepth 100000 in
def b298 : qCd := [([(0, 0, 0, 0), (4, 3, 0, 0), (34, 192, 0, 0), (35, 291, 0, 0), (40, 3, 0, 0), (38, 0, 0, 0)], (0, 0, 1, 0, [])),
  ([(3, 3, 0, 0), (36, 0, 0, 0), (3, 0, 2, 0), (24, 26909, 192, 0)], (1, 3, 5, 2, [])),
  ([(3, 0, 2, 0), (25, 26909, 26915, 0), (3, 3, 0, 0), (36, 0, 0, 0), (38, 0, 0, 0), (28, 289, 0, 0), (3, 1, 1, 0), (23, 0, 0, 0)], (2, 1, 4, 3, [])),
  ([(3, 0, 2, 0), (25, 26909, 26919, 0), (3, 3, 0, 0), (36, 0, 0, 0), (38, 0, 0, 0), (28, 291, 0, 0), (34, 192, 0, 0), (35, 291, 0, 0), (38, 0, 0, 0)], (5, 0, 0, 0, [((-2147483648), 0), (2147483647, 0)])),
  ([(5, 3, 1, 0), (34, 192, 0, 0), (35, 291, 0, 0), (40, 3, 0, 0), (38, 0, 0, 0)], (0, 0, 1, 0, [])),
  ([(0, (-1), 0, 0), (34, 192, 0, 0), (35, 291, 0, 0), (38, 0, 0, 0)], (5, 0, 0, 0, [((-2147483648), 0), (2147483647, 0)]))]
def p298 : List Nat := [0, 2, 10, 21, 28, 34]
set_option maxRecDepth 100000 in
def d298 : qCt := (2, (([(0, (2, ((26909, []), (0, [])))), (1, (1, ((0, [(0, 1)]), (0, []))))], [], ([(192, (0, [(1, 1)]))], [(291, 0)]), (2, [(1, (48, 48)), (0, ((-9223372036854775808), 9223372036854775807))], [], 1, [(0, 291)], [], [], [(1173, ([0], [(0, []), (50, [])]))])), ([([], [(0, ((0, [(2, 1)]), (0, [])))], ([], []), (3, [(2, (0, 2063))], [(2015, [(1, 1), (2, (-1))])], 1, [], [], [], [(1173, ([0], [(0, []), (50, [])])), (1059, ([], [(0, [(2, 1)])]))])),
   ([], [(0, ((0, [(2, 1)]), (0, [])))], ([], []), (3, [(2, ((-1), (-1)))], [], 1, [], [], [], [(1173, ([0], [(0, []), (50, [])]))]))], [])))
set_option maxRecDepth 100000 in
def cq298 : qCt := (2, (([(0, (2, ((26909, []), (0, [])))), (1, (1, ((0, [(0, 1)]), (0, []))))], [], ([(192, (0, [(1, 1)]))], [(291, 0)]), (2, [(1, (48, 48)), (0, ((-9223372036854775808), 9223372036854775807))], [], 1, [(0, 291)], [], [], [(1173, ([0], [(0, []), (50, [])]))])), ([([], [(0, ((0, [(2, 1)]), (0, [])))], ([], []), (3, [(2, (0, 2063))], [(2015, [(1, 1), (2, (-1))])], 1, [], [], [], [(1173, ([0], [(0, []), (50, [])])), (1027, ([], [(0, [(0, 1)]), (0, [(2, 1)])])), (1059, ([], [(0, [(2, 1)])]))])),
   ([], [(0, ((0, [(2, 1)]), (0, [])))], ([], []), (3, [(2, ((-1), (-1)))], [], 1, [], [], [], [(1173, ([0], [(0, []), (50, [])])), (1027, ([], [(0, [(0, 1)]), (0, [(2, 1)])]))]))], [])))
def t298 : List qCt := []
def mt298 : yMt := ([], ([], ([], [])))
theorem rc298 : yRc cq298 13454 1 = true := by decide +kernel
set_option maxRecDepth 100000 in
def u298 : qCu := [(1, (([(0, (2, ((26909, []), (0, [])))), (1, (1, ((0, [(0, 1)]), (0, [])))), (3, (0, ((0, [(2, 1)]), (0, []))))], [], ([(192, (0, [(1, 1)]))], [(291, 0)]), (3, [(1, (48, 48)), (0, ((-9223372036854775808), 9223372036854775807)), (2, (0, 49))], [(0, [(1, 1), (2, (-1))])], 1, [], [], [], [(1173, ([0], [(0, []), (50, [])]))])), ((0, []), ((64, [(1, 64), (2, (-64))]), (0, [])))))]
set_option maxRecDepth 100000 in
theorem z298 : zchk gAll t298 ruI2 ruJ2 rqL b298 u298 d298 300 [] = true := sorry
def fp_Model_registerOf : List Nat := [192, 289, 291]
theorem ag_Model_registerOf {s s' : qSg} (hB : ∀ b ∈ fp_Model_registerOf, AgB gDet s s' b) (as : List qV) : dm_Model_registerOf as s = dm_Model_registerOf as s' := by
  unfold dm_Model_registerOf
  show zRun gDet (dk_Model_registerOf s') s dc_Model_registerOf as = zRun gDet (dk_Model_registerOf s') s' dc_Model_registerOf as
  exact zRun_ag gd_ok.P hB (show dc_Model_registerOf.all (fun x => x.1.all (okF gDet fp_Model_registerOf)) = true by decide +kernel) as
set_option maxHeartbeats 4000000 in
theorem he_Model_registerOf (s : qSg) : ∀ as r a v, CtBeg gAll d298 as s r a → Typed gAll s → dm_Model_registerOf (as.map cnV) s = some v → dEv 1027 (([] : List Nat).map a) (([(0, [(0, 1)])] : List qL).map (qe r)) = some v.2 := by
  intro as r a v hB hT e
  obtain ⟨hlen, ls, hsub, hsat⟩ := hB
  obtain ⟨hls, -, hsc, hav, -⟩ := hsat.now
  have hlen : as.length = 2 := hlen
  match as, hlen with
  | [w0, w1], _ =>
    have x0 := hsub (0, ((2 : Nat), qe r ((26909, []) : qL))) (by rw [hls]; exact List.mem_cons_self)
    cases lsArgs_hd (x0)
    have x1 := hsub (1, ((1 : Nat), qe r ((0, [(0, 1)]) : qL))) (by rw [hls]; exact List.mem_cons_of_mem _ (List.mem_cons_self))
    cases lsArgs_hd (lsArgs_tl (by decide) (by decide) (x1))
    have e1 : dm_Model_registerOf [((2 : Nat), qe r ((26909, []) : qL)), ((1 : Nat), qe r ((0, [(0, 1)]) : qL))] s = some v := by
      unfold dm_Model_registerOf at e ⊢
      rw [zRun_cn (map_cn _)] at e
      exact e
    have e2 := ag_Model_registerOf (s := s) (s' := dSto [] []) (fun b hb => by
      rcases List.mem_cons.mp hb with rfl | hb
      · exact yCon gd_ok hT (by decide +kernel) rfl rfl
      rcases List.mem_cons.mp hb with rfl | hb
      · exact yCon gd_ok hT (by decide +kernel) rfl rfl
      rcases List.mem_cons.mp hb with rfl | hb
      · exact yCon gd_ok hT (by decide +kernel) rfl rfl
      cases hb) [((2 : Nat), qe r ((26909, []) : qL)), ((1 : Nat), qe r ((0, [(0, 1)]) : qL))]
    rw [e2] at e1
    exact congrArg (fun o => o.map (fun v => v.2)) e1
theorem hd_Model_registerOf : ∀ s, Typed gAll s → HC gAll t298 (dk_Model_registerOf s) s := by
  intro s hT j C hC
  match j, hC with
  | j + 0, hC => cases (show none = some C from hC)
set_option maxHeartbeats 4000000 in
theorem dC_Model_registerOf (s : qSg) (hT : Typed gAll s) : DetC gAll cq298 s (fun as => dm_Model_registerOf as s) := detC_of (p := 1027) (t := 0) (vs := []) (zi := [(0, [(0, 1)])]) (Cd := d298) rfl rfl rfl (⟨⟨_, rfl, ⟨_, rfl, (fun z hz => by
    rcases List.mem_cons.mp hz with rfl | hz
    · exact Or.inl (List.mem_cons_self)
    rcases List.mem_cons.mp hz with rfl | hz
    · exact Or.inr rfl
    rcases List.mem_cons.mp hz with rfl | hz
    · exact Or.inl (List.mem_cons_of_mem _ (List.mem_cons_self))
    cases hz), List.mem_cons_of_mem _ (List.mem_cons_self)⟩, Nat.le_of_ble_eq_true rfl, Nat.le_of_ble_eq_true rfl⟩, ⟨⟨_, rfl, ⟨_, rfl, (fun z hz => by
    rcases List.mem_cons.mp hz with rfl | hz
    · exact Or.inl (List.mem_cons_self)
    rcases List.mem_cons.mp hz with rfl | hz
    · exact Or.inr rfl
    cases hz), List.mem_cons_of_mem _ (List.mem_cons_self)⟩, Nat.le_of_ble_eq_true rfl, Nat.le_of_ble_eq_true rfl⟩, trivial⟩⟩) (by decide) (by decide +kernel) (by decide +kernel)
  (fun fs zs z h1 h2 => by
    rw [PQ_c (show fTab[1027]? = none by decide +kernel)]
    match fs, zs, h1, h2 with
    | [], [z0], _, _ => exact Iff.rfl) (yDet_b gAll_tag z298 gd_ok (by decide +kernel) (eqCd_ok (by decide +kernel)) hd_Model_registerOf s) (he_Model_registerOf s)
theorem yr298 : yRun gAll t298 b298 cq298 := yRun_d (dc := dc_Model_registerOf) (cl := dk_Model_registerOf) gAll_tag z298 gd_ok (by decide +kernel) (eqCd_ok (by decide +kernel)) hd_Model_registerOf rfl rfl (fun s hT => dC_Model_registerOf s hT)
theorem zw298 : zwid cq298.2.1.1 cq298.1 0 4 = true := by decide +kernel
set_option maxRecDepth 100000 in
theorem yw298 : yRows gAll LAll yt12 mt298 gHo 4 1 (zby cX13_registerOf) p298 b298 p298 = true := by decide +kernel
set_option maxRecDepth 100000 in
theorem m298 (l : Launch) : kMet gAll LAll vwCl rFo rZs rRs rNs rTs l yX13_registerOf cX13_registerOf 4 (some .int) 0 0 cq298 := kmet_y2 (rt := 1) (by decide +kernel) yr298 zw298 rfl yw298 LAll_ok LAll_la yt12_ok gHo_ok rfl (fun G n Qf => yA_n) rfl (fun G n Rr => yA_n) rfl
