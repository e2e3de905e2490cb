/-! 299 Model.wordOf (J)I -/
set_option maxRecDepth 100000 in
def b299 : qCd := [([(0, 0, 0, 0), (4, 3, 0, 0), (34, 191, 0, 0), (35, 290, 0, 0), (40, 3, 0, 0), (38, 0, 0, 0)], (0, 0, 1, 0, [])),
  ([(3, 3, 0, 0), (36, 0, 0, 0), (3, 0, 2, 0), (24, 26909, 191, 0)], (1, 3, 5, 2, [])),
  ([(3, 0, 2, 0), (25, 26909, 26913, 0), (3, 3, 0, 0), (36, 0, 0, 0), (38, 0, 0, 0), (28, 288, 0, 0), (3, 1, 1, 0), (23, 0, 0, 0)], (2, 1, 4, 3, [])),
  ([(3, 0, 2, 0), (25, 26909, 26917, 0), (3, 3, 0, 0), (36, 0, 0, 0), (38, 0, 0, 0), (28, 290, 0, 0), (34, 191, 0, 0), (35, 290, 0, 0), (38, 0, 0, 0)], (5, 0, 0, 0, [((-2147483648), 0), (2147483647, 0)])),
  ([(5, 3, 1, 0), (34, 191, 0, 0), (35, 290, 0, 0), (40, 3, 0, 0), (38, 0, 0, 0)], (0, 0, 1, 0, [])),
  ([(0, (-1), 0, 0), (34, 191, 0, 0), (35, 290, 0, 0), (38, 0, 0, 0)], (5, 0, 0, 0, [((-2147483648), 0), (2147483647, 0)]))]
def p299 : List Nat := [0, 2, 10, 21, 28, 34]
set_option maxRecDepth 100000 in
def d299 : qCt := (2, (([(0, (2, ((26909, []), (0, [])))), (1, (1, ((0, [(0, 1)]), (0, []))))], [], ([(191, (0, [(1, 1)]))], [(290, 0)]), (2, [(1, (137, 137)), (0, ((-9223372036854775808), 9223372036854775807))], [], 1, [(0, 290)], [], [], [(1172, ([0], [(0, []), (200, [])]))])), ([([], [(0, ((0, [(2, 1)]), (0, [])))], ([], []), (3, [(2, (0, 251658276))], [], 1, [], [], [], [(1172, ([0], [(0, []), (200, [])])), (0, ([], [(0, []), (1, []), (117, [(2, (-1))]), ((-119), [(2, 1)])])), (1076, ([], [(0, [(2, 1)])]))])),
   ([], [(0, ((0, [(2, 1)]), (0, [])))], ([], []), (3, [(2, ((-1), (-1)))], [((-138), [(1, 1), (2, (-1))])], 1, [], [], [], [(1172, ([0], [(0, []), (200, [])])), (1076, ([], [(0, [(2, 1)])]))]))], [])))
set_option maxRecDepth 100000 in
def cq299 : qCt := (2, (([(0, (2, ((26909, []), (0, [])))), (1, (1, ((0, [(0, 1)]), (0, []))))], [], ([(191, (0, [(1, 1)]))], [(290, 0)]), (2, [(1, (137, 137)), (0, ((-9223372036854775808), 9223372036854775807))], [], 1, [(0, 290)], [], [], [(1172, ([0], [(0, []), (200, [])]))])), ([([], [(0, ((0, [(2, 1)]), (0, [])))], ([], []), (3, [(2, (0, 251658276))], [], 1, [], [], [], [(1172, ([0], [(0, []), (200, [])])), (1026, ([], [(0, [(0, 1)]), (0, [(2, 1)])])), (0, ([], [(0, []), (1, []), (117, [(2, (-1))]), ((-119), [(2, 1)])])), (1076, ([], [(0, [(2, 1)])]))])),
   ([], [(0, ((0, [(2, 1)]), (0, [])))], ([], []), (3, [(2, ((-1), (-1)))], [((-138), [(1, 1), (2, (-1))])], 1, [], [], [], [(1172, ([0], [(0, []), (200, [])])), (1026, ([], [(0, [(0, 1)]), (0, [(2, 1)])])), (1076, ([], [(0, [(2, 1)])]))]))], [])))
def t299 : List qCt := []
def mt299 : yMt := ([], ([], ([], [])))
theorem rc299 : yRc cq299 13454 1 = true := by decide +kernel
set_option maxRecDepth 100000 in
def u299 : qCu := [(1, (([(0, (2, ((26909, []), (0, [])))), (1, (1, ((0, [(0, 1)]), (0, [])))), (3, (0, ((0, [(2, 1)]), (0, []))))], [], ([(191, (0, [(1, 1)]))], [(290, 0)]), (3, [(1, (137, 137)), (0, ((-9223372036854775808), 9223372036854775807)), (2, (0, 139))], [(0, [(1, 1), (2, (-1))])], 1, [], [], [], [(1172, ([0], [(0, []), (200, [])]))])), ((0, []), ((128, [(1, 64), (2, (-64))]), (0, [])))))]
set_option maxRecDepth 100000 in
theorem z299 : zchk gAll t299 ruI2 ruJ2 rqL b299 u299 d299 300 [] = true := sorry
def fp_Model_wordOf : List Nat := [191, 288, 290]
theorem ag_Model_wordOf {s s' : qSg} (hB : ∀ b ∈ fp_Model_wordOf, AgB gDet s s' b) (as : List qV) : dm_Model_wordOf as s = dm_Model_wordOf as s' := by
  unfold dm_Model_wordOf
  show zRun gDet (dk_Model_wordOf s') s dc_Model_wordOf as = zRun gDet (dk_Model_wordOf s') s' dc_Model_wordOf as
  exact zRun_ag gd_ok.P hB (show dc_Model_wordOf.all (fun x => x.1.all (okF gDet fp_Model_wordOf)) = true by decide +kernel) as
set_option maxHeartbeats 4000000 in
theorem he_Model_wordOf (s : qSg) : ∀ as r a v, CtBeg gAll d299 as s r a → Typed gAll s → dm_Model_wordOf (as.map cnV) s = some v → dEv 1026 (([] : List Nat).map a) (([(0, [(0, 1)])] : List qL).map (qe r)) = some v.2 := by
  intro as r a v hB hT e
  obtain ⟨hlen, ls, hsub, hsat⟩ := hB
  obtain ⟨hls, -, hsc, hav, -⟩ := hsat.now
  have hlen : as.length = 2 := hlen
  match as, hlen with
  | [w0, w1], _ =>
    have x0 := hsub (0, ((2 : Nat), qe r ((26909, []) : qL))) (by rw [hls]; exact List.mem_cons_self)
    cases lsArgs_hd (x0)
    have x1 := hsub (1, ((1 : Nat), qe r ((0, [(0, 1)]) : qL))) (by rw [hls]; exact List.mem_cons_of_mem _ (List.mem_cons_self))
    cases lsArgs_hd (lsArgs_tl (by decide) (by decide) (x1))
    have e1 : dm_Model_wordOf [((2 : Nat), qe r ((26909, []) : qL)), ((1 : Nat), qe r ((0, [(0, 1)]) : qL))] s = some v := by
      unfold dm_Model_wordOf at e ⊢
      rw [zRun_cn (map_cn _)] at e
      exact e
    have e2 := ag_Model_wordOf (s := s) (s' := dSto [] []) (fun b hb => by
      rcases List.mem_cons.mp hb with rfl | hb
      · exact yCon gd_ok hT (by decide +kernel) rfl rfl
      rcases List.mem_cons.mp hb with rfl | hb
      · exact yCon gd_ok hT (by decide +kernel) rfl rfl
      rcases List.mem_cons.mp hb with rfl | hb
      · exact yCon gd_ok hT (by decide +kernel) rfl rfl
      cases hb) [((2 : Nat), qe r ((26909, []) : qL)), ((1 : Nat), qe r ((0, [(0, 1)]) : qL))]
    rw [e2] at e1
    exact congrArg (fun o => o.map (fun v => v.2)) e1
theorem hd_Model_wordOf : ∀ s, Typed gAll s → HC gAll t299 (dk_Model_wordOf s) s := by
  intro s hT j C hC
  match j, hC with
  | j + 0, hC => cases (show none = some C from hC)
set_option maxHeartbeats 4000000 in
theorem dC_Model_wordOf (s : qSg) (hT : Typed gAll s) : DetC gAll cq299 s (fun as => dm_Model_wordOf as s) := detC_of (p := 1026) (t := 0) (vs := []) (zi := [(0, [(0, 1)])]) (Cd := d299) rfl rfl rfl (⟨⟨_, rfl, ⟨_, rfl, (fun z hz => by
    rcases List.mem_cons.mp hz with rfl | hz
    · exact Or.inl (List.mem_cons_self)
    rcases List.mem_cons.mp hz with rfl | hz
    · exact Or.inr rfl
    rcases List.mem_cons.mp hz with rfl | hz
    · exact Or.inl (List.mem_cons_of_mem _ (List.mem_cons_self))
    rcases List.mem_cons.mp hz with rfl | hz
    · exact Or.inl (List.mem_cons_of_mem _ (List.mem_cons_of_mem _ (List.mem_cons_self)))
    cases hz), List.mem_cons_of_mem _ (List.mem_cons_self)⟩, Nat.le_of_ble_eq_true rfl, Nat.le_of_ble_eq_true rfl⟩, ⟨⟨_, rfl, ⟨_, rfl, (fun z hz => by
    rcases List.mem_cons.mp hz with rfl | hz
    · exact Or.inl (List.mem_cons_self)
    rcases List.mem_cons.mp hz with rfl | hz
    · exact Or.inr rfl
    rcases List.mem_cons.mp hz with rfl | hz
    · exact Or.inl (List.mem_cons_of_mem _ (List.mem_cons_self))
    cases hz), List.mem_cons_of_mem _ (List.mem_cons_self)⟩, Nat.le_of_ble_eq_true rfl, Nat.le_of_ble_eq_true rfl⟩, trivial⟩⟩) (by decide) (by decide +kernel) (by decide +kernel)
  (fun fs zs z h1 h2 => by
    rw [PQ_c (show fTab[1026]? = none by decide +kernel)]
    match fs, zs, h1, h2 with
    | [], [z0], _, _ => exact Iff.rfl) (yDet_b gAll_tag z299 gd_ok (by decide +kernel) (eqCd_ok (by decide +kernel)) hd_Model_wordOf s) (he_Model_wordOf s)
theorem yr299 : yRun gAll t299 b299 cq299 := yRun_d (dc := dc_Model_wordOf) (cl := dk_Model_wordOf) gAll_tag z299 gd_ok (by decide +kernel) (eqCd_ok (by decide +kernel)) hd_Model_wordOf rfl rfl (fun s hT => dC_Model_wordOf s hT)
theorem zw299 : zwid cq299.2.1.1 cq299.1 0 4 = true := by decide +kernel
set_option maxRecDepth 100000 in
theorem yw299 : yRows gAll LAll yt12 mt299 gHo 4 1 (zby cX13_wordOf) p299 b299 p299 = true := by decide +kernel
set_option maxRecDepth 100000 in
theorem m299 (l : Launch) : kMet gAll LAll vwCl rFo rZs rRs rNs rTs l yX13_wordOf cX13_wordOf 4 (some .int) 0 0 cq299 := kmet_y2 (rt := 1) (by decide +kernel) yr299 zw299 rfl yw299 LAll_ok LAll_la yt12_ok gHo_ok rfl (fun G n Qf => yA_n) rfl (fun G n Rr => yA_n) rfl
