/-! 296 Model.isSign (II)Z -/
set_option maxRecDepth 100000 in
def b296 : qCd := [([(3, 1, 0, 0), (3, 0, 2, 0), (24, 26909, 231, 0)], (1, 3, 4, 1, [])),
  ([(3, 0, 2, 0), (25, 26909, 27115, 0), (3, 1, 0, 0), (38, 0, 0, 0), (28, 347, 0, 0), (0, 4, 0, 0)], (1, 1, 4, 2, [])),
  ([(3, 0, 2, 0), (25, 26909, 27121, 0), (3, 1, 0, 0), (38, 0, 0, 0), (28, 350, 0, 0), (3, 2, 0, 0), (21, 0, 0, 0), (23, 0, 0, 0)], (2, 1, 4, 3, [])),
  ([(0, 1, 0, 0)], (0, 0, 5, 0, [])),
  ([(0, 0, 0, 0)], (0, 0, 5, 0, [])),
  ([(34, 223, 0, 0), (34, 231, 0, 0), (35, 347, 0, 0), (35, 349, 0, 0), (35, 350, 0, 0), (38, 0, 0, 0)], (5, 0, 0, 0, [(0, 0), (1, 0)]))]
def p296 : List Nat := [0, 8, 18, 30, 34, 35]
set_option maxRecDepth 100000 in
def d296 : qCt := (3, (([(0, (2, ((26909, []), (0, [])))), (1, (0, ((0, [(0, 1)]), (0, [])))), (2, (0, ((0, [(1, 1)]), (0, []))))], [], ([(223, (0, [(2, 1)])), (231, (0, [(3, 1)]))], [(347, 0), (349, 1), (350, 2)]), (4, [(0, (0, 4097)), (1, (34, 126)), (3, (1, 1025)), (2, (0, 7))], [], 3, [(0, 347), (1, 349), (2, 350)], [], [], [(11, ([0, 1], [(0, []), (0, [(3, 1)]), (0, [(2, 1)])])), (12, ([0, 1], [(0, []), (0, [(3, 1)]), (0, [(2, 1)])])), (17, ([0, 2], [(0, []), (0, [(3, 1)])])), (18, ([0, 2], [(0, []), (0, [(3, 1)])])), (21, ([0, 1], [(0, []), (0, [(3, 1)])]))])), ([([], [(0, ((0, [(4, 1)]), (0, [])))], ([], []), (5, [(4, (0, 0))], [], 3, [], [], [], [(11, ([0, 1], [(0, []), (0, [(3, 1)]), (0, [(2, 1)])])), (12, ([0, 1], [(0, []), (0, [(3, 1)]), (0, [(2, 1)])])), (17, ([0, 2], [(0, []), (0, [(3, 1)])])), (18, ([0, 2], [(0, []), (0, [(3, 1)])])), (21, ([0, 1], [(0, []), (0, [(3, 1)])]))])),
   ([], [(0, ((0, [(4, 1)]), (0, [])))], ([], []), (5, [(4, (1, 1))], [((-1), [(0, (-1)), (3, 1)])], 3, [], [], [], [(11, ([0, 1], [(0, []), (0, [(3, 1)]), (0, [(2, 1)])])), (12, ([0, 1], [(0, []), (0, [(3, 1)]), (0, [(2, 1)])])), (17, ([0, 2], [(0, []), (0, [(3, 1)])])), (18, ([0, 2], [(0, []), (0, [(3, 1)])])), (21, ([0, 1], [(0, []), (0, [(3, 1)])])), (1005, ([0, 2], [(0, [(0, 1)]), (0, [(1, 1)])])), (2, ([0], [(0, [(0, 1)]), (1, [(0, 1)]), (4, [])])), (3, ([0], [(0, [(0, 1)]), (1, [(0, 1)]), (4, [])]))]))], [])))
set_option maxRecDepth 100000 in
def cq296 : qCt := (3, (([(0, (2, ((26909, []), (0, [])))), (1, (0, ((0, [(0, 1)]), (0, [])))), (2, (0, ((0, [(1, 1)]), (0, []))))], [], ([(223, (0, [(2, 1)])), (231, (0, [(3, 1)]))], [(347, 0), (349, 1), (350, 2)]), (4, [(0, (0, 4097)), (1, (34, 126)), (3, (1, 1025)), (2, (0, 7))], [], 3, [(0, 347), (1, 349), (2, 350)], [], [], [(11, ([0, 1], [(0, []), (0, [(3, 1)]), (0, [(2, 1)])])), (12, ([0, 1], [(0, []), (0, [(3, 1)]), (0, [(2, 1)])])), (17, ([0, 2], [(0, []), (0, [(3, 1)])])), (18, ([0, 2], [(0, []), (0, [(3, 1)])])), (21, ([0, 1], [(0, []), (0, [(3, 1)])]))])), ([([], [(0, ((0, [(4, 1)]), (0, [])))], ([], []), (5, [(4, (0, 0))], [], 3, [], [], [], [(11, ([0, 1], [(0, []), (0, [(3, 1)]), (0, [(2, 1)])])), (12, ([0, 1], [(0, []), (0, [(3, 1)]), (0, [(2, 1)])])), (17, ([0, 2], [(0, []), (0, [(3, 1)])])), (18, ([0, 2], [(0, []), (0, [(3, 1)])])), (21, ([0, 1], [(0, []), (0, [(3, 1)])])), (1032, ([0, 2], [(0, [(0, 1)]), (0, [(1, 1)]), (0, [(3, 1)]), (0, [(4, 1)])]))])),
   ([], [(0, ((0, [(4, 1)]), (0, [])))], ([], []), (5, [(4, (1, 1))], [((-1), [(0, (-1)), (3, 1)])], 3, [], [], [], [(11, ([0, 1], [(0, []), (0, [(3, 1)]), (0, [(2, 1)])])), (12, ([0, 1], [(0, []), (0, [(3, 1)]), (0, [(2, 1)])])), (17, ([0, 2], [(0, []), (0, [(3, 1)])])), (18, ([0, 2], [(0, []), (0, [(3, 1)])])), (21, ([0, 1], [(0, []), (0, [(3, 1)])])), (1032, ([0, 2], [(0, [(0, 1)]), (0, [(1, 1)]), (0, [(3, 1)]), (0, [(4, 1)])])), (1005, ([0, 2], [(0, [(0, 1)]), (0, [(1, 1)])])), (2, ([0], [(0, [(0, 1)]), (1, [(0, 1)]), (4, [])])), (3, ([0], [(0, [(0, 1)]), (1, [(0, 1)]), (4, [])]))]))], [])))
def t296 : List qCt := []
def mt296 : yMt := ([], ([], ([], [])))
theorem rc296 : yRc cq296 13454 2 = true := by decide +kernel
set_option maxRecDepth 100000 in
def u296 : qCu := []
set_option maxRecDepth 100000 in
theorem z296 : zchk gAll t296 ruI2 ruJ2 rqL b296 u296 d296 300 [] = true := sorry
def fp_Model_isSign : List Nat := [231, 347, 350]
theorem ag_Model_isSign {s s' : qSg} (hB : ∀ b ∈ fp_Model_isSign, AgB gDet s s' b) (as : List qV) : dm_Model_isSign as s = dm_Model_isSign as s' := by
  unfold dm_Model_isSign
  show zRun gDet (dk_Model_isSign s') s dc_Model_isSign as = zRun gDet (dk_Model_isSign s') s' dc_Model_isSign as
  exact zRun_ag gd_ok.P hB (show dc_Model_isSign.all (fun x => x.1.all (okF gDet fp_Model_isSign)) = true by decide +kernel) as
set_option maxHeartbeats 4000000 in
theorem he_Model_isSign (s : qSg) : ∀ as r a v, CtBeg gAll d296 as s r a → Typed gAll s → dm_Model_isSign (as.map cnV) s = some v → dEv 1032 (([0, 2] : List Nat).map a) (([(0, [(0, 1)]), (0, [(1, 1)]), (0, [(3, 1)])] : List qL).map (qe r)) = some v.2 := by
  intro as r a v hB hT e
  obtain ⟨hlen, ls, hsub, hsat⟩ := hB
  obtain ⟨hls, -, hsc, hav, -⟩ := hsat.now
  have hlen : as.length = 3 := hlen
  match as, hlen with
  | [w0, w1, w2], _ =>
    have x0 := hsub (0, ((2 : Nat), qe r ((26909, []) : qL))) (by rw [hls]; exact List.mem_cons_self)
    cases lsArgs_hd (x0)
    have x1 := hsub (1, ((0 : Nat), qe r ((0, [(0, 1)]) : qL))) (by rw [hls]; exact List.mem_cons_of_mem _ (List.mem_cons_self))
    cases lsArgs_hd (lsArgs_tl (by decide) (by decide) (x1))
    have x2 := hsub (2, ((0 : Nat), qe r ((0, [(1, 1)]) : qL))) (by rw [hls]; exact List.mem_cons_of_mem _ (List.mem_cons_of_mem _ (List.mem_cons_self)))
    cases lsArgs_hd (lsArgs_tl (by decide) (by decide) (lsArgs_tl (by decide) (by decide) (x2)))
    have e1 : dm_Model_isSign [((2 : Nat), qe r ((26909, []) : qL)), ((0 : Nat), qe r ((0, [(0, 1)]) : qL)), ((0 : Nat), qe r ((0, [(1, 1)]) : qL))] s = some v := by
      unfold dm_Model_isSign at e ⊢
      rw [zRun_cn (map_cn _)] at e
      exact e
    have e2 := ag_Model_isSign (s := s) (s' := dSto [(347, dF (([0, 2] : List Nat).map a) 0), (350, dF (([0, 2] : List Nat).map a) 1)] [(231, dZ (([(0, [(0, 1)]), (0, [(1, 1)]), (0, [(3, 1)])] : List qL).map (qe r)) 2)]) (fun b hb => by
      rcases List.mem_cons.mp hb with rfl | hb
      · exact yFld (by decide +kernel) rfl rfl (hsc (231, (0, [(3, 1)])) (List.mem_cons_of_mem _ (List.mem_cons_self)))
      rcases List.mem_cons.mp hb with rfl | hb
      · exact yArr rfl (hav (347, 0) (List.mem_cons_self))
      rcases List.mem_cons.mp hb with rfl | hb
      · exact yArr rfl (hav (350, 2) (List.mem_cons_of_mem _ (List.mem_cons_of_mem _ (List.mem_cons_self))))
      cases hb) [((2 : Nat), qe r ((26909, []) : qL)), ((0 : Nat), qe r ((0, [(0, 1)]) : qL)), ((0 : Nat), qe r ((0, [(1, 1)]) : qL))]
    rw [e2] at e1
    exact congrArg (fun o => o.map (fun v => v.2)) e1
theorem hd_Model_isSign : ∀ s, Typed gAll s → HC gAll t296 (dk_Model_isSign s) s := by
  intro s hT j C hC
  match j, hC with
  | j + 0, hC => cases (show none = some C from hC)
set_option maxHeartbeats 4000000 in
theorem dC_Model_isSign (s : qSg) (hT : Typed gAll s) : DetC gAll cq296 s (fun as => dm_Model_isSign as s) := detC_of (p := 1032) (t := 0) (vs := [0, 2]) (zi := [(0, [(0, 1)]), (0, [(1, 1)]), (0, [(3, 1)])]) (Cd := d296) rfl rfl rfl (⟨⟨_, rfl, ⟨_, rfl, (fun z hz => by
    rcases List.mem_cons.mp hz with rfl | hz
    · exact Or.inl (List.mem_cons_self)
    rcases List.mem_cons.mp hz with rfl | hz
    · exact Or.inl (List.mem_cons_of_mem _ (List.mem_cons_self))
    rcases List.mem_cons.mp hz with rfl | hz
    · exact Or.inl (List.mem_cons_of_mem _ (List.mem_cons_of_mem _ (List.mem_cons_self)))
    rcases List.mem_cons.mp hz with rfl | hz
    · exact Or.inl (List.mem_cons_of_mem _ (List.mem_cons_of_mem _ (List.mem_cons_of_mem _ (List.mem_cons_self))))
    rcases List.mem_cons.mp hz with rfl | hz
    · exact Or.inl (List.mem_cons_of_mem _ (List.mem_cons_of_mem _ (List.mem_cons_of_mem _ (List.mem_cons_of_mem _ (List.mem_cons_self)))))
    rcases List.mem_cons.mp hz with rfl | hz
    · exact Or.inr rfl
    cases hz), List.mem_cons_of_mem _ (List.mem_cons_of_mem _ (List.mem_cons_of_mem _ (List.mem_cons_of_mem _ (List.mem_cons_of_mem _ (List.mem_cons_self)))))⟩, Nat.le_of_ble_eq_true rfl, Nat.le_of_ble_eq_true rfl⟩, ⟨⟨_, rfl, ⟨_, rfl, (fun z hz => by
    rcases List.mem_cons.mp hz with rfl | hz
    · exact Or.inl (List.mem_cons_self)
    rcases List.mem_cons.mp hz with rfl | hz
    · exact Or.inl (List.mem_cons_of_mem _ (List.mem_cons_self))
    rcases List.mem_cons.mp hz with rfl | hz
    · exact Or.inl (List.mem_cons_of_mem _ (List.mem_cons_of_mem _ (List.mem_cons_self)))
    rcases List.mem_cons.mp hz with rfl | hz
    · exact Or.inl (List.mem_cons_of_mem _ (List.mem_cons_of_mem _ (List.mem_cons_of_mem _ (List.mem_cons_self))))
    rcases List.mem_cons.mp hz with rfl | hz
    · exact Or.inl (List.mem_cons_of_mem _ (List.mem_cons_of_mem _ (List.mem_cons_of_mem _ (List.mem_cons_of_mem _ (List.mem_cons_self)))))
    rcases List.mem_cons.mp hz with rfl | hz
    · exact Or.inr rfl
    rcases List.mem_cons.mp hz with rfl | hz
    · exact Or.inl (List.mem_cons_of_mem _ (List.mem_cons_of_mem _ (List.mem_cons_of_mem _ (List.mem_cons_of_mem _ (List.mem_cons_of_mem _ (List.mem_cons_self))))))
    rcases List.mem_cons.mp hz with rfl | hz
    · exact Or.inl (List.mem_cons_of_mem _ (List.mem_cons_of_mem _ (List.mem_cons_of_mem _ (List.mem_cons_of_mem _ (List.mem_cons_of_mem _ (List.mem_cons_of_mem _ (List.mem_cons_self)))))))
    rcases List.mem_cons.mp hz with rfl | hz
    · exact Or.inl (List.mem_cons_of_mem _ (List.mem_cons_of_mem _ (List.mem_cons_of_mem _ (List.mem_cons_of_mem _ (List.mem_cons_of_mem _ (List.mem_cons_of_mem _ (List.mem_cons_of_mem _ (List.mem_cons_self))))))))
    cases hz), List.mem_cons_of_mem _ (List.mem_cons_of_mem _ (List.mem_cons_of_mem _ (List.mem_cons_of_mem _ (List.mem_cons_of_mem _ (List.mem_cons_self)))))⟩, Nat.le_of_ble_eq_true rfl, Nat.le_of_ble_eq_true rfl⟩, trivial⟩⟩) (by decide) (by decide +kernel) (by decide +kernel)
  (fun fs zs z h1 h2 => by
    rw [PQ_c (show fTab[1032]? = none by decide +kernel)]
    match fs, zs, h1, h2 with
    | [f0, f1], [z0, z1, z2], _, _ => exact Iff.rfl) (yDet_b gAll_tag z296 gd_ok (by decide +kernel) (eqCd_ok (by decide +kernel)) hd_Model_isSign s) (he_Model_isSign s)
theorem yr296 : yRun gAll t296 b296 cq296 := yRun_d (dc := dc_Model_isSign) (cl := dk_Model_isSign) gAll_tag z296 gd_ok (by decide +kernel) (eqCd_ok (by decide +kernel)) hd_Model_isSign rfl rfl (fun s hT => dC_Model_isSign s hT)
theorem zw296 : zwid cq296.2.1.1 cq296.1 0 3 = true := by decide +kernel
set_option maxRecDepth 100000 in
theorem yw296 : yRows gAll LAll yt12 mt296 gHo 3 3 (zby cX13_isSign) p296 b296 p296 = true := by decide +kernel
set_option maxRecDepth 100000 in
theorem m296 (l : Launch) : kMet gAll LAll vwCl rFo rZs rRs rNs rTs l yX13_isSign cX13_isSign 3 (some .boolean) 0 0 cq296 := kmet_y2 (rt := 3) (by decide +kernel) yr296 zw296 rfl yw296 LAll_ok LAll_la yt12_ok gHo_ok rfl (fun G n Qf => yA_n) rfl (fun G n Rr => yA_n) rfl
/-! 297 Model.isFront (I)Z -/
set_option maxRecDepth 100000 in
def b297 : qCd := [([(3, 0, 2, 0), (3, 1, 0, 0), (0, 45, 0, 0), (34, 223, 0, 0), (34, 231, 0, 0), (35, 347, 0, 0), (35, 349, 0, 0), (35, 350, 0, 0), (38, 0, 0, 0), (33, 0, 0, 0)], (2, 1, 3, 1, [])),
  ([(3, 0, 2, 0), (3, 1, 0, 0), (0, 126, 0, 0), (34, 223, 0, 0), (34, 231, 0, 0), (35, 347, 0, 0), (35, 349, 0, 0), (35, 350, 0, 0), (38, 0, 0, 0), (33, 0, 0, 0)], (2, 1, 3, 2, [])),
  ([(3, 0, 2, 0), (3, 1, 0, 0), (0, 43, 0, 0), (34, 223, 0, 0), (34, 231, 0, 0), (35, 347, 0, 0), (35, 349, 0, 0), (35, 350, 0, 0), (38, 0, 0, 0), (33, 0, 0, 0)], (2, 0, 4, 3, [])),
  ([(0, 1, 0, 0)], (0, 0, 5, 0, [])),
  ([(0, 0, 0, 0)], (0, 0, 5, 0, [])),
  ([(34, 223, 0, 0), (34, 231, 0, 0), (35, 347, 0, 0), (35, 349, 0, 0), (35, 350, 0, 0), (38, 0, 0, 0)], (5, 0, 0, 0, [(0, 0), (1, 0)]))]
def p297 : List Nat := [0, 10, 20, 30, 34, 35]
set_option maxRecDepth 100000 in
def d297 : qCt := (2, (([(0, (2, ((26909, []), (0, [])))), (1, (0, ((0, [(0, 1)]), (0, []))))], [], ([(223, (0, [(1, 1)])), (231, (0, [(2, 1)]))], [(347, 0), (349, 1), (350, 2)]), (3, [(0, (0, 1024)), (2, (1, 1025)), (1, (0, 7))], [], 3, [(0, 347), (1, 349), (2, 350)], [], [], [(11, ([0, 1], [(0, []), (0, [(2, 1)]), (0, [(1, 1)])])), (12, ([0, 1], [(0, []), (0, [(2, 1)]), (0, [(1, 1)])])), (17, ([0, 2], [(0, []), (0, [(2, 1)])])), (18, ([0, 2], [(0, []), (0, [(2, 1)])])), (21, ([0, 1], [(0, []), (0, [(2, 1)])]))])), ([([], [(0, ((0, [(3, 1)]), (0, [])))], ([], []), (4, [(3, (1, 1))], [], 3, [], [], [], [(11, ([0, 1], [(0, []), (0, [(2, 1)]), (0, [(1, 1)])])), (12, ([0, 1], [(0, []), (0, [(2, 1)]), (0, [(1, 1)])])), (17, ([0, 2], [(0, []), (0, [(2, 1)])])), (18, ([0, 2], [(0, []), (0, [(2, 1)])])), (21, ([0, 1], [(0, []), (0, [(2, 1)])])), (1006, ([0, 2], [(0, [(0, 1)])]))])),
   ([], [(0, ((0, [(3, 1)]), (0, [])))], ([], []), (4, [(3, (0, 0))], [], 3, [], [], [], [(11, ([0, 1], [(0, []), (0, [(2, 1)]), (0, [(1, 1)])])), (12, ([0, 1], [(0, []), (0, [(2, 1)]), (0, [(1, 1)])])), (17, ([0, 2], [(0, []), (0, [(2, 1)])])), (18, ([0, 2], [(0, []), (0, [(2, 1)])])), (21, ([0, 1], [(0, []), (0, [(2, 1)])]))]))], [])))
set_option maxRecDepth 100000 in
def cq297 : qCt := (2, (([(0, (2, ((26909, []), (0, [])))), (1, (0, ((0, [(0, 1)]), (0, []))))], [], ([(223, (0, [(1, 1)])), (231, (0, [(2, 1)]))], [(347, 0), (349, 1), (350, 2)]), (3, [(0, (0, 1024)), (2, (1, 1025)), (1, (0, 7))], [], 3, [(0, 347), (1, 349), (2, 350)], [], [], [(11, ([0, 1], [(0, []), (0, [(2, 1)]), (0, [(1, 1)])])), (12, ([0, 1], [(0, []), (0, [(2, 1)]), (0, [(1, 1)])])), (17, ([0, 2], [(0, []), (0, [(2, 1)])])), (18, ([0, 2], [(0, []), (0, [(2, 1)])])), (21, ([0, 1], [(0, []), (0, [(2, 1)])]))])), ([([], [(0, ((0, [(3, 1)]), (0, [])))], ([], []), (4, [(3, (1, 1))], [], 3, [], [], [], [(11, ([0, 1], [(0, []), (0, [(2, 1)]), (0, [(1, 1)])])), (12, ([0, 1], [(0, []), (0, [(2, 1)]), (0, [(1, 1)])])), (17, ([0, 2], [(0, []), (0, [(2, 1)])])), (18, ([0, 2], [(0, []), (0, [(2, 1)])])), (21, ([0, 1], [(0, []), (0, [(2, 1)])])), (1168, ([0, 2], [(0, [(0, 1)]), (0, [(2, 1)]), (0, [(3, 1)])])), (1006, ([0, 2], [(0, [(0, 1)])]))])),
   ([], [(0, ((0, [(3, 1)]), (0, [])))], ([], []), (4, [(3, (0, 0))], [], 3, [], [], [], [(11, ([0, 1], [(0, []), (0, [(2, 1)]), (0, [(1, 1)])])), (12, ([0, 1], [(0, []), (0, [(2, 1)]), (0, [(1, 1)])])), (17, ([0, 2], [(0, []), (0, [(2, 1)])])), (18, ([0, 2], [(0, []), (0, [(2, 1)])])), (21, ([0, 1], [(0, []), (0, [(2, 1)])])), (1168, ([0, 2], [(0, [(0, 1)]), (0, [(2, 1)]), (0, [(3, 1)])]))]))], [])))
def t297 : List qCt := [cq296]
theorem hdV_X13_isSign : yX13_isSign.cls = RX13 ∧ yX13_isSign.cls ≠ "java/lang/invoke/MethodHandle" ∧ yX13_isSign.cls ≠ "java/lang/invoke/VarHandle" ∧ (parseMethodDescriptor yX13_isSign.desc).map (fun d => d.parameters.length) = some 2 := by decide +kernel
theorem st289 (l : Launch) {G : rGm} {cc : ByteArray} {nL n fr lo : Nat} {ret : Option FieldType} {Qf : kQf} (hf : 1 ≤ fr) (hlo : 22 ≤ lo) : ySite gAll LAll vwCl rFo rZs rRs rNs rTs G l cc nL RX13 ret fr lo n Qf 182 797 cq296 := ys_V 2 13454 15 rc296 lo_13454 kc15 (m296 l) kGood kw2351 kw2352 kw2353 kw315 kw2576 hdV_X13_isSign hf hlo
def mt297 : yMt := ([(182, (797, 0))], ([], ([], [])))
theorem rc297 : yRc cq297 13454 1 = true := by decide +kernel
set_option maxRecDepth 100000 in
def u297 : qCu := []
set_option maxRecDepth 100000 in
theorem z297 : zchk gAll t297 ruI2 ruJ2 rqL b297 u297 d297 300 [] = true := sorry
def fp_Model_isFront : List Nat := [231, 347, 350]
theorem ag_Model_isFront {s s' : qSg} (hB : ∀ b ∈ fp_Model_isFront, AgB gDet s s' b) (as : List qV) : dm_Model_isFront as s = dm_Model_isFront as s' := by
  unfold dm_Model_isFront
  have e : dk_Model_isFront s = dk_Model_isFront s' := by
    funext i
    match i with
    | 0 => exact congrArg (fun f => some (3, f)) (funext fun as => ag_Model_isSign (fun b hb => hB b ((show ∀ b ∈ fp_Model_isSign, b ∈ fp_Model_isFront by decide +kernel) b hb)) as)
    | i + 1 => rfl
  rw [e]
  exact zRun_ag gd_ok.P hB (show dc_Model_isFront.all (fun x => x.1.all (okF gDet fp_Model_isFront)) = true by decide +kernel) as
set_option maxHeartbeats 4000000 in
theorem he_Model_isFront (s : qSg) : ∀ as r a v, CtBeg gAll d297 as s r a → Typed gAll s → dm_Model_isFront (as.map cnV) s = some v → dEv 1168 (([0, 2] : List Nat).map a) (([(0, [(0, 1)]), (0, [(2, 1)])] : List qL).map (qe r)) = some v.2 := by
  intro as r a v hB hT e
  obtain ⟨hlen, ls, hsub, hsat⟩ := hB
  obtain ⟨hls, -, hsc, hav, -⟩ := hsat.now
  have hlen : as.length = 2 := hlen
  match as, hlen with
  | [w0, w1], _ =>
    have x0 := hsub (0, ((2 : Nat), qe r ((26909, []) : qL))) (by rw [hls]; exact List.mem_cons_self)
    cases lsArgs_hd (x0)
    have x1 := hsub (1, ((0 : Nat), qe r ((0, [(0, 1)]) : qL))) (by rw [hls]; exact List.mem_cons_of_mem _ (List.mem_cons_self))
    cases lsArgs_hd (lsArgs_tl (by decide) (by decide) (x1))
    have e1 : dm_Model_isFront [((2 : Nat), qe r ((26909, []) : qL)), ((0 : Nat), qe r ((0, [(0, 1)]) : qL))] s = some v := by
      unfold dm_Model_isFront at e ⊢
      rw [zRun_cn (map_cn _)] at e
      exact e
    have e2 := ag_Model_isFront (s := s) (s' := dSto [(347, dF (([0, 2] : List Nat).map a) 0), (350, dF (([0, 2] : List Nat).map a) 1)] [(231, dZ (([(0, [(0, 1)]), (0, [(2, 1)])] : List qL).map (qe r)) 1)]) (fun b hb => by
      rcases List.mem_cons.mp hb with rfl | hb
      · exact yFld (by decide +kernel) rfl rfl (hsc (231, (0, [(2, 1)])) (List.mem_cons_of_mem _ (List.mem_cons_self)))
      rcases List.mem_cons.mp hb with rfl | hb
      · exact yArr rfl (hav (347, 0) (List.mem_cons_self))
      rcases List.mem_cons.mp hb with rfl | hb
      · exact yArr rfl (hav (350, 2) (List.mem_cons_of_mem _ (List.mem_cons_of_mem _ (List.mem_cons_self))))
      cases hb) [((2 : Nat), qe r ((26909, []) : qL)), ((0 : Nat), qe r ((0, [(0, 1)]) : qL))]
    rw [e2] at e1
    exact congrArg (fun o => o.map (fun v => v.2)) e1
theorem hd_Model_isFront : ∀ s, Typed gAll s → HC gAll t297 (dk_Model_isFront s) s := by
  intro s hT j C hC
  match j, hC with
  | 0, hC =>
    cases (show some cq296 = some C from hC)
    exact ⟨_, rfl, rfl, dC_Model_isSign s hT⟩
  | j + 1, hC => cases (show none = some C from hC)
set_option maxHeartbeats 4000000 in
theorem dC_Model_isFront (s : qSg) (hT : Typed gAll s) : DetC gAll cq297 s (fun as => dm_Model_isFront as s) := detC_of (p := 1168) (t := 0) (vs := [0, 2]) (zi := [(0, [(0, 1)]), (0, [(2, 1)])]) (Cd := d297) rfl rfl rfl (⟨⟨_, rfl, ⟨_, rfl, (fun z hz => by
    rcases List.mem_cons.mp hz with rfl | hz
    · exact Or.inl (List.mem_cons_self)
    rcases List.mem_cons.mp hz with rfl | hz
    · exact Or.inl (List.mem_cons_of_mem _ (List.mem_cons_self))
    rcases List.mem_cons.mp hz with rfl | hz
    · exact Or.inl (List.mem_cons_of_mem _ (List.mem_cons_of_mem _ (List.mem_cons_self)))
    rcases List.mem_cons.mp hz with rfl | hz
    · exact Or.inl (List.mem_cons_of_mem _ (List.mem_cons_of_mem _ (List.mem_cons_of_mem _ (List.mem_cons_self))))
    rcases List.mem_cons.mp hz with rfl | hz
    · exact Or.inl (List.mem_cons_of_mem _ (List.mem_cons_of_mem _ (List.mem_cons_of_mem _ (List.mem_cons_of_mem _ (List.mem_cons_self)))))
    rcases List.mem_cons.mp hz with rfl | hz
    · exact Or.inr rfl
    rcases List.mem_cons.mp hz with rfl | hz
    · exact Or.inl (List.mem_cons_of_mem _ (List.mem_cons_of_mem _ (List.mem_cons_of_mem _ (List.mem_cons_of_mem _ (List.mem_cons_of_mem _ (List.mem_cons_self))))))
    cases hz), List.mem_cons_of_mem _ (List.mem_cons_of_mem _ (List.mem_cons_of_mem _ (List.mem_cons_of_mem _ (List.mem_cons_of_mem _ (List.mem_cons_self)))))⟩, Nat.le_of_ble_eq_true rfl, Nat.le_of_ble_eq_true rfl⟩, ⟨⟨_, rfl, ⟨_, rfl, (fun z hz => by
    rcases List.mem_cons.mp hz with rfl | hz
    · exact Or.inl (List.mem_cons_self)
    rcases List.mem_cons.mp hz with rfl | hz
    · exact Or.inl (List.mem_cons_of_mem _ (List.mem_cons_self))
    rcases List.mem_cons.mp hz with rfl | hz
    · exact Or.inl (List.mem_cons_of_mem _ (List.mem_cons_of_mem _ (List.mem_cons_self)))
    rcases List.mem_cons.mp hz with rfl | hz
    · exact Or.inl (List.mem_cons_of_mem _ (List.mem_cons_of_mem _ (List.mem_cons_of_mem _ (List.mem_cons_self))))
    rcases List.mem_cons.mp hz with rfl | hz
    · exact Or.inl (List.mem_cons_of_mem _ (List.mem_cons_of_mem _ (List.mem_cons_of_mem _ (List.mem_cons_of_mem _ (List.mem_cons_self)))))
    rcases List.mem_cons.mp hz with rfl | hz
    · exact Or.inr rfl
    cases hz), List.mem_cons_of_mem _ (List.mem_cons_of_mem _ (List.mem_cons_of_mem _ (List.mem_cons_of_mem _ (List.mem_cons_of_mem _ (List.mem_cons_self)))))⟩, Nat.le_of_ble_eq_true rfl, Nat.le_of_ble_eq_true rfl⟩, trivial⟩⟩) (by decide) (by decide +kernel) (by decide +kernel)
  (fun fs zs z h1 h2 => by
    rw [PQ_c (show fTab[1168]? = none by decide +kernel)]
    match fs, zs, h1, h2 with
    | [f0, f1], [z0, z1], _, _ => exact Iff.rfl) (yDet_b gAll_tag z297 gd_ok (by decide +kernel) (eqCd_ok (by decide +kernel)) hd_Model_isFront s) (he_Model_isFront s)
theorem yr297 : yRun gAll t297 b297 cq297 := yRun_d (dc := dc_Model_isFront) (cl := dk_Model_isFront) gAll_tag z297 gd_ok (by decide +kernel) (eqCd_ok (by decide +kernel)) hd_Model_isFront rfl rfl (fun s hT => dC_Model_isFront s hT)
theorem zw297 : zwid cq297.2.1.1 cq297.1 0 2 = true := by decide +kernel
set_option maxRecDepth 100000 in
theorem yw297 : yRows gAll LAll yt12 mt297 gHo 2 3 (zby cX13_isFront) p297 b297 p297 = true := by decide +kernel
set_option maxRecDepth 100000 in
theorem m297 (l : Launch) : kMet gAll LAll vwCl rFo rZs rRs rNs rTs l yX13_isFront cX13_isFront 2 (some .boolean) 1 22 cq297 := kmet_y2 (rt := 3) (by decide +kernel) yr297 zw297 rfl yw297 LAll_ok LAll_la yt12_ok gHo_ok rfl (fun G n Qf => List.forall_mem_cons.mpr ⟨⟨cq296, rfl, st289 l (by decide) (by decide)⟩, yA_n⟩) rfl (fun G n Rr => yA_n) rfl
