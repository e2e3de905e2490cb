/-! METHODS, CALLEES FIRST (written by wip/p2/genmeth.py) -/
/-! 294 Model.fail (I)V -/
theorem hdV_X13_ownLine : yX13_ownLine.cls = RX13 ∧ yX13_ownLine.cls ≠ "java/lang/invoke/MethodHandle" ∧ yX13_ownLine.cls ≠ "java/lang/invoke/VarHandle" ∧ (parseMethodDescriptor yX13_ownLine.desc).map (fun d => d.parameters.length) = some 0 := by decide +kernel
theorem st288 (l : Launch) {G : rGm} {cc : ByteArray} {nL n fr lo : Nat} {ret : Option FieldType} {Qf : kQf} (hf : 1 ≤ fr) (hlo : 22 ≤ lo) : ySite gAll LAll vwCl rFo rZs rRs rNs rTs G l cc nL RX13 ret fr lo n Qf 182 635 cq293 := ys_V 0 13454 15 rc293 lo_13454 kc15 (m293 l) kGood kw2440 kw2441 kw2442 kw315 kw2667 hdV_X13_ownLine hf hlo
def mt294 : yMt := ([(182, (635, 0))], ([], ([], [])))
theorem rc294 : yRc cq294 13454 1 = true := by decide +kernel
theorem yr294 : yRun gAll t294 b294 cq294 := yRun_z gAll_tag ruI2_RtI ruJ2_RtJ rqL_ok z294
theorem zw294 : zwid cq294.2.1.1 cq294.1 0 2 = true := by decide +kernel
set_option maxRecDepth 100000 in
theorem yw294 : yRows gAll LAll yt12 mt294 gHo 2 0 (zby cX13_fail) p294 b294 p294 = true := by decide +kernel
set_option maxRecDepth 100000 in
theorem m294 (l : Launch) : kMet gAll LAll vwCl rFo rZs rRs rNs rTs l yX13_fail cX13_fail 2 none 1 22 cq294 := kmet_y2 (rt := 0) (by decide +kernel) yr294 zw294 rfl yw294 LAll_ok LAll_la yt12_ok gHo_ok rfl (fun G n Qf => List.forall_mem_cons.mpr ⟨⟨cq293, rfl, st288 l (by decide) (by decide)⟩, yA_n⟩) rfl (fun G n Rr => yA_n) rfl
/-! 295 Model.isConstantValue ()Z -/
def mt295 : yMt := ([], ([], ([], [])))
theorem rc295 : yRc cq295 13454 0 = true := by decide +kernel
theorem yr295 : yRun gAll t295 b295 cq295 := yRun_z gAll_tag ruI2_RtI ruJ2_RtJ rqL_ok z295
theorem zw295 : zwid cq295.2.1.1 cq295.1 0 1 = true := by decide +kernel
set_option maxRecDepth 100000 in
theorem yw295 : yRows gAll LAll yt12 mt295 gHo 1 3 (zby cX13_isConstantValue) p295 b295 p295 = true := by decide +kernel
set_option maxRecDepth 100000 in
theorem m295 (l : Launch) : kMet gAll LAll vwCl rFo rZs rRs rNs rTs l yX13_isConstantValue cX13_isConstantValue 1 (some .boolean) 0 0 cq295 := kmet_y2 (rt := 3) (by decide +kernel) yr295 zw295 rfl yw295 LAll_ok LAll_la yt12_ok gHo_ok rfl (fun G n Qf => yA_n) rfl (fun G n Rr => yA_n) rfl
/-! 296 Model.isSign (II)Z -/
def mt296 : yMt := ([], ([], ([], [])))
theorem rc296 : yRc cq296 13454 2 = true := by decide +kernel
def fp_Model_isSign : List Nat := [231, 347, 350]
theorem ag_Model_isSign {s s' : qSg} (hB : ∀ b ∈ fp_Model_isSign, AgB gDet s s' b) (as : List qV) : dm_Model_isSign as s = dm_Model_isSign as s' := by
  unfold dm_Model_isSign
  show zRun gDet (dk_Model_isSign s') s dc_Model_isSign as = zRun gDet (dk_Model_isSign s') s' dc_Model_isSign as
  exact zRun_ag gd_ok.P hB (show dc_Model_isSign.all (fun x => x.1.all (okF gDet fp_Model_isSign)) = true by decide +kernel) as
set_option maxHeartbeats 4000000 in
theorem he_Model_isSign (s : qSg) : ∀ as r a v, CtBeg gAll d296 as s r a → Typed gAll s → dm_Model_isSign (as.map cnV) s = some v → dEv 1032 (([0, 2] : List Nat).map a) (([(0, [(0, 1)]), (0, [(1, 1)]), (0, [(3, 1)])] : List qL).map (qe r)) = some v.2 := by
  intro as r a v hB hT e
  obtain ⟨hlen, ls, hsub, hsat⟩ := hB
  obtain ⟨hls, -, hsc, hav, -⟩ := hsat.now
  have hlen : as.length = 3 := hlen
  match as, hlen with
  | [w0, w1, w2], _ =>
    have x0 := hsub (0, ((2 : Nat), qe r ((26909, []) : qL))) (by rw [hls]; exact List.mem_cons_self)
    cases lsArgs_hd (x0)
    have x1 := hsub (1, ((0 : Nat), qe r ((0, [(0, 1)]) : qL))) (by rw [hls]; exact List.mem_cons_of_mem _ (List.mem_cons_self))
    cases lsArgs_hd (lsArgs_tl (by decide) (by decide) (x1))
    have x2 := hsub (2, ((0 : Nat), qe r ((0, [(1, 1)]) : qL))) (by rw [hls]; exact List.mem_cons_of_mem _ (List.mem_cons_of_mem _ (List.mem_cons_self)))
    cases lsArgs_hd (lsArgs_tl (by decide) (by decide) (lsArgs_tl (by decide) (by decide) (x2)))
    have e1 : dm_Model_isSign [((2 : Nat), qe r ((26909, []) : qL)), ((0 : Nat), qe r ((0, [(0, 1)]) : qL)), ((0 : Nat), qe r ((0, [(1, 1)]) : qL))] s = some v := by
      unfold dm_Model_isSign at e ⊢
      rw [zRun_cn (map_cn _)] at e
      exact e
    have e2 := ag_Model_isSign (s := s) (s' := dSto [(347, dF (([0, 2] : List Nat).map a) 0), (350, dF (([0, 2] : List Nat).map a) 1)] [(231, dZ (([(0, [(0, 1)]), (0, [(1, 1)]), (0, [(3, 1)])] : List qL).map (qe r)) 2)]) (fun b hb => by
      rcases List.mem_cons.mp hb with rfl | hb
      · exact yFld (by decide +kernel) rfl rfl (hsc (231, (0, [(3, 1)])) (List.mem_cons_of_mem _ (List.mem_cons_self)))
      rcases List.mem_cons.mp hb with rfl | hb
      · exact yArr rfl (hav (347, 0) (List.mem_cons_self))
      rcases List.mem_cons.mp hb with rfl | hb
      · exact yArr rfl (hav (350, 2) (List.mem_cons_of_mem _ (List.mem_cons_of_mem _ (List.mem_cons_self))))
      cases hb) [((2 : Nat), qe r ((26909, []) : qL)), ((0 : Nat), qe r ((0, [(0, 1)]) : qL)), ((0 : Nat), qe r ((0, [(1, 1)]) : qL))]
    rw [e2] at e1
    exact congrArg (fun o => o.map (fun v => v.2)) e1
theorem hd_Model_isSign : ∀ s, Typed gAll s → HC gAll t296 (dk_Model_isSign s) s := by
  intro s hT j C hC
  match j, hC with
  | j + 0, hC => cases (show none = some C from hC)
set_option maxHeartbeats 4000000 in
theorem dC_Model_isSign (s : qSg) (hT : Typed gAll s) : DetC gAll cq296 s (fun as => dm_Model_isSign as s) := detC_of (p := 1032) (t := 0) (vs := [0, 2]) (zi := [(0, [(0, 1)]), (0, [(1, 1)]), (0, [(3, 1)])]) (Cd := d296) rfl rfl rfl (⟨⟨_, rfl, ⟨_, rfl, (fun z hz => by
    rcases List.mem_cons.mp hz with rfl | hz
    · exact Or.inl (List.mem_cons_self)
    rcases List.mem_cons.mp hz with rfl | hz
    · exact Or.inl (List.mem_cons_of_mem _ (List.mem_cons_self))
    rcases List.mem_cons.mp hz with rfl | hz
    · exact Or.inl (List.mem_cons_of_mem _ (List.mem_cons_of_mem _ (List.mem_cons_self)))
    rcases List.mem_cons.mp hz with rfl | hz
    · exact Or.inl (List.mem_cons_of_mem _ (List.mem_cons_of_mem _ (List.mem_cons_of_mem _ (List.mem_cons_self))))
    rcases List.mem_cons.mp hz with rfl | hz
    · exact Or.inl (List.mem_cons_of_mem _ (List.mem_cons_of_mem _ (List.mem_cons_of_mem _ (List.mem_cons_of_mem _ (List.mem_cons_self)))))
    rcases List.mem_cons.mp hz with rfl | hz
    · exact Or.inr rfl
    cases hz), List.mem_cons_of_mem _ (List.mem_cons_of_mem _ (List.mem_cons_of_mem _ (List.mem_cons_of_mem _ (List.mem_cons_of_mem _ (List.mem_cons_self)))))⟩, Nat.le_of_ble_eq_true rfl, Nat.le_of_ble_eq_true rfl⟩, ⟨⟨_, rfl, ⟨_, rfl, (fun z hz => by
    rcases List.mem_cons.mp hz with rfl | hz
    · exact Or.inl (List.mem_cons_self)
    rcases List.mem_cons.mp hz with rfl | hz
    · exact Or.inl (List.mem_cons_of_mem _ (List.mem_cons_self))
    rcases List.mem_cons.mp hz with rfl | hz
    · exact Or.inl (List.mem_cons_of_mem _ (List.mem_cons_of_mem _ (List.mem_cons_self)))
    rcases List.mem_cons.mp hz with rfl | hz
    · exact Or.inl (List.mem_cons_of_mem _ (List.mem_cons_of_mem _ (List.mem_cons_of_mem _ (List.mem_cons_self))))
    rcases List.mem_cons.mp hz with rfl | hz
    · exact Or.inl (List.mem_cons_of_mem _ (List.mem_cons_of_mem _ (List.mem_cons_of_mem _ (List.mem_cons_of_mem _ (List.mem_cons_self)))))
    rcases List.mem_cons.mp hz with rfl | hz
    · exact Or.inr rfl
    rcases List.mem_cons.mp hz with rfl | hz
    · exact Or.inl (List.mem_cons_of_mem _ (List.mem_cons_of_mem _ (List.mem_cons_of_mem _ (List.mem_cons_of_mem _ (List.mem_cons_of_mem _ (List.mem_cons_self))))))
    rcases List.mem_cons.mp hz with rfl | hz
    · exact Or.inl (List.mem_cons_of_mem _ (List.mem_cons_of_mem _ (List.mem_cons_of_mem _ (List.mem_cons_of_mem _ (List.mem_cons_of_mem _ (List.mem_cons_of_mem _ (List.mem_cons_self)))))))
    rcases List.mem_cons.mp hz with rfl | hz
    · exact Or.inl (List.mem_cons_of_mem _ (List.mem_cons_of_mem _ (List.mem_cons_of_mem _ (List.mem_cons_of_mem _ (List.mem_cons_of_mem _ (List.mem_cons_of_mem _ (List.mem_cons_of_mem _ (List.mem_cons_self))))))))
    cases hz), List.mem_cons_of_mem _ (List.mem_cons_of_mem _ (List.mem_cons_of_mem _ (List.mem_cons_of_mem _ (List.mem_cons_of_mem _ (List.mem_cons_self)))))⟩, Nat.le_of_ble_eq_true rfl, Nat.le_of_ble_eq_true rfl⟩, trivial⟩⟩) (by decide) (by decide +kernel) (by decide +kernel)
  (fun fs zs z h1 h2 => by
    rw [PQ_c (show fTab[1032]? = none by decide +kernel)]
    match fs, zs, h1, h2 with
    | [f0, f1], [z0, z1, z2], _, _ => exact Iff.rfl) (yDet_b gAll_tag z296 gd_ok (by decide +kernel) (eqCd_ok (by decide +kernel)) hd_Model_isSign s) (he_Model_isSign s)
theorem yr296 : yRun gAll t296 b296 cq296 := yRun_d (dc := dc_Model_isSign) (cl := dk_Model_isSign) gAll_tag z296 gd_ok (by decide +kernel) (eqCd_ok (by decide +kernel)) hd_Model_isSign rfl rfl (fun s hT => dC_Model_isSign s hT)
theorem zw296 : zwid cq296.2.1.1 cq296.1 0 3 = true := by decide +kernel
set_option maxRecDepth 100000 in
theorem yw296 : yRows gAll LAll yt12 mt296 gHo 3 3 (zby cX13_isSign) p296 b296 p296 = true := by decide +kernel
set_option maxRecDepth 100000 in
theorem m296 (l : Launch) : kMet gAll LAll vwCl rFo rZs rRs rNs rTs l yX13_isSign cX13_isSign 3 (some .boolean) 0 0 cq296 := kmet_y2 (rt := 3) (by decide +kernel) yr296 zw296 rfl yw296 LAll_ok LAll_la yt12_ok gHo_ok rfl (fun G n Qf => yA_n) rfl (fun G n Rr => yA_n) rfl
/-! 297 Model.isFront (I)Z -/
theorem hdV_X13_isSign : yX13_isSign.cls = RX13 ∧ yX13_isSign.cls ≠ "java/lang/invoke/MethodHandle" ∧ yX13_isSign.cls ≠ "java/lang/invoke/VarHandle" ∧ (parseMethodDescriptor yX13_isSign.desc).map (fun d => d.parameters.length) = some 2 := by decide +kernel
theorem st289 (l : Launch) {G : rGm} {cc : ByteArray} {nL n fr lo : Nat} {ret : Option FieldType} {Qf : kQf} (hf : 1 ≤ fr) (hlo : 22 ≤ lo) : ySite gAll LAll vwCl rFo rZs rRs rNs rTs G l cc nL RX13 ret fr lo n Qf 182 797 cq296 := ys_V 2 13454 15 rc296 lo_13454 kc15 (m296 l) kGood kw2351 kw2352 kw2353 kw315 kw2576 hdV_X13_isSign hf hlo
def mt297 : yMt := ([(182, (797, 0))], ([], ([], [])))
theorem rc297 : yRc cq297 13454 1 = true := by decide +kernel
def fp_Model_isFront : List Nat := [231, 347, 350]
theorem ag_Model_isFront {s s' : qSg} (hB : ∀ b ∈ fp_Model_isFront, AgB gDet s s' b) (as : List qV) : dm_Model_isFront as s = dm_Model_isFront as s' := by
  unfold dm_Model_isFront
  have e : dk_Model_isFront s = dk_Model_isFront s' := by
    funext i
    match i with
    | 0 => exact congrArg (fun f => some (3, f)) (funext fun as => ag_Model_isSign (fun b hb => hB b ((show ∀ b ∈ fp_Model_isSign, b ∈ fp_Model_isFront by decide +kernel) b hb)) as)
    | i + 1 => exact (show dk_Model_isFront s (i + 1) = none from rfl).trans (show none = dk_Model_isFront s' (i + 1) from rfl)
  rw [e]
  exact zRun_ag gd_ok.P hB (show dc_Model_isFront.all (fun x => x.1.all (okF gDet fp_Model_isFront)) = true by decide +kernel) as
set_option maxHeartbeats 4000000 in
theorem he_Model_isFront (s : qSg) : ∀ as r a v, CtBeg gAll d297 as s r a → Typed gAll s → dm_Model_isFront (as.map cnV) s = some v → dEv 1168 (([0, 2] : List Nat).map a) (([(0, [(0, 1)]), (0, [(2, 1)])] : List qL).map (qe r)) = some v.2 := by
  intro as r a v hB hT e
  obtain ⟨hlen, ls, hsub, hsat⟩ := hB
  obtain ⟨hls, -, hsc, hav, -⟩ := hsat.now
  have hlen : as.length = 2 := hlen
  match as, hlen with
  | [w0, w1], _ =>
    have x0 := hsub (0, ((2 : Nat), qe r ((26909, []) : qL))) (by rw [hls]; exact List.mem_cons_self)
    cases lsArgs_hd (x0)
    have x1 := hsub (1, ((0 : Nat), qe r ((0, [(0, 1)]) : qL))) (by rw [hls]; exact List.mem_cons_of_mem _ (List.mem_cons_self))
    cases lsArgs_hd (lsArgs_tl (by decide) (by decide) (x1))
    have e1 : dm_Model_isFront [((2 : Nat), qe r ((26909, []) : qL)), ((0 : Nat), qe r ((0, [(0, 1)]) : qL))] s = some v := by
      unfold dm_Model_isFront at e ⊢
      rw [zRun_cn (map_cn _)] at e
      exact e
    have e2 := ag_Model_isFront (s := s) (s' := dSto [(347, dF (([0, 2] : List Nat).map a) 0), (350, dF (([0, 2] : List Nat).map a) 1)] [(231, dZ (([(0, [(0, 1)]), (0, [(2, 1)])] : List qL).map (qe r)) 1)]) (fun b hb => by
      rcases List.mem_cons.mp hb with rfl | hb
      · exact yFld (by decide +kernel) rfl rfl (hsc (231, (0, [(2, 1)])) (List.mem_cons_of_mem _ (List.mem_cons_self)))
      rcases List.mem_cons.mp hb with rfl | hb
      · exact yArr rfl (hav (347, 0) (List.mem_cons_self))
      rcases List.mem_cons.mp hb with rfl | hb
      · exact yArr rfl (hav (350, 2) (List.mem_cons_of_mem _ (List.mem_cons_of_mem _ (List.mem_cons_self))))
      cases hb) [((2 : Nat), qe r ((26909, []) : qL)), ((0 : Nat), qe r ((0, [(0, 1)]) : qL))]
    rw [e2] at e1
    exact congrArg (fun o => o.map (fun v => v.2)) e1
theorem hd_Model_isFront : ∀ s, Typed gAll s → HC gAll t297 (dk_Model_isFront s) s := by
  intro s hT j C hC
  match j, hC with
  | 0, hC =>
    cases (show some cq296 = some C from hC)
    exact ⟨_, rfl, rfl, dC_Model_isSign s hT⟩
  | j + 1, hC => cases (show none = some C from hC)
set_option maxHeartbeats 4000000 in
theorem dC_Model_isFront (s : qSg) (hT : Typed gAll s) : DetC gAll cq297 s (fun as => dm_Model_isFront as s) := detC_of (p := 1168) (t := 0) (vs := [0, 2]) (zi := [(0, [(0, 1)]), (0, [(2, 1)])]) (Cd := d297) rfl rfl rfl (⟨⟨_, rfl, ⟨_, rfl, (fun z hz => by
    rcases List.mem_cons.mp hz with rfl | hz
    · exact Or.inl (List.mem_cons_self)
    rcases List.mem_cons.mp hz with rfl | hz
    · exact Or.inl (List.mem_cons_of_mem _ (List.mem_cons_self))
    rcases List.mem_cons.mp hz with rfl | hz
    · exact Or.inl (List.mem_cons_of_mem _ (List.mem_cons_of_mem _ (List.mem_cons_self)))
    rcases List.mem_cons.mp hz with rfl | hz
    · exact Or.inl (List.mem_cons_of_mem _ (List.mem_cons_of_mem _ (List.mem_cons_of_mem _ (List.mem_cons_self))))
    rcases List.mem_cons.mp hz with rfl | hz
    · exact Or.inl (List.mem_cons_of_mem _ (List.mem_cons_of_mem _ (List.mem_cons_of_mem _ (List.mem_cons_of_mem _ (List.mem_cons_self)))))
    rcases List.mem_cons.mp hz with rfl | hz
    · exact Or.inr rfl
    rcases List.mem_cons.mp hz with rfl | hz
    · exact Or.inl (List.mem_cons_of_mem _ (List.mem_cons_of_mem _ (List.mem_cons_of_mem _ (List.mem_cons_of_mem _ (List.mem_cons_of_mem _ (List.mem_cons_self))))))
    cases hz), List.mem_cons_of_mem _ (List.mem_cons_of_mem _ (List.mem_cons_of_mem _ (List.mem_cons_of_mem _ (List.mem_cons_of_mem _ (List.mem_cons_self)))))⟩, Nat.le_of_ble_eq_true rfl, Nat.le_of_ble_eq_true rfl⟩, ⟨⟨_, rfl, ⟨_, rfl, (fun z hz => by
    rcases List.mem_cons.mp hz with rfl | hz
    · exact Or.inl (List.mem_cons_self)
    rcases List.mem_cons.mp hz with rfl | hz
    · exact Or.inl (List.mem_cons_of_mem _ (List.mem_cons_self))
    rcases List.mem_cons.mp hz with rfl | hz
    · exact Or.inl (List.mem_cons_of_mem _ (List.mem_cons_of_mem _ (List.mem_cons_self)))
    rcases List.mem_cons.mp hz with rfl | hz
    · exact Or.inl (List.mem_cons_of_mem _ (List.mem_cons_of_mem _ (List.mem_cons_of_mem _ (List.mem_cons_self))))
    rcases List.mem_cons.mp hz with rfl | hz
    · exact Or.inl (List.mem_cons_of_mem _ (List.mem_cons_of_mem _ (List.mem_cons_of_mem _ (List.mem_cons_of_mem _ (List.mem_cons_self)))))
    rcases List.mem_cons.mp hz with rfl | hz
    · exact Or.inr rfl
    cases hz), List.mem_cons_of_mem _ (List.mem_cons_of_mem _ (List.mem_cons_of_mem _ (List.mem_cons_of_mem _ (List.mem_cons_of_mem _ (List.mem_cons_self)))))⟩, Nat.le_of_ble_eq_true rfl, Nat.le_of_ble_eq_true rfl⟩, trivial⟩⟩) (by decide) (by decide +kernel) (by decide +kernel)
  (fun fs zs z h1 h2 => by
    rw [PQ_c (show fTab[1168]? = none by decide +kernel)]
    match fs, zs, h1, h2 with
    | [f0, f1], [z0, z1], _, _ => exact Iff.rfl) (yDet_b gAll_tag z297 gd_ok (by decide +kernel) (eqCd_ok (by decide +kernel)) hd_Model_isFront s) (he_Model_isFront s)
theorem yr297 : yRun gAll t297 b297 cq297 := yRun_d (dc := dc_Model_isFront) (cl := dk_Model_isFront) gAll_tag z297 gd_ok (by decide +kernel) (eqCd_ok (by decide +kernel)) hd_Model_isFront rfl rfl (fun s hT => dC_Model_isFront s hT)
theorem zw297 : zwid cq297.2.1.1 cq297.1 0 2 = true := by decide +kernel
set_option maxRecDepth 100000 in
theorem yw297 : yRows gAll LAll yt12 mt297 gHo 2 3 (zby cX13_isFront) p297 b297 p297 = true := by decide +kernel
set_option maxRecDepth 100000 in
theorem m297 (l : Launch) : kMet gAll LAll vwCl rFo rZs rRs rNs rTs l yX13_isFront cX13_isFront 2 (some .boolean) 1 22 cq297 := kmet_y2 (rt := 3) (by decide +kernel) yr297 zw297 rfl yw297 LAll_ok LAll_la yt12_ok gHo_ok rfl (fun G n Qf => List.forall_mem_cons.mpr ⟨⟨cq296, rfl, st289 l (by decide) (by decide)⟩, yA_n⟩) rfl (fun G n Rr => yA_n) rfl
/-! 298 Model.registerOf (J)I -/
def mt298 : yMt := ([], ([], ([], [])))
theorem rc298 : yRc cq298 13454 1 = true := by decide +kernel
def fp_Model_registerOf : List Nat := [192, 289, 291]
theorem ag_Model_registerOf {s s' : qSg} (hB : ∀ b ∈ fp_Model_registerOf, AgB gDet s s' b) (as : List qV) : dm_Model_registerOf as s = dm_Model_registerOf as s' := by
  unfold dm_Model_registerOf
  show zRun gDet (dk_Model_registerOf s') s dc_Model_registerOf as = zRun gDet (dk_Model_registerOf s') s' dc_Model_registerOf as
  exact zRun_ag gd_ok.P hB (show dc_Model_registerOf.all (fun x => x.1.all (okF gDet fp_Model_registerOf)) = true by decide +kernel) as
set_option maxHeartbeats 4000000 in
theorem he_Model_registerOf (s : qSg) : ∀ as r a v, CtBeg gAll d298 as s r a → Typed gAll s → dm_Model_registerOf (as.map cnV) s = some v → dEv 1027 (([] : List Nat).map a) (([(0, [(0, 1)])] : List qL).map (qe r)) = some v.2 := by
  intro as r a v hB hT e
  obtain ⟨hlen, ls, hsub, hsat⟩ := hB
  obtain ⟨hls, -, hsc, hav, -⟩ := hsat.now
  have hlen : as.length = 2 := hlen
  match as, hlen with
  | [w0, w1], _ =>
    have x0 := hsub (0, ((2 : Nat), qe r ((26909, []) : qL))) (by rw [hls]; exact List.mem_cons_self)
    cases lsArgs_hd (x0)
    have x1 := hsub (1, ((1 : Nat), qe r ((0, [(0, 1)]) : qL))) (by rw [hls]; exact List.mem_cons_of_mem _ (List.mem_cons_self))
    cases lsArgs_hd (lsArgs_tl (by decide) (by decide) (x1))
    have e1 : dm_Model_registerOf [((2 : Nat), qe r ((26909, []) : qL)), ((1 : Nat), qe r ((0, [(0, 1)]) : qL))] s = some v := by
      unfold dm_Model_registerOf at e ⊢
      rw [zRun_cn (map_cn _)] at e
      exact e
    have e2 := ag_Model_registerOf (s := s) (s' := dSto [] []) (fun b hb => by
      rcases List.mem_cons.mp hb with rfl | hb
      · exact yCon gd_ok hT (by decide +kernel) rfl rfl
      rcases List.mem_cons.mp hb with rfl | hb
      · exact yCon gd_ok hT (by decide +kernel) rfl rfl
      rcases List.mem_cons.mp hb with rfl | hb
      · exact yCon gd_ok hT (by decide +kernel) rfl rfl
      cases hb) [((2 : Nat), qe r ((26909, []) : qL)), ((1 : Nat), qe r ((0, [(0, 1)]) : qL))]
    rw [e2] at e1
    exact congrArg (fun o => o.map (fun v => v.2)) e1
theorem hd_Model_registerOf : ∀ s, Typed gAll s → HC gAll t298 (dk_Model_registerOf s) s := by
  intro s hT j C hC
  match j, hC with
  | j + 0, hC => cases (show none = some C from hC)
set_option maxHeartbeats 4000000 in
theorem dC_Model_registerOf (s : qSg) (hT : Typed gAll s) : DetC gAll cq298 s (fun as => dm_Model_registerOf as s) := detC_of (p := 1027) (t := 0) (vs := []) (zi := [(0, [(0, 1)])]) (Cd := d298) rfl rfl rfl (⟨⟨_, rfl, ⟨_, rfl, (fun z hz => by
    rcases List.mem_cons.mp hz with rfl | hz
    · exact Or.inl (List.mem_cons_self)
    rcases List.mem_cons.mp hz with rfl | hz
    · exact Or.inr rfl
    rcases List.mem_cons.mp hz with rfl | hz
    · exact Or.inl (List.mem_cons_of_mem _ (List.mem_cons_self))
    cases hz), List.mem_cons_of_mem _ (List.mem_cons_self)⟩, Nat.le_of_ble_eq_true rfl, Nat.le_of_ble_eq_true rfl⟩, ⟨⟨_, rfl, ⟨_, rfl, (fun z hz => by
    rcases List.mem_cons.mp hz with rfl | hz
    · exact Or.inl (List.mem_cons_self)
    rcases List.mem_cons.mp hz with rfl | hz
    · exact Or.inr rfl
    cases hz), List.mem_cons_of_mem _ (List.mem_cons_self)⟩, Nat.le_of_ble_eq_true rfl, Nat.le_of_ble_eq_true rfl⟩, trivial⟩⟩) (by decide) (by decide +kernel) (by decide +kernel)
  (fun fs zs z h1 h2 => by
    rw [PQ_c (show fTab[1027]? = none by decide +kernel)]
    match fs, zs, h1, h2 with
    | [], [z0], _, _ => exact Iff.rfl) (yDet_b gAll_tag z298 gd_ok (by decide +kernel) (eqCd_ok (by decide +kernel)) hd_Model_registerOf s) (he_Model_registerOf s)
theorem yr298 : yRun gAll t298 b298 cq298 := yRun_d (dc := dc_Model_registerOf) (cl := dk_Model_registerOf) gAll_tag z298 gd_ok (by decide +kernel) (eqCd_ok (by decide +kernel)) hd_Model_registerOf rfl rfl (fun s hT => dC_Model_registerOf s hT)
theorem zw298 : zwid cq298.2.1.1 cq298.1 0 4 = true := by decide +kernel
set_option maxRecDepth 100000 in
theorem yw298 : yRows gAll LAll yt12 mt298 gHo 4 1 (zby cX13_registerOf) p298 b298 p298 = true := by decide +kernel
set_option maxRecDepth 100000 in
theorem m298 (l : Launch) : kMet gAll LAll vwCl rFo rZs rRs rNs rTs l yX13_registerOf cX13_registerOf 4 (some .int) 0 0 cq298 := kmet_y2 (rt := 1) (by decide +kernel) yr298 zw298 rfl yw298 LAll_ok LAll_la yt12_ok gHo_ok rfl (fun G n Qf => yA_n) rfl (fun G n Rr => yA_n) rfl
/-! 299 Model.wordOf (J)I -/
def mt299 : yMt := ([], ([], ([], [])))
theorem rc299 : yRc cq299 13454 1 = true := by decide +kernel
def fp_Model_wordOf : List Nat := [191, 288, 290]
theorem ag_Model_wordOf {s s' : qSg} (hB : ∀ b ∈ fp_Model_wordOf, AgB gDet s s' b) (as : List qV) : dm_Model_wordOf as s = dm_Model_wordOf as s' := by
  unfold dm_Model_wordOf
  show zRun gDet (dk_Model_wordOf s') s dc_Model_wordOf as = zRun gDet (dk_Model_wordOf s') s' dc_Model_wordOf as
  exact zRun_ag gd_ok.P hB (show dc_Model_wordOf.all (fun x => x.1.all (okF gDet fp_Model_wordOf)) = true by decide +kernel) as
set_option maxHeartbeats 4000000 in
theorem he_Model_wordOf (s : qSg) : ∀ as r a v, CtBeg gAll d299 as s r a → Typed gAll s → dm_Model_wordOf (as.map cnV) s = some v → dEv 1026 (([] : List Nat).map a) (([(0, [(0, 1)])] : List qL).map (qe r)) = some v.2 := by
  intro as r a v hB hT e
  obtain ⟨hlen, ls, hsub, hsat⟩ := hB
  obtain ⟨hls, -, hsc, hav, -⟩ := hsat.now
  have hlen : as.length = 2 := hlen
  match as, hlen with
  | [w0, w1], _ =>
    have x0 := hsub (0, ((2 : Nat), qe r ((26909, []) : qL))) (by rw [hls]; exact List.mem_cons_self)
    cases lsArgs_hd (x0)
    have x1 := hsub (1, ((1 : Nat), qe r ((0, [(0, 1)]) : qL))) (by rw [hls]; exact List.mem_cons_of_mem _ (List.mem_cons_self))
    cases lsArgs_hd (lsArgs_tl (by decide) (by decide) (x1))
    have e1 : dm_Model_wordOf [((2 : Nat), qe r ((26909, []) : qL)), ((1 : Nat), qe r ((0, [(0, 1)]) : qL))] s = some v := by
      unfold dm_Model_wordOf at e ⊢
      rw [zRun_cn (map_cn _)] at e
      exact e
    have e2 := ag_Model_wordOf (s := s) (s' := dSto [] []) (fun b hb => by
      rcases List.mem_cons.mp hb with rfl | hb
      · exact yCon gd_ok hT (by decide +kernel) rfl rfl
      rcases List.mem_cons.mp hb with rfl | hb
      · exact yCon gd_ok hT (by decide +kernel) rfl rfl
      rcases List.mem_cons.mp hb with rfl | hb
      · exact yCon gd_ok hT (by decide +kernel) rfl rfl
      cases hb) [((2 : Nat), qe r ((26909, []) : qL)), ((1 : Nat), qe r ((0, [(0, 1)]) : qL))]
    rw [e2] at e1
    exact congrArg (fun o => o.map (fun v => v.2)) e1
theorem hd_Model_wordOf : ∀ s, Typed gAll s → HC gAll t299 (dk_Model_wordOf s) s := by
  intro s hT j C hC
  match j, hC with
  | j + 0, hC => cases (show none = some C from hC)
set_option maxHeartbeats 4000000 in
theorem dC_Model_wordOf (s : qSg) (hT : Typed gAll s) : DetC gAll cq299 s (fun as => dm_Model_wordOf as s) := detC_of (p := 1026) (t := 0) (vs := []) (zi := [(0, [(0, 1)])]) (Cd := d299) rfl rfl rfl (⟨⟨_, rfl, ⟨_, rfl, (fun z hz => by
    rcases List.mem_cons.mp hz with rfl | hz
    · exact Or.inl (List.mem_cons_self)
    rcases List.mem_cons.mp hz with rfl | hz
    · exact Or.inr rfl
    rcases List.mem_cons.mp hz with rfl | hz
    · exact Or.inl (List.mem_cons_of_mem _ (List.mem_cons_self))
    rcases List.mem_cons.mp hz with rfl | hz
    · exact Or.inl (List.mem_cons_of_mem _ (List.mem_cons_of_mem _ (List.mem_cons_self)))
    cases hz), List.mem_cons_of_mem _ (List.mem_cons_self)⟩, Nat.le_of_ble_eq_true rfl, Nat.le_of_ble_eq_true rfl⟩, ⟨⟨_, rfl, ⟨_, rfl, (fun z hz => by
    rcases List.mem_cons.mp hz with rfl | hz
    · exact Or.inl (List.mem_cons_self)
    rcases List.mem_cons.mp hz with rfl | hz
    · exact Or.inr rfl
    rcases List.mem_cons.mp hz with rfl | hz
    · exact Or.inl (List.mem_cons_of_mem _ (List.mem_cons_self))
    cases hz), List.mem_cons_of_mem _ (List.mem_cons_self)⟩, Nat.le_of_ble_eq_true rfl, Nat.le_of_ble_eq_true rfl⟩, trivial⟩⟩) (by decide) (by decide +kernel) (by decide +kernel)
  (fun fs zs z h1 h2 => by
    rw [PQ_c (show fTab[1026]? = none by decide +kernel)]
    match fs, zs, h1, h2 with
    | [], [z0], _, _ => exact Iff.rfl) (yDet_b gAll_tag z299 gd_ok (by decide +kernel) (eqCd_ok (by decide +kernel)) hd_Model_wordOf s) (he_Model_wordOf s)
theorem yr299 : yRun gAll t299 b299 cq299 := yRun_d (dc := dc_Model_wordOf) (cl := dk_Model_wordOf) gAll_tag z299 gd_ok (by decide +kernel) (eqCd_ok (by decide +kernel)) hd_Model_wordOf rfl rfl (fun s hT => dC_Model_wordOf s hT)
theorem zw299 : zwid cq299.2.1.1 cq299.1 0 4 = true := by decide +kernel
set_option maxRecDepth 100000 in
theorem yw299 : yRows gAll LAll yt12 mt299 gHo 4 1 (zby cX13_wordOf) p299 b299 p299 = true := by decide +kernel
set_option maxRecDepth 100000 in
theorem m299 (l : Launch) : kMet gAll LAll vwCl rFo rZs rRs rNs rTs l yX13_wordOf cX13_wordOf 4 (some .int) 0 0 cq299 := kmet_y2 (rt := 1) (by decide +kernel) yr299 zw299 rfl yw299 LAll_ok LAll_la yt12_ok gHo_ok rfl (fun G n Qf => yA_n) rfl (fun G n Rr => yA_n) rfl
/-! 300 Model.isValue (I)Z -/
theorem hdV_X13_wordOf : yX13_wordOf.cls = RX13 ∧ yX13_wordOf.cls ≠ "java/lang/invoke/MethodHandle" ∧ yX13_wordOf.cls ≠ "java/lang/invoke/VarHandle" ∧ (parseMethodDescriptor yX13_wordOf.desc).map (fun d => d.parameters.length) = some 1 := by decide +kernel
theorem st290 (l : Launch) {G : rGm} {cc : ByteArray} {nL n fr lo : Nat} {ret : Option FieldType} {Qf : kQf} (hf : 1 ≤ fr) (hlo : 23 ≤ lo) : ySite gAll LAll vwCl rFo rZs rRs rNs rTs G l cc nL RX13 ret fr lo n Qf 182 645 cq299 := ys_V 1 13454 15 rc299 lo_13454 kc15 (m299 l) kGood kw2486 kw2487 kw2488 kw315 kw2871 hdV_X13_wordOf hf hlo
theorem hdV_X13_registerOf : yX13_registerOf.cls = RX13 ∧ yX13_registerOf.cls ≠ "java/lang/invoke/MethodHandle" ∧ yX13_registerOf.cls ≠ "java/lang/invoke/VarHandle" ∧ (parseMethodDescriptor yX13_registerOf.desc).map (fun d => d.parameters.length) = some 1 := by decide +kernel
theorem st291 (l : Launch) {G : rGm} {cc : ByteArray} {nL n fr lo : Nat} {ret : Option FieldType} {Qf : kQf} (hf : 1 ≤ fr) (hlo : 23 ≤ lo) : ySite gAll LAll vwCl rFo rZs rRs rNs rTs G l cc nL RX13 ret fr lo n Qf 182 766 cq298 := ys_V 1 13454 15 rc298 lo_13454 kc15 (m298 l) kGood kw2496 kw2497 kw2498 kw315 kw2787 hdV_X13_registerOf hf hlo
def mt300 : yMt := ([(182, (797, 0)), (182, (645, 1)), (182, (766, 2))], ([], ([], [])))
theorem rc300 : yRc cq300 13454 1 = true := by decide +kernel
def fp_Model_isValue : List Nat := [191, 192, 202, 231, 288, 289, 290, 291, 347, 350]
theorem ag_Model_isValue {s s' : qSg} (hB : ∀ b ∈ fp_Model_isValue, AgB gDet s s' b) (as : List qV) : dm_Model_isValue as s = dm_Model_isValue as s' := by
  unfold dm_Model_isValue
  have e : dk_Model_isValue s = dk_Model_isValue s' := by
    funext i
    match i with
    | 0 => exact congrArg (fun f => some (3, f)) (funext fun as => ag_Model_isSign (fun b hb => hB b ((show ∀ b ∈ fp_Model_isSign, b ∈ fp_Model_isValue by decide +kernel) b hb)) as)
    | 1 => exact congrArg (fun f => some (2, f)) (funext fun as => ag_Model_wordOf (fun b hb => hB b ((show ∀ b ∈ fp_Model_wordOf, b ∈ fp_Model_isValue by decide +kernel) b hb)) as)
    | 2 => exact congrArg (fun f => some (2, f)) (funext fun as => ag_Model_registerOf (fun b hb => hB b ((show ∀ b ∈ fp_Model_registerOf, b ∈ fp_Model_isValue by decide +kernel) b hb)) as)
    | i + 3 => exact (show dk_Model_isValue s (i + 3) = none from rfl).trans (show none = dk_Model_isValue s' (i + 3) from rfl)
  rw [e]
  exact zRun_ag gd_ok.P hB (show dc_Model_isValue.all (fun x => x.1.all (okF gDet fp_Model_isValue)) = true by decide +kernel) as
set_option maxHeartbeats 4000000 in
theorem he_Model_isValue (s : qSg) : ∀ as r a v, CtBeg gAll d300 as s r a → Typed gAll s → dm_Model_isValue (as.map cnV) s = some v → dEv 1028 (([1, 3] : List Nat).map a) (([(0, [(0, 1)]), (0, [(4, 1)])] : List qL).map (qe r)) = some v.2 := by
  intro as r a v hB hT e
  obtain ⟨hlen, ls, hsub, hsat⟩ := hB
  obtain ⟨hls, -, hsc, hav, -⟩ := hsat.now
  have hlen : as.length = 2 := hlen
  match as, hlen with
  | [w0, w1], _ =>
    have x0 := hsub (0, ((2 : Nat), qe r ((26909, []) : qL))) (by rw [hls]; exact List.mem_cons_self)
    cases lsArgs_hd (x0)
    have x1 := hsub (1, ((0 : Nat), qe r ((0, [(0, 1)]) : qL))) (by rw [hls]; exact List.mem_cons_of_mem _ (List.mem_cons_self))
    cases lsArgs_hd (lsArgs_tl (by decide) (by decide) (x1))
    have e1 : dm_Model_isValue [((2 : Nat), qe r ((26909, []) : qL)), ((0 : Nat), qe r ((0, [(0, 1)]) : qL))] s = some v := by
      unfold dm_Model_isValue at e ⊢
      rw [zRun_cn (map_cn _)] at e
      exact e
    have e2 := ag_Model_isValue (s := s) (s' := dSto [(347, dF (([1, 3] : List Nat).map a) 0), (350, dF (([1, 3] : List Nat).map a) 1)] [(231, dZ (([(0, [(0, 1)]), (0, [(4, 1)])] : List qL).map (qe r)) 1)]) (fun b hb => by
      rcases List.mem_cons.mp hb with rfl | hb
      · exact yCon gd_ok hT (by decide +kernel) rfl rfl
      rcases List.mem_cons.mp hb with rfl | hb
      · exact yCon gd_ok hT (by decide +kernel) rfl rfl
      rcases List.mem_cons.mp hb with rfl | hb
      · exact yCon gd_ok hT (by decide +kernel) rfl rfl
      rcases List.mem_cons.mp hb with rfl | hb
      · exact yFld (by decide +kernel) rfl rfl (hsc (231, (0, [(4, 1)])) (List.mem_cons_of_mem _ (List.mem_cons_of_mem _ (List.mem_cons_of_mem _ (List.mem_cons_self)))))
      rcases List.mem_cons.mp hb with rfl | hb
      · exact yCon gd_ok hT (by decide +kernel) rfl rfl
      rcases List.mem_cons.mp hb with rfl | hb
      · exact yCon gd_ok hT (by decide +kernel) rfl rfl
      rcases List.mem_cons.mp hb with rfl | hb
      · exact yCon gd_ok hT (by decide +kernel) rfl rfl
      rcases List.mem_cons.mp hb with rfl | hb
      · exact yCon gd_ok hT (by decide +kernel) rfl rfl
      rcases List.mem_cons.mp hb with rfl | hb
      · exact yArr rfl (hav (347, 1) (List.mem_cons_of_mem _ (List.mem_cons_self)))
      rcases List.mem_cons.mp hb with rfl | hb
      · exact yArr rfl (hav (350, 3) (List.mem_cons_of_mem _ (List.mem_cons_of_mem _ (List.mem_cons_of_mem _ (List.mem_cons_self)))))
      cases hb) [((2 : Nat), qe r ((26909, []) : qL)), ((0 : Nat), qe r ((0, [(0, 1)]) : qL))]
    rw [e2] at e1
    exact congrArg (fun o => o.map (fun v => v.2)) e1
theorem hd_Model_isValue : ∀ s, Typed gAll s → HC gAll t300 (dk_Model_isValue s) s := by
  intro s hT j C hC
  match j, hC with
  | 0, hC =>
    cases (show some cq296 = some C from hC)
    exact ⟨_, rfl, rfl, dC_Model_isSign s hT⟩
  | 1, hC =>
    cases (show some cq299 = some C from hC)
    exact ⟨_, rfl, rfl, dC_Model_wordOf s hT⟩
  | 2, hC =>
    cases (show some cq298 = some C from hC)
    exact ⟨_, rfl, rfl, dC_Model_registerOf s hT⟩
  | j + 3, hC => cases (show none = some C from hC)
set_option maxHeartbeats 4000000 in
theorem dC_Model_isValue (s : qSg) (hT : Typed gAll s) : DetC gAll cq300 s (fun as => dm_Model_isValue as s) := detC_of (p := 1028) (t := 0) (vs := [1, 3]) (zi := [(0, [(0, 1)]), (0, [(4, 1)])]) (Cd := d300) rfl rfl rfl (⟨⟨_, rfl, ⟨_, rfl, (fun z hz => by
    rcases List.mem_cons.mp hz with rfl | hz
    · exact Or.inl (List.mem_cons_self)
    rcases List.mem_cons.mp hz with rfl | hz
    · exact Or.inl (List.mem_cons_of_mem _ (List.mem_cons_self))
    rcases List.mem_cons.mp hz with rfl | hz
    · exact Or.inl (List.mem_cons_of_mem _ (List.mem_cons_of_mem _ (List.mem_cons_self)))
    rcases List.mem_cons.mp hz with rfl | hz
    · exact Or.inl (List.mem_cons_of_mem _ (List.mem_cons_of_mem _ (List.mem_cons_of_mem _ (List.mem_cons_self))))
    rcases List.mem_cons.mp hz with rfl | hz
    · exact Or.inl (List.mem_cons_of_mem _ (List.mem_cons_of_mem _ (List.mem_cons_of_mem _ (List.mem_cons_of_mem _ (List.mem_cons_self)))))
    rcases List.mem_cons.mp hz with rfl | hz
    · exact Or.inl (List.mem_cons_of_mem _ (List.mem_cons_of_mem _ (List.mem_cons_of_mem _ (List.mem_cons_of_mem _ (List.mem_cons_of_mem _ (List.mem_cons_self))))))
    rcases List.mem_cons.mp hz with rfl | hz
    · exact Or.inl (List.mem_cons_of_mem _ (List.mem_cons_of_mem _ (List.mem_cons_of_mem _ (List.mem_cons_of_mem _ (List.mem_cons_of_mem _ (List.mem_cons_of_mem _ (List.mem_cons_self)))))))
    rcases List.mem_cons.mp hz with rfl | hz
    · exact Or.inr rfl
    rcases List.mem_cons.mp hz with rfl | hz
    · exact Or.inl (List.mem_cons_of_mem _ (List.mem_cons_of_mem _ (List.mem_cons_of_mem _ (List.mem_cons_of_mem _ (List.mem_cons_of_mem _ (List.mem_cons_of_mem _ (List.mem_cons_of_mem _ (List.mem_cons_self))))))))
    cases hz), List.mem_cons_of_mem _ (List.mem_cons_of_mem _ (List.mem_cons_of_mem _ (List.mem_cons_of_mem _ (List.mem_cons_of_mem _ (List.mem_cons_of_mem _ (List.mem_cons_of_mem _ (List.mem_cons_self)))))))⟩, Nat.le_of_ble_eq_true rfl, Nat.le_of_ble_eq_true rfl⟩, ⟨⟨_, rfl, ⟨_, rfl, (fun z hz => by
    rcases List.mem_cons.mp hz with rfl | hz
    · exact Or.inl (List.mem_cons_self)
    rcases List.mem_cons.mp hz with rfl | hz
    · exact Or.inl (List.mem_cons_of_mem _ (List.mem_cons_self))
    rcases List.mem_cons.mp hz with rfl | hz
    · exact Or.inl (List.mem_cons_of_mem _ (List.mem_cons_of_mem _ (List.mem_cons_self)))
    rcases List.mem_cons.mp hz with rfl | hz
    · exact Or.inl (List.mem_cons_of_mem _ (List.mem_cons_of_mem _ (List.mem_cons_of_mem _ (List.mem_cons_self))))
    rcases List.mem_cons.mp hz with rfl | hz
    · exact Or.inl (List.mem_cons_of_mem _ (List.mem_cons_of_mem _ (List.mem_cons_of_mem _ (List.mem_cons_of_mem _ (List.mem_cons_self)))))
    rcases List.mem_cons.mp hz with rfl | hz
    · exact Or.inl (List.mem_cons_of_mem _ (List.mem_cons_of_mem _ (List.mem_cons_of_mem _ (List.mem_cons_of_mem _ (List.mem_cons_of_mem _ (List.mem_cons_self))))))
    rcases List.mem_cons.mp hz with rfl | hz
    · exact Or.inl (List.mem_cons_of_mem _ (List.mem_cons_of_mem _ (List.mem_cons_of_mem _ (List.mem_cons_of_mem _ (List.mem_cons_of_mem _ (List.mem_cons_of_mem _ (List.mem_cons_self)))))))
    rcases List.mem_cons.mp hz with rfl | hz
    · exact Or.inr rfl
    cases hz), List.mem_cons_of_mem _ (List.mem_cons_of_mem _ (List.mem_cons_of_mem _ (List.mem_cons_of_mem _ (List.mem_cons_of_mem _ (List.mem_cons_of_mem _ (List.mem_cons_of_mem _ (List.mem_cons_self)))))))⟩, Nat.le_of_ble_eq_true rfl, Nat.le_of_ble_eq_true rfl⟩, trivial⟩⟩) (by decide) (by decide +kernel) (by decide +kernel)
  (fun fs zs z h1 h2 => by
    rw [PQ_c (show fTab[1028]? = none by decide +kernel)]
    match fs, zs, h1, h2 with
    | [f0, f1], [z0, z1], _, _ => exact Iff.rfl) (yDet_b gAll_tag z300 gd_ok (by decide +kernel) (eqCd_ok (by decide +kernel)) hd_Model_isValue s) (he_Model_isValue s)
theorem yr300 : yRun gAll t300 b300 cq300 := yRun_d (dc := dc_Model_isValue) (cl := dk_Model_isValue) gAll_tag z300 gd_ok (by decide +kernel) (eqCd_ok (by decide +kernel)) hd_Model_isValue rfl rfl (fun s hT => dC_Model_isValue s hT)
theorem zw300 : zwid cq300.2.1.1 cq300.1 0 3 = true := by decide +kernel
set_option maxRecDepth 100000 in
theorem yw300 : yRows gAll LAll yt12 mt300 gHo 3 3 (zby cX13_isValue) p300 b300 p300 = true := by decide +kernel
set_option maxRecDepth 100000 in
theorem m300 (l : Launch) : kMet gAll LAll vwCl rFo rZs rRs rNs rTs l yX13_isValue cX13_isValue 3 (some .boolean) 1 23 cq300 := kmet_y2 (rt := 3) (by decide +kernel) yr300 zw300 rfl yw300 LAll_ok LAll_la yt12_ok gHo_ok rfl (fun G n Qf => List.forall_mem_cons.mpr ⟨⟨cq296, rfl, st289 l (by decide) (by decide)⟩, List.forall_mem_cons.mpr ⟨⟨cq299, rfl, st290 l (by decide) (by decide)⟩, List.forall_mem_cons.mpr ⟨⟨cq298, rfl, st291 l (by decide) (by decide)⟩, yA_n⟩⟩⟩) rfl (fun G n Rr => yA_n) rfl
