/-! METHODS, CALLEES FIRST (written by wip/p2/genmeth.py) -/
/-! 393 Model.fieldOf (II)J -/
theorem hdV_X13_resolved : yX13_resolved.cls = RX13 ∧ yX13_resolved.cls ≠ "java/lang/invoke/MethodHandle" ∧ yX13_resolved.cls ≠ "java/lang/invoke/VarHandle" ∧ (parseMethodDescriptor yX13_resolved.desc).map (fun d => d.parameters.length) = some 2 := by decide +kernel
theorem st385 (l : Launch) {G : rGm} {cc : ByteArray} {nL n fr lo : Nat} {ret : Option FieldType} {Qf : kQf} (hf : 4 ≤ fr) (hlo : 93 ≤ lo) : ySite gAll LAll vwCl rFo rZs rRs rNs rTs G l cc nL RX13 ret fr lo n Qf 182 1219 cq392 := ys_V 2 13454 15 rc392 lo_13454 kc15 (m392 l) kGood kw2300 kw2301 kw2302 kw315 kw2788 hdV_X13_resolved hf hlo
def mt393 : yMt := ([(182, (1219, 0)), (182, (1215, 1))], ([], ([], [])))
theorem rc393 : yRc cq393 13454 2 = true := by decide +kernel
theorem yr393 : yRun gAll t393 b393 cq393 := yRun_z gAll_tag ruI2_RtI ruJ2_RtJ rqL_ok z393
theorem zw393 : zwid cq393.2.1.1 cq393.1 0 6 = true := by decide +kernel
set_option maxRecDepth 100000 in
theorem yw393 : yRows gAll LAll yt12 mt393 gHo 6 2 (zby cX13_fieldOf) p393 b393 p393 = true := by decide +kernel
set_option maxRecDepth 100000 in
theorem m393 (l : Launch) : kMet gAll LAll vwCl rFo rZs rRs rNs rTs l yX13_fieldOf cX13_fieldOf 6 (some .long) 4 93 cq393 := kmet_y2 (rt := 2) (by decide +kernel) yr393 zw393 rfl yw393 LAll_ok LAll_la yt12_ok gHo_ok rfl (fun G n Qf => List.forall_mem_cons.mpr ⟨⟨cq392, rfl, st385 l (by decide) (by decide)⟩, List.forall_mem_cons.mpr ⟨⟨cq386, rfl, st379 l (by decide) (by decide)⟩, yA_n⟩⟩) rfl (fun G n Rr => yA_n) rfl
/-! 394 Model.isIn (II)Z -/
def mt394 : yMt := ([], ([], ([], [])))
theorem rc394 : yRc cq394 13454 2 = true := by decide +kernel
theorem yr394 : yRun gAll t394 b394 cq394 := yRun_z gAll_tag ruI2_RtI ruJ2_RtJ rqL_ok z394
theorem zw394 : zwid cq394.2.1.1 cq394.1 0 3 = true := by decide +kernel
set_option maxRecDepth 100000 in
theorem yw394 : yRows gAll LAll yt12 mt394 gHo 3 3 (zby cX13_isIn) p394 b394 p394 = true := by decide +kernel
set_option maxRecDepth 100000 in
theorem m394 (l : Launch) : kMet gAll LAll vwCl rFo rZs rRs rNs rTs l yX13_isIn cX13_isIn 3 (some .boolean) 0 0 cq394 := kmet_y2 (rt := 3) (by decide +kernel) yr394 zw394 rfl yw394 LAll_ok LAll_la yt12_ok gHo_ok rfl (fun G n Qf => yA_n) rfl (fun G n Rr => yA_n) rfl
/-! 395 Model.isSeen (I)Z -/
def mt395 : yMt := ([], ([], ([], [])))
theorem rc395 : yRc cq395 13454 1 = true := by decide +kernel
theorem yr395 : yRun gAll t395 b395 cq395 := yRun_z gAll_tag ruI2_RtI ruJ2_RtJ rqL_ok z395
theorem zw395 : zwid cq395.2.1.1 cq395.1 0 2 = true := by decide +kernel
set_option maxRecDepth 100000 in
theorem yw395 : yRows gAll LAll yt12 mt395 gHo 2 3 (zby cX13_isSeen) p395 b395 p395 = true := by decide +kernel
set_option maxRecDepth 100000 in
theorem m395 (l : Launch) : kMet gAll LAll vwCl rFo rZs rRs rNs rTs l yX13_isSeen cX13_isSeen 2 (some .boolean) 0 0 cq395 := kmet_y2 (rt := 3) (by decide +kernel) yr395 zw395 rfl yw395 LAll_ok LAll_la yt12_ok gHo_ok rfl (fun G n Qf => yA_n) rfl (fun G n Rr => yA_n) rfl
/-! 396 Model.labelSection (I)I -/
def mt396 : yMt := ([], ([], ([], [])))
theorem rc396 : yRc cq396 13454 1 = true := by decide +kernel
def fp_Model_labelSection : List Nat := [292, 303, 310]
theorem ag_Model_labelSection {s s' : qSg} (hB : ∀ b ∈ fp_Model_labelSection, AgB gDet s s' b) (as : List qV) : dm_Model_labelSection as s = dm_Model_labelSection as s' := by
  unfold dm_Model_labelSection
  show zRun gDet (dk_Model_labelSection s') s dc_Model_labelSection as = zRun gDet (dk_Model_labelSection s') s' dc_Model_labelSection as
  exact zRun_ag gd_ok.P hB (show dc_Model_labelSection.all (fun x => x.1.all (okF gDet fp_Model_labelSection)) = true by decide +kernel) as
set_option maxHeartbeats 4000000 in
theorem he_Model_labelSection (s : qSg) : ∀ as r a v, CtBeg gAll d396 as s r a → Typed gAll s → dm_Model_labelSection (as.map cnV) s = some v → dEv 1177 (([9, 5, 7] : List Nat).map a) (([(0, [(0, 1)])] : List qL).map (qe r)) = some v.2 := by
  intro as r a v hB hT e
  obtain ⟨hlen, ls, hsub, hsat⟩ := hB
  obtain ⟨hls, -, hsc, hav, -⟩ := hsat.now
  have hlen : as.length = 2 := hlen
  match as, hlen with
  | [w0, w1], _ =>
    have x0 := hsub (0, ((2 : Nat), qe r ((26909, []) : qL))) (by rw [hls]; exact List.mem_cons_self)
    cases lsArgs_hd (x0)
    have x1 := hsub (1, ((0 : Nat), qe r ((0, [(0, 1)]) : qL))) (by rw [hls]; exact List.mem_cons_of_mem _ (List.mem_cons_self))
    cases lsArgs_hd (lsArgs_tl (by decide) (by decide) (x1))
    have e1 : dm_Model_labelSection [((2 : Nat), qe r ((26909, []) : qL)), ((0 : Nat), qe r ((0, [(0, 1)]) : qL))] s = some v := by
      unfold dm_Model_labelSection at e ⊢
      rw [zRun_cn (map_cn _)] at e
      exact e
    have e2 := ag_Model_labelSection (s := s) (s' := dSto [(292, dF (([9, 5, 7] : List Nat).map a) 0), (310, dF (([9, 5, 7] : List Nat).map a) 1), (303, dF (([9, 5, 7] : List Nat).map a) 2)] []) (fun b hb => by
      rcases List.mem_cons.mp hb with rfl | hb
      · exact yArr rfl (hav (292, 9) (List.mem_cons_of_mem _ (List.mem_cons_of_mem _ (List.mem_cons_of_mem _ (List.mem_cons_of_mem _ (List.mem_cons_of_mem _ (List.mem_cons_of_mem _ (List.mem_cons_of_mem _ (List.mem_cons_of_mem _ (List.mem_cons_of_mem _ (List.mem_cons_self)))))))))))
      rcases List.mem_cons.mp hb with rfl | hb
      · exact yArr rfl (hav (303, 7) (List.mem_cons_of_mem _ (List.mem_cons_of_mem _ (List.mem_cons_of_mem _ (List.mem_cons_of_mem _ (List.mem_cons_of_mem _ (List.mem_cons_of_mem _ (List.mem_cons_of_mem _ (List.mem_cons_self)))))))))
      rcases List.mem_cons.mp hb with rfl | hb
      · exact yArr rfl (hav (310, 5) (List.mem_cons_of_mem _ (List.mem_cons_of_mem _ (List.mem_cons_of_mem _ (List.mem_cons_of_mem _ (List.mem_cons_of_mem _ (List.mem_cons_self)))))))
      cases hb) [((2 : Nat), qe r ((26909, []) : qL)), ((0 : Nat), qe r ((0, [(0, 1)]) : qL))]
    rw [e2] at e1
    exact congrArg (fun o => o.map (fun v => v.2)) e1
theorem hd_Model_labelSection : ∀ s, Typed gAll s → HC gAll t396 (dk_Model_labelSection s) s := by
  intro s hT j C hC
  match j, hC with
  | j + 0, hC => cases (show none = some C from hC)
set_option maxHeartbeats 4000000 in
theorem dC_Model_labelSection (s : qSg) (hT : Typed gAll s) : DetC gAll cq396 s (fun as => dm_Model_labelSection as s) := detC_of (p := 1177) (t := 0) (vs := [9, 5, 7]) (zi := [(0, [(0, 1)])]) (Cd := d396) rfl rfl rfl (⟨⟨_, rfl, ⟨_, rfl, (fun z hz => by
    rcases List.mem_cons.mp hz with rfl | hz
    · exact Or.inl (List.mem_cons_self)
    rcases List.mem_cons.mp hz with rfl | hz
    · exact Or.inl (List.mem_cons_of_mem _ (List.mem_cons_self))
    rcases List.mem_cons.mp hz with rfl | hz
    · exact Or.inl (List.mem_cons_of_mem _ (List.mem_cons_of_mem _ (List.mem_cons_self)))
    rcases List.mem_cons.mp hz with rfl | hz
    · exact Or.inl (List.mem_cons_of_mem _ (List.mem_cons_of_mem _ (List.mem_cons_of_mem _ (List.mem_cons_self))))
    rcases List.mem_cons.mp hz with rfl | hz
    · exact Or.inr rfl
    cases hz), List.mem_cons_of_mem _ (List.mem_cons_of_mem _ (List.mem_cons_of_mem _ (List.mem_cons_of_mem _ (List.mem_cons_self))))⟩, Nat.le_of_ble_eq_true rfl, Nat.le_of_ble_eq_true rfl⟩, trivial⟩) (by decide) (by decide +kernel) (by decide +kernel)
  (fun fs zs z h1 h2 => by
    rw [PQ_c (show fTab[1177]? = none by decide +kernel)]
    match fs, zs, h1, h2 with
    | [f0, f1, f2], [z0], _, _ => exact Iff.rfl) (yDet_b gAll_tag z396 gd_ok (by decide +kernel) (eqCd_ok (by decide +kernel)) hd_Model_labelSection s) (he_Model_labelSection s)
theorem yr396 : yRun gAll t396 b396 cq396 := yRun_d (dc := dc_Model_labelSection) (cl := dk_Model_labelSection) gAll_tag z396 gd_ok (by decide +kernel) (eqCd_ok (by decide +kernel)) hd_Model_labelSection rfl rfl (fun s hT => dC_Model_labelSection s hT)
theorem zw396 : zwid cq396.2.1.1 cq396.1 0 2 = true := by decide +kernel
set_option maxRecDepth 100000 in
theorem yw396 : yRows gAll LAll yt12 mt396 gHo 2 1 (zby cX13_labelSection) p396 b396 p396 = true := by decide +kernel
set_option maxRecDepth 100000 in
theorem m396 (l : Launch) : kMet gAll LAll vwCl rFo rZs rRs rNs rTs l yX13_labelSection cX13_labelSection 2 (some .int) 0 0 cq396 := kmet_y2 (rt := 1) (by decide +kernel) yr396 zw396 rfl yw396 LAll_ok LAll_la yt12_ok gHo_ok rfl (fun G n Qf => yA_n) rfl (fun G n Rr => yA_n) rfl
/-! 397 Model.keepNames ()V -/
theorem hdV_X13_isSeen : yX13_isSeen.cls = RX13 ∧ yX13_isSeen.cls ≠ "java/lang/invoke/MethodHandle" ∧ yX13_isSeen.cls ≠ "java/lang/invoke/VarHandle" ∧ (parseMethodDescriptor yX13_isSeen.desc).map (fun d => d.parameters.length) = some 1 := by decide +kernel
theorem st386 (l : Launch) {G : rGm} {cc : ByteArray} {nL n fr lo : Nat} {ret : Option FieldType} {Qf : kQf} (hf : 1 ≤ fr) (hlo : 21 ≤ lo) : ySite gAll LAll vwCl rFo rZs rRs rNs rTs G l cc nL RX13 ret fr lo n Qf 182 1198 cq395 := ys_V 1 13454 15 rc395 lo_13454 kc15 (m395 l) kGood kw2582 kw2583 kw2584 kw315 kw2575 hdV_X13_isSeen hf hlo
theorem hdV_X13_labelSection : yX13_labelSection.cls = RX13 ∧ yX13_labelSection.cls ≠ "java/lang/invoke/MethodHandle" ∧ yX13_labelSection.cls ≠ "java/lang/invoke/VarHandle" ∧ (parseMethodDescriptor yX13_labelSection.desc).map (fun d => d.parameters.length) = some 1 := by decide +kernel
theorem st387 (l : Launch) {G : rGm} {cc : ByteArray} {nL n fr lo : Nat} {ret : Option FieldType} {Qf : kQf} (hf : 1 ≤ fr) (hlo : 21 ≤ lo) : ySite gAll LAll vwCl rFo rZs rRs rNs rTs G l cc nL RX13 ret fr lo n Qf 182 1204 cq396 := ys_V 1 13454 15 rc396 lo_13454 kc15 (m396 l) kGood kw2464 kw2465 kw2466 kw315 kw2596 hdV_X13_labelSection hf hlo
def mt397 : yMt := ([(182, (1198, 0)), (182, (1195, 1)), (182, (1204, 2)), (182, (1215, 3))], ([], ([], [])))
theorem rc397 : yRc cq397 13454 0 = true := by decide +kernel
theorem yr397 : yRun gAll t397 b397 cq397 := yRun_p (cuts := u397) (fuel := 300) gAll_tag ruI2_RtI ruJ2_RtJ rqL_ok ⟨zsm_e _ z397_s, List.forall_mem_cons.mpr ⟨zsm_e _ z397_0, List.forall_mem_cons.mpr ⟨zsm_e _ z397_1, yA_n⟩⟩⟩
theorem zw397 : zwid cq397.2.1.1 cq397.1 0 3 = true := by decide +kernel
set_option maxRecDepth 100000 in
theorem yw397 : yRows gAll LAll yt12 mt397 gHo 3 0 (zby cX13_keepNames) p397 b397 p397 = true := by decide +kernel
set_option maxRecDepth 100000 in
theorem m397 (l : Launch) : kMet gAll LAll vwCl rFo rZs rRs rNs rTs l yX13_keepNames cX13_keepNames 3 none 2 46 cq397 := kmet_y2 (rt := 0) (by decide +kernel) yr397 zw397 rfl yw397 LAll_ok LAll_la yt12_ok gHo_ok rfl (fun G n Qf => List.forall_mem_cons.mpr ⟨⟨cq395, rfl, st386 l (by decide) (by decide)⟩, List.forall_mem_cons.mpr ⟨⟨cq390, rfl, st383 l (by decide) (by decide)⟩, List.forall_mem_cons.mpr ⟨⟨cq396, rfl, st387 l (by decide) (by decide)⟩, List.forall_mem_cons.mpr ⟨⟨cq386, rfl, st379 l (by decide) (by decide)⟩, yA_n⟩⟩⟩⟩) rfl (fun G n Rr => yA_n) rfl
/-! 398 Model.waitUnit (I)I -/
def mt398 : yMt := ([], ([], ([], [])))
theorem rc398 : yRc cq398 13454 1 = true := by decide +kernel
theorem yr398 : yRun gAll t398 b398 cq398 := yRun_p (cuts := u398) (fuel := 300) gAll_tag ruI2_RtI ruJ2_RtJ rqL_ok ⟨zsm_e _ z398_s, List.forall_mem_cons.mpr ⟨zsm_e _ z398_0, yA_n⟩⟩
theorem zw398 : zwid cq398.2.1.1 cq398.1 0 3 = true := by decide +kernel
set_option maxRecDepth 100000 in
theorem yw398 : yRows gAll LAll yt12 mt398 gHo 3 1 (zby cX13_waitUnit) p398 b398 p398 = true := by decide +kernel
set_option maxRecDepth 100000 in
theorem m398 (l : Launch) : kMet gAll LAll vwCl rFo rZs rRs rNs rTs l yX13_waitUnit cX13_waitUnit 3 (some .int) 0 0 cq398 := kmet_y2 (rt := 1) (by decide +kernel) yr398 zw398 rfl yw398 LAll_ok LAll_la yt12_ok gHo_ok rfl (fun G n Qf => yA_n) rfl (fun G n Rr => yA_n) rfl
/-! 399 Model.build (II)V -/
theorem hdV_X13_copyUnit : yX13_copyUnit.cls = RX13 ∧ yX13_copyUnit.cls ≠ "java/lang/invoke/MethodHandle" ∧ yX13_copyUnit.cls ≠ "java/lang/invoke/VarHandle" ∧ (parseMethodDescriptor yX13_copyUnit.desc).map (fun d => d.parameters.length) = some 1 := by decide +kernel
theorem st388 (l : Launch) {G : rGm} {cc : ByteArray} {nL n fr lo : Nat} {ret : Option FieldType} {Qf : kQf} (hf : 3 ≤ fr) (hlo : 69 ≤ lo) : ySite gAll LAll vwCl rFo rZs rRs rNs rTs G l cc nL RX13 ret fr lo n Qf 182 1274 cq387 := ys_V 1 13454 15 rc387 lo_13454 kc15 (m387 l) kGood kw2285 kw2286 kw2287 kw315 kw2343 hdV_X13_copyUnit hf hlo
theorem hdV_X13_waitUnit : yX13_waitUnit.cls = RX13 ∧ yX13_waitUnit.cls ≠ "java/lang/invoke/MethodHandle" ∧ yX13_waitUnit.cls ≠ "java/lang/invoke/VarHandle" ∧ (parseMethodDescriptor yX13_waitUnit.desc).map (fun d => d.parameters.length) = some 1 := by decide +kernel
theorem st389 (l : Launch) {G : rGm} {cc : ByteArray} {nL n fr lo : Nat} {ret : Option FieldType} {Qf : kQf} (hf : 1 ≤ fr) (hlo : 22 ≤ lo) : ySite gAll LAll vwCl rFo rZs rRs rNs rTs G l cc nL RX13 ret fr lo n Qf 182 1207 cq398 := ys_V 1 13454 15 rc398 lo_13454 kc15 (m398 l) kGood kw2288 kw2289 kw2290 kw315 kw2869 hdV_X13_waitUnit hf hlo
theorem hdV_X13_isIn : yX13_isIn.cls = RX13 ∧ yX13_isIn.cls ≠ "java/lang/invoke/MethodHandle" ∧ yX13_isIn.cls ≠ "java/lang/invoke/VarHandle" ∧ (parseMethodDescriptor yX13_isIn.desc).map (fun d => d.parameters.length) = some 2 := by decide +kernel
theorem st390 (l : Launch) {G : rGm} {cc : ByteArray} {nL n fr lo : Nat} {ret : Option FieldType} {Qf : kQf} (hf : 1 ≤ fr) (hlo : 22 ≤ lo) : ySite gAll LAll vwCl rFo rZs rRs rNs rTs G l cc nL RX13 ret fr lo n Qf 182 1239 cq394 := ys_V 2 13454 15 rc394 lo_13454 kc15 (m394 l) kGood kw2291 kw2292 kw2293 kw315 kw2560 hdV_X13_isIn hf hlo
theorem hdV_X13_fieldOf : yX13_fieldOf.cls = RX13 ∧ yX13_fieldOf.cls ≠ "java/lang/invoke/MethodHandle" ∧ yX13_fieldOf.cls ≠ "java/lang/invoke/VarHandle" ∧ (parseMethodDescriptor yX13_fieldOf.desc).map (fun d => d.parameters.length) = some 2 := by decide +kernel
theorem st391 (l : Launch) {G : rGm} {cc : ByteArray} {nL n fr lo : Nat} {ret : Option FieldType} {Qf : kQf} (hf : 5 ≤ fr) (hlo : 118 ≤ lo) : ySite gAll LAll vwCl rFo rZs rRs rNs rTs G l cc nL RX13 ret fr lo n Qf 182 1242 cq393 := ys_V 2 13454 15 rc393 lo_13454 kc15 (m393 l) kGood kw2294 kw2295 kw2296 kw315 kw2444 hdV_X13_fieldOf hf hlo
theorem hdV_X12_at : yX12_at.cls = RX12 ∧ yX12_at.cls ≠ "java/lang/invoke/MethodHandle" ∧ yX12_at.cls ≠ "java/lang/invoke/VarHandle" ∧ (parseMethodDescriptor yX12_at.desc).map (fun d => d.parameters.length) = some 1 := by decide +kernel
theorem st392 (l : Launch) {G : rGm} {cc : ByteArray} {nL n fr lo : Nat} {ret : Option FieldType} {Qf : kQf} (hf : 1 ≤ fr) (hlo : 25 ≤ lo) : ySite gAll LAll vwCl rFo rZs rRs rNs rTs G l cc nL RX13 ret fr lo n Qf 182 1277 cq278 := ys_V 1 13586 14 rc278 lo_13586 kc14 (m278 l) kGood kw2297 kw2298 kw2299 kw536 kw2141 hdV_X12_at hf hlo
theorem hdV_X13_keepNames : yX13_keepNames.cls = RX13 ∧ yX13_keepNames.cls ≠ "java/lang/invoke/MethodHandle" ∧ yX13_keepNames.cls ≠ "java/lang/invoke/VarHandle" ∧ (parseMethodDescriptor yX13_keepNames.desc).map (fun d => d.parameters.length) = some 0 := by decide +kernel
theorem st393 (l : Launch) {G : rGm} {cc : ByteArray} {nL n fr lo : Nat} {ret : Option FieldType} {Qf : kQf} (hf : 3 ≤ fr) (hlo : 68 ≤ lo) : ySite gAll LAll vwCl rFo rZs rRs rNs rTs G l cc nL RX13 ret fr lo n Qf 182 1283 cq397 := ys_V 0 13454 15 rc397 lo_13454 kc15 (m397 l) kGood kw2303 kw2304 kw2305 kw315 kw2591 hdV_X13_keepNames hf hlo
def mt399 : yMt := ([(182, (1215, 0)), (182, (1274, 1)), (182, (1207, 2)), (182, (1239, 3)), (182, (1242, 4)), (182, (1277, 5)), (182, (1219, 6)), (182, (1283, 7))], ([], ([], [])))
theorem rc399 : yRc cq399 13454 2 = true := by decide +kernel
theorem yr399 : yRun gAll t399 b399 cq399 := yRun_p (cuts := u399) (fuel := 300) gAll_tag ruI2_RtI ruJ2_RtJ rqL_ok ⟨zsm_e _ z399_s, List.forall_mem_cons.mpr ⟨zsm_e _ z399_0, List.forall_mem_cons.mpr ⟨zsm_e _ z399_1, List.forall_mem_cons.mpr ⟨zsm_e _ z399_2, List.forall_mem_cons.mpr ⟨zsm_e _ z399_3, List.forall_mem_cons.mpr ⟨zsm_e _ z399_4, List.forall_mem_cons.mpr ⟨zsm_e _ z399_5, yA_n⟩⟩⟩⟩⟩⟩⟩
theorem zw399 : zwid cq399.2.1.1 cq399.1 0 12 = true := by decide +kernel
set_option maxRecDepth 100000 in
theorem yw399 : yRows gAll LAll yt12 mt399 gHo 12 0 (zby cX13_build) p399 b399 p399 = true := by decide +kernel
set_option maxRecDepth 100000 in
theorem m399 (l : Launch) : kMet gAll LAll vwCl rFo rZs rRs rNs rTs l yX13_build cX13_build 12 none 5 118 cq399 := kmet_y2 (rt := 0) (by decide +kernel) yr399 zw399 rfl yw399 LAll_ok LAll_la yt12_ok gHo_ok rfl (fun G n Qf => List.forall_mem_cons.mpr ⟨⟨cq386, rfl, st379 l (by decide) (by decide)⟩, List.forall_mem_cons.mpr ⟨⟨cq387, rfl, st388 l (by decide) (by decide)⟩, List.forall_mem_cons.mpr ⟨⟨cq398, rfl, st389 l (by decide) (by decide)⟩, List.forall_mem_cons.mpr ⟨⟨cq394, rfl, st390 l (by decide) (by decide)⟩, List.forall_mem_cons.mpr ⟨⟨cq393, rfl, st391 l (by decide) (by decide)⟩, List.forall_mem_cons.mpr ⟨⟨cq278, rfl, st392 l (by decide) (by decide)⟩, List.forall_mem_cons.mpr ⟨⟨cq392, rfl, st385 l (by decide) (by decide)⟩, List.forall_mem_cons.mpr ⟨⟨cq397, rfl, st393 l (by decide) (by decide)⟩, yA_n⟩⟩⟩⟩⟩⟩⟩⟩) rfl (fun G n Rr => yA_n) rfl
/-! 400 Model.bytesOf (J)I -/
def mt400 : yMt := ([], ([], ([], [])))
theorem yr400 : yRun gAll t400 b400 cq400 := yRun_z gAll_tag ruI2_RtI ruJ2_RtJ rqL_ok z400
theorem zw400 : zwid cq400.2.1.1 cq400.1 0 2 = true := by decide +kernel
set_option maxRecDepth 100000 in
theorem yw400 : yRows gAll LAll yt12 mt400 gHo 2 1 (zby cX13_bytesOf) p400 b400 p400 = true := by decide +kernel
set_option maxRecDepth 100000 in
theorem m400 (l : Launch) : kMet gAll LAll vwCl rFo rZs rRs rNs rTs l yX13_bytesOf cX13_bytesOf 2 (some .int) 0 0 cq400 := kmet_y2 (rt := 1) (by decide +kernel) yr400 zw400 rfl yw400 LAll_ok LAll_la yt12_ok gHo_ok rfl (fun G n Qf => yA_n) rfl (fun G n Rr => yA_n) rfl
/-! 401 Model.isMet (I)Z -/
def mt401 : yMt := ([], ([], ([], [])))
theorem rc401 : yRc cq401 13454 1 = true := by decide +kernel
theorem yr401 : yRun gAll t401 b401 cq401 := yRun_p (cuts := u401) (fuel := 300) gAll_tag ruI2_RtI ruJ2_RtJ rqL_ok ⟨zsm_e _ z401_s, List.forall_mem_cons.mpr ⟨zsm_e _ z401_0, yA_n⟩⟩
theorem zw401 : zwid cq401.2.1.1 cq401.1 0 5 = true := by decide +kernel
set_option maxRecDepth 100000 in
theorem yw401 : yRows gAll LAll yt12 mt401 gHo 5 3 (zby cX13_isMet) p401 b401 p401 = true := by decide +kernel
set_option maxRecDepth 100000 in
theorem m401 (l : Launch) : kMet gAll LAll vwCl rFo rZs rRs rNs rTs l yX13_isMet cX13_isMet 5 (some .boolean) 0 0 cq401 := kmet_y2 (rt := 3) (by decide +kernel) yr401 zw401 rfl yw401 LAll_ok LAll_la yt12_ok gHo_ok rfl (fun G n Qf => yA_n) rfl (fun G n Rr => yA_n) rfl
/-! 402 Model.choose (I)V -/
theorem hdV_X13_isMet : yX13_isMet.cls = RX13 ∧ yX13_isMet.cls ≠ "java/lang/invoke/MethodHandle" ∧ yX13_isMet.cls ≠ "java/lang/invoke/VarHandle" ∧ (parseMethodDescriptor yX13_isMet.desc).map (fun d => d.parameters.length) = some 1 := by decide +kernel
theorem st394 (l : Launch) {G : rGm} {cc : ByteArray} {nL n fr lo : Nat} {ret : Option FieldType} {Qf : kQf} (hf : 1 ≤ fr) (hlo : 24 ≤ lo) : ySite gAll LAll vwCl rFo rZs rRs rNs rTs G l cc nL RX13 ret fr lo n Qf 182 1447 cq401 := ys_V 1 13454 15 rc401 lo_13454 kc15 (m401 l) kGood kw2330 kw2331 kw2332 kw315 kw2566 hdV_X13_isMet hf hlo
def mt402 : yMt := ([(182, (1394, 0)), (184, (1183, 1)), (182, (1447, 2)), (182, (1404, 3))], ([], ([], [])))
theorem rc402 : yRc cq402 13454 1 = true := by decide +kernel
theorem yr402 : yRun gAll t402 b402 cq402 := yRun_z gAll_tag ruI2_RtI ruJ2_RtJ rqL_ok z402
theorem zw402 : zwid cq402.2.1.1 cq402.1 0 6 = true := by decide +kernel
set_option maxRecDepth 100000 in
theorem yw402 : yRows gAll LAll yt12 mt402 gHo 6 0 (zby cX13_choose) p402 b402 p402 = true := by decide +kernel
set_option maxRecDepth 100000 in
theorem m402 (l : Launch) : kMet gAll LAll vwCl rFo rZs rRs rNs rTs l yX13_choose cX13_choose 6 none 4 99 cq402 := kmet_y2 (rt := 0) (by decide +kernel) yr402 zw402 rfl yw402 LAll_ok LAll_la yt12_ok gHo_ok rfl (fun G n Qf => List.forall_mem_cons.mpr ⟨⟨cq373, rfl, st366 l (by decide) (by decide)⟩, List.forall_mem_cons.mpr ⟨⟨cq382, rfl, st377 l (by decide) (by decide)⟩, List.forall_mem_cons.mpr ⟨⟨cq401, rfl, st394 l (by decide) (by decide)⟩, List.forall_mem_cons.mpr ⟨⟨cq369, rfl, st369 l (by decide) (by decide)⟩, yA_n⟩⟩⟩⟩) rfl (fun G n Rr => yA_n) rfl
/-! 403 Model.clear ()V -/
def mt403 : yMt := ([], ([], ([], [])))
theorem rc403 : yRc cq403 13454 0 = true := by decide +kernel
theorem yr403 : yRun gAll t403 b403 cq403 := yRun_z gAll_tag ruI2_RtI ruJ2_RtJ rqL_ok z403
theorem zw403 : zwid cq403.2.1.1 cq403.1 0 1 = true := by decide +kernel
set_option maxRecDepth 100000 in
theorem yw403 : yRows gAll LAll yt12 mt403 gHo 1 0 (zby cX13_clear) p403 b403 p403 = true := by decide +kernel
set_option maxRecDepth 100000 in
theorem m403 (l : Launch) : kMet gAll LAll vwCl rFo rZs rRs rNs rTs l yX13_clear cX13_clear 1 none 0 0 cq403 := kmet_y2 (rt := 0) (by decide +kernel) yr403 zw403 rfl yw403 LAll_ok LAll_la yt12_ok gHo_ok rfl (fun G n Qf => yA_n) rfl (fun G n Rr => yA_n) rfl
/-! 404 Model.defineLabel (I)V -/
def mt404 : yMt := ([(182, (772, 0)), (182, (788, 1)), (182, (794, 2))], ([], ([], [])))
theorem rc404 : yRc cq404 13454 1 = true := by decide +kernel
theorem yr404 : yRun gAll t404 b404 cq404 := yRun_z gAll_tag ruI2_RtI ruJ2_RtJ rqL_ok z404
theorem zw404 : zwid cq404.2.1.1 cq404.1 0 3 = true := by decide +kernel
set_option maxRecDepth 100000 in
theorem yw404 : yRows gAll LAll yt12 mt404 gHo 3 0 (zby cX13_defineLabel) p404 b404 p404 = true := by decide +kernel
set_option maxRecDepth 100000 in
theorem m404 (l : Launch) : kMet gAll LAll vwCl rFo rZs rRs rNs rTs l yX13_defineLabel cX13_defineLabel 3 none 3 68 cq404 := kmet_y2 (rt := 0) (by decide +kernel) yr404 zw404 rfl yw404 LAll_ok LAll_la yt12_ok gHo_ok rfl (fun G n Qf => List.forall_mem_cons.mpr ⟨⟨cq285, rfl, st282 l (by decide) (by decide)⟩, List.forall_mem_cons.mpr ⟨⟨cq284, rfl, st283 l (by decide) (by decide)⟩, List.forall_mem_cons.mpr ⟨⟨cq306, rfl, st297 l (by decide) (by decide)⟩, yA_n⟩⟩⟩) rfl (fun G n Rr => yA_n) rfl
/-! 405 Model.digitOf (I)I -/
def mt405 : yMt := ([(184, (618, 0))], ([], ([], [])))
theorem yr405 : yRun gAll t405 b405 cq405 := yRun_z gAll_tag ruI2_RtI ruJ2_RtJ rqL_ok z405
theorem zw405 : zwid cq405.2.1.1 cq405.1 0 1 = true := by decide +kernel
set_option maxRecDepth 100000 in
theorem yw405 : yRows gAll LAll yt12 mt405 gHo 1 1 (zby cX13_digitOf) p405 b405 p405 = true := by decide +kernel
set_option maxRecDepth 100000 in
theorem m405 (l : Launch) : kMet gAll LAll vwCl rFo rZs rRs rNs rTs l yX13_digitOf cX13_digitOf 1 (some .int) 1 20 cq405 := kmet_y2 (rt := 1) (by decide +kernel) yr405 zw405 rfl yw405 LAll_ok LAll_la yt12_ok gHo_ok rfl (fun G n Qf => List.forall_mem_cons.mpr ⟨⟨cq341, rfl, st333 l (by decide) (by decide)⟩, yA_n⟩) rfl (fun G n Rr => yA_n) rfl
/-! 406 Model.signed (JI)J -/
def mt406 : yMt := ([], ([], ([], [])))
theorem yr406 : yRun gAll t406 b406 cq406 := yRun_z gAll_tag ruI2_RtI ruJ2_RtJ rqL_ok z406
theorem zw406 : zwid cq406.2.1.1 cq406.1 0 3 = true := by decide +kernel
set_option maxRecDepth 100000 in
theorem yw406 : yRows gAll LAll yt12 mt406 gHo 3 2 (zby cX13_signed) p406 b406 p406 = true := by decide +kernel
set_option maxRecDepth 100000 in
theorem m406 (l : Launch) : kMet gAll LAll vwCl rFo rZs rRs rNs rTs l yX13_signed cX13_signed 3 (some .long) 0 0 cq406 := kmet_y2 (rt := 2) (by decide +kernel) yr406 zw406 rfl yw406 LAll_ok LAll_la yt12_ok gHo_ok rfl (fun G n Qf => yA_n) rfl (fun G n Rr => yA_n) rfl
/-! 407 java/lang/Long.divideUnsigned (JJ)J -/
def mt407 : yMt := ([], ([], ([], [])))
theorem yr407 : yRun gAll t407 b407 cq407 := yRun_z gAll_tag ruI2_RtI ruJ2_RtJ rqL_ok z407
theorem zw407 : zwid cq407.2.1.1 cq407.1 0 8 = true := by decide +kernel
set_option maxRecDepth 100000 in
theorem yw407 : yRows gAll LAll yt15 mt407 gHo 8 2 (zby cJ13_divideUnsigned_f86c9) p407 b407 p407 = true := by decide +kernel
set_option maxRecDepth 100000 in
theorem m407 (l : Launch) : kMet gAll LAll vwCl rFo rZs rRs rNs rTs l yJ13_divideUnsigned_f86c9 cJ13_divideUnsigned_f86c9 8 (some .long) 0 0 cq407 := kmet_y2 (rt := 2) (by decide +kernel) yr407 zw407 rfl yw407 LAll_ok LAll_la yt15_ok gHo_ok rfl (fun G n Qf => yA_n) rfl (fun G n Rr => yA_n) rfl
/-! 408 java/lang/Long.remainderUnsigned (JJ)J -/
def mt408 : yMt := ([], ([], ([], [])))
theorem yr408 : yRun gAll t408 b408 cq408 := yRun_z gAll_tag ruI2_RtI ruJ2_RtJ rqL_ok z408
theorem zw408 : zwid cq408.2.1.1 cq408.1 0 8 = true := by decide +kernel
set_option maxRecDepth 100000 in
theorem yw408 : yRows gAll LAll yt15 mt408 gHo 8 2 (zby cJ13_remainderUnsigned_f86c9) p408 b408 p408 = true := by decide +kernel
set_option maxRecDepth 100000 in
theorem m408 (l : Launch) : kMet gAll LAll vwCl rFo rZs rRs rNs rTs l yJ13_remainderUnsigned_f86c9 cJ13_remainderUnsigned_f86c9 8 (some .long) 0 0 cq408 := kmet_y2 (rt := 2) (by decide +kernel) yr408 zw408 rfl yw408 LAll_ok LAll_la yt15_ok gHo_ok rfl (fun G n Qf => yA_n) rfl (fun G n Rr => yA_n) rfl
/-! 409 Model.divideSmall (ZIJ)V -/
theorem hdS_X13_signed : yX13_signed.cls ≠ "java/lang/invoke/MethodHandle" ∧ yX13_signed.cls ≠ "java/lang/invoke/VarHandle" ∧ (parseMethodDescriptor yX13_signed.desc).map (fun d => d.parameters.length) = some 2 := by decide +kernel
theorem st395 (l : Launch) {G : rGm} {cc : ByteArray} {nL n fr lo : Nat} {ret : Option FieldType} {Qf : kQf} (hf : 1 ≤ fr) (hlo : 22 ≤ lo) : ySite gAll LAll vwCl rFo rZs rRs rNs rTs G l cc nL RX13 ret fr lo n Qf 184 1409 cq406 := ys_S 2 rfl (m406 l) kGood kw2385 kw2386 kw315 kw2387 hdS_X13_signed hf hlo
theorem hdS_J13_divideUnsigned_f86c9 : yJ13_divideUnsigned_f86c9.cls ≠ "java/lang/invoke/MethodHandle" ∧ yJ13_divideUnsigned_f86c9.cls ≠ "java/lang/invoke/VarHandle" ∧ (parseMethodDescriptor yJ13_divideUnsigned_f86c9.desc).map (fun d => d.parameters.length) = some 2 := by decide +kernel
theorem st396 (l : Launch) {G : rGm} {cc : ByteArray} {nL n fr lo : Nat} {ret : Option FieldType} {Qf : kQf} (hf : 1 ≤ fr) (hlo : 27 ≤ lo) : ySite gAll LAll vwCl rFo rZs rRs rNs rTs G l cc nL RX13 ret fr lo n Qf 184 1425 cq407 := ys_S 2 rfl (m407 l) kGood kw2388 kw2389 kw1949 kw2390 hdS_J13_divideUnsigned_f86c9 hf hlo
theorem hdS_J13_remainderUnsigned_f86c9 : yJ13_remainderUnsigned_f86c9.cls ≠ "java/lang/invoke/MethodHandle" ∧ yJ13_remainderUnsigned_f86c9.cls ≠ "java/lang/invoke/VarHandle" ∧ (parseMethodDescriptor yJ13_remainderUnsigned_f86c9.desc).map (fun d => d.parameters.length) = some 2 := by decide +kernel
theorem st397 (l : Launch) {G : rGm} {cc : ByteArray} {nL n fr lo : Nat} {ret : Option FieldType} {Qf : kQf} (hf : 1 ≤ fr) (hlo : 27 ≤ lo) : ySite gAll LAll vwCl rFo rZs rRs rNs rTs G l cc nL RX13 ret fr lo n Qf 184 1428 cq408 := ys_S 2 rfl (m408 l) kGood kw2391 kw2392 kw1949 kw2393 hdS_J13_remainderUnsigned_f86c9 hf hlo
def mt409 : yMt := ([(184, (1409, 0)), (184, (1425, 1)), (184, (1428, 2)), (184, (1346, 3)), (182, (1325, 4)), (182, (1358, 5))], ([], ([], [])))
theorem rc409 : yRc cq409 13454 3 = true := by decide +kernel
theorem yr409 : yRun gAll t409 b409 cq409 := yRun_p (cuts := u409) (fuel := 300) gAll_tag ruI2_RtI ruJ2_RtJ rqL_ok ⟨zsm_e _ z409_s, List.forall_mem_cons.mpr ⟨zsm_e _ z409_0, List.forall_mem_cons.mpr ⟨zsm_e _ z409_1, List.forall_mem_cons.mpr ⟨zsm_e _ z409_2, yA_n⟩⟩⟩⟩
theorem zw409 : zwid cq409.2.1.1 cq409.1 0 14 = true := by decide +kernel
set_option maxRecDepth 100000 in
theorem yw409 : yRows gAll LAll yt12 mt409 gHo 14 0 (zby cX13_divideSmall) p409 b409 p409 = true := by decide +kernel
set_option maxRecDepth 100000 in
theorem m409 (l : Launch) : kMet gAll LAll vwCl rFo rZs rRs rNs rTs l yX13_divideSmall cX13_divideSmall 14 none 1 27 cq409 := kmet_y2 (rt := 0) (by decide +kernel) yr409 zw409 rfl yw409 LAll_ok LAll_la yt12_ok gHo_ok rfl (fun G n Qf => List.forall_mem_cons.mpr ⟨⟨cq406, rfl, st395 l (by decide) (by decide)⟩, List.forall_mem_cons.mpr ⟨⟨cq407, rfl, st396 l (by decide) (by decide)⟩, List.forall_mem_cons.mpr ⟨⟨cq408, rfl, st397 l (by decide) (by decide)⟩, List.forall_mem_cons.mpr ⟨⟨cq352, rfl, st349 l (by decide) (by decide)⟩, List.forall_mem_cons.mpr ⟨⟨cq367, rfl, st358 l (by decide) (by decide)⟩, List.forall_mem_cons.mpr ⟨⟨cq363, rfl, st362 l (by decide) (by decide)⟩, yA_n⟩⟩⟩⟩⟩⟩) rfl (fun G n Rr => yA_n) rfl
/-! 410 Model.divide (ZI)V -/
theorem hdV_X13_divideSmall : yX13_divideSmall.cls = RX13 ∧ yX13_divideSmall.cls ≠ "java/lang/invoke/MethodHandle" ∧ yX13_divideSmall.cls ≠ "java/lang/invoke/VarHandle" ∧ (parseMethodDescriptor yX13_divideSmall.desc).map (fun d => d.parameters.length) = some 3 := by decide +kernel
theorem st398 (l : Launch) {G : rGm} {cc : ByteArray} {nL n fr lo : Nat} {ret : Option FieldType} {Qf : kQf} (hf : 2 ≤ fr) (hlo : 60 ≤ lo) : ySite gAll LAll vwCl rFo rZs rRs rNs rTs G l cc nL RX13 ret fr lo n Qf 182 1433 cq409 := ys_V 3 13454 15 rc409 lo_13454 kc15 (m409 l) kGood kw2404 kw2405 kw2406 kw315 kw2383 hdV_X13_divideSmall hf hlo
def mt410 : yMt := ([(182, (1394, 0)), (182, (1325, 1)), (182, (1433, 2)), (184, (711, 3))], ([], ([], [])))
theorem rc410 : yRc cq410 13454 2 = true := by decide +kernel
theorem yr410 : yRun gAll t410 b410 cq410 := yRun_p (cuts := u410) (fuel := 300) gAll_tag ruI2_RtI ruJ2_RtJ rqL_ok ⟨zsm_e _ z410_s, List.forall_mem_cons.mpr ⟨zsm_e _ z410_0, List.forall_mem_cons.mpr ⟨zsm_e _ z410_1, List.forall_mem_cons.mpr ⟨zsm_e _ z410_2, yA_n⟩⟩⟩⟩
theorem zw410 : zwid cq410.2.1.1 cq410.1 0 20 = true := by decide +kernel
set_option maxRecDepth 100000 in
theorem yw410 : yRows gAll LAll yt12 mt410 gHo 20 0 (zby cX13_divide) p410 b410 p410 = true := by decide +kernel
set_option maxRecDepth 100000 in
theorem m410 (l : Launch) : kMet gAll LAll vwCl rFo rZs rRs rNs rTs l yX13_divide cX13_divide 20 none 4 99 cq410 := kmet_y2 (rt := 0) (by decide +kernel) yr410 zw410 rfl yw410 LAll_ok LAll_la yt12_ok gHo_ok rfl (fun G n Qf => List.forall_mem_cons.mpr ⟨⟨cq373, rfl, st366 l (by decide) (by decide)⟩, List.forall_mem_cons.mpr ⟨⟨cq367, rfl, st358 l (by decide) (by decide)⟩, List.forall_mem_cons.mpr ⟨⟨cq409, rfl, st398 l (by decide) (by decide)⟩, List.forall_mem_cons.mpr ⟨⟨cq356, rfl, st353 l (by decide) (by decide)⟩, yA_n⟩⟩⟩⟩) rfl (fun G n Rr => yA_n) rfl
/-! 411 Model.macroFrame ()I -/
def mt411 : yMt := ([], ([], ([], [])))
theorem rc411 : yRc cq411 13454 0 = true := by decide +kernel
theorem yr411 : yRun gAll t411 b411 cq411 := yRun_p (cuts := u411) (fuel := 300) gAll_tag ruI2_RtI ruJ2_RtJ rqL_ok ⟨zsm_e _ z411_s, List.forall_mem_cons.mpr ⟨zsm_e _ z411_0, yA_n⟩⟩
theorem zw411 : zwid cq411.2.1.1 cq411.1 0 2 = true := by decide +kernel
set_option maxRecDepth 100000 in
theorem yw411 : yRows gAll LAll yt12 mt411 gHo 2 1 (zby cX13_macroFrame) p411 b411 p411 = true := by decide +kernel
set_option maxRecDepth 100000 in
theorem m411 (l : Launch) : kMet gAll LAll vwCl rFo rZs rRs rNs rTs l yX13_macroFrame cX13_macroFrame 2 (some .int) 0 0 cq411 := kmet_y2 (rt := 1) (by decide +kernel) yr411 zw411 rfl yw411 LAll_ok LAll_la yt12_ok gHo_ok rfl (fun G n Qf => yA_n) rfl (fun G n Rr => yA_n) rfl
/-! 412 Model.parameterAt (III)I -/
def mt412 : yMt := ([(182, (652, 0)), (184, (621, 1))], ([], ([], [])))
theorem rc412 : yRc cq412 13454 3 = true := by decide +kernel
theorem yr412 : yRun gAll t412 b412 cq412 := yRun_p (cuts := u412) (fuel := 300) gAll_tag ruI2_RtI ruJ2_RtJ rqL_ok ⟨zsm_e _ z412_s, List.forall_mem_cons.mpr ⟨zsm_e _ z412_0, List.forall_mem_cons.mpr ⟨zsm_e _ z412_1, List.forall_mem_cons.mpr ⟨zsm_e _ z412_2, yA_n⟩⟩⟩⟩
theorem zw412 : zwid cq412.2.1.1 cq412.1 0 11 = true := by decide +kernel
set_option maxRecDepth 100000 in
theorem yw412 : yRows gAll LAll yt12 mt412 gHo 11 1 (zby cX13_parameterAt) p412 b412 p412 = true := by decide +kernel
set_option maxRecDepth 100000 in
theorem m412 (l : Launch) : kMet gAll LAll vwCl rFo rZs rRs rNs rTs l yX13_parameterAt cX13_parameterAt 11 (some .int) 2 40 cq412 := kmet_y2 (rt := 1) (by decide +kernel) yr412 zw412 rfl yw412 LAll_ok LAll_la yt12_ok gHo_ok rfl (fun G n Qf => List.forall_mem_cons.mpr ⟨⟨cq340, rfl, st336 l (by decide) (by decide)⟩, List.forall_mem_cons.mpr ⟨⟨cq343, rfl, st334 l (by decide) (by decide)⟩, yA_n⟩⟩) rfl (fun G n Rr => yA_n) rfl
/-! 413 Model.expand ()V -/
theorem hdV_X13_macroFrame : yX13_macroFrame.cls = RX13 ∧ yX13_macroFrame.cls ≠ "java/lang/invoke/MethodHandle" ∧ yX13_macroFrame.cls ≠ "java/lang/invoke/VarHandle" ∧ (parseMethodDescriptor yX13_macroFrame.desc).map (fun d => d.parameters.length) = some 0 := by decide +kernel
theorem st399 (l : Launch) {G : rGm} {cc : ByteArray} {nL n fr lo : Nat} {ret : Option FieldType} {Qf : kQf} (hf : 1 ≤ fr) (hlo : 21 ≤ lo) : ySite gAll LAll vwCl rFo rZs rRs rNs rTs G l cc nL RX13 ret fr lo n Qf 182 693 cq411 := ys_V 0 13454 15 rc411 lo_13454 kc15 (m411 l) kGood kw2430 kw2431 kw2432 kw315 kw2628 hdV_X13_macroFrame hf hlo
theorem hdV_X13_parameterAt : yX13_parameterAt.cls = RX13 ∧ yX13_parameterAt.cls ≠ "java/lang/invoke/MethodHandle" ∧ yX13_parameterAt.cls ≠ "java/lang/invoke/VarHandle" ∧ (parseMethodDescriptor yX13_parameterAt.desc).map (fun d => d.parameters.length) = some 3 := by decide +kernel
theorem st400 (l : Launch) {G : rGm} {cc : ByteArray} {nL n fr lo : Nat} {ret : Option FieldType} {Qf : kQf} (hf : 3 ≤ fr) (hlo : 70 ≤ lo) : ySite gAll LAll vwCl rFo rZs rRs rNs rTs G l cc nL RX13 ret fr lo n Qf 182 696 cq412 := ys_V 3 13454 15 rc412 lo_13454 kc15 (m412 l) kGood kw2433 kw2434 kw2435 kw315 kw2668 hdV_X13_parameterAt hf hlo
theorem hdV_X13_appendNumber : yX13_appendNumber.cls = RX13 ∧ yX13_appendNumber.cls ≠ "java/lang/invoke/MethodHandle" ∧ yX13_appendNumber.cls ≠ "java/lang/invoke/VarHandle" ∧ (parseMethodDescriptor yX13_appendNumber.desc).map (fun d => d.parameters.length) = some 1 := by decide +kernel
theorem st401 (l : Launch) {G : rGm} {cc : ByteArray} {nL n fr lo : Nat} {ret : Option FieldType} {Qf : kQf} (hf : 2 ≤ fr) (hlo : 44 ≤ lo) : ySite gAll LAll vwCl rFo rZs rRs rNs rTs G l cc nL RX13 ret fr lo n Qf 182 700 cq360 := ys_V 1 13454 15 rc360 lo_13454 kc15 (m360 l) kGood kw2436 kw2437 kw2438 kw315 kw2198 hdV_X13_appendNumber hf hlo
def mt413 : yMt := ([(182, (678, 0)), (182, (693, 1)), (182, (696, 2)), (182, (691, 3)), (182, (700, 4))], ([], ([], [])))
theorem rc413 : yRc cq413 13454 0 = true := by decide +kernel
theorem yr413 : yRun gAll t413 b413 cq413 := yRun_p (cuts := u413) (fuel := 300) gAll_tag ruI2_RtI ruJ2_RtJ rqL_ok ⟨zsm_e _ z413_s, List.forall_mem_cons.mpr ⟨zsm_e _ z413_0, List.forall_mem_cons.mpr ⟨zsm_e _ z413_1, List.forall_mem_cons.mpr ⟨zsm_e _ z413_2, yA_n⟩⟩⟩⟩
theorem zw413 : zwid cq413.2.1.1 cq413.1 0 6 = true := by decide +kernel
set_option maxRecDepth 100000 in
theorem yw413 : yRows gAll LAll yt12 mt413 gHo 6 0 (zby cX13_expand) p413 b413 p413 = true := by decide +kernel
set_option maxRecDepth 100000 in
theorem m413 (l : Launch) : kMet gAll LAll vwCl rFo rZs rRs rNs rTs l yX13_expand cX13_expand 6 none 3 70 cq413 := kmet_y2 (rt := 0) (by decide +kernel) yr413 zw413 rfl yw413 LAll_ok LAll_la yt12_ok gHo_ok rfl (fun G n Qf => List.forall_mem_cons.mpr ⟨⟨cq294, rfl, st299 l (by decide) (by decide)⟩, List.forall_mem_cons.mpr ⟨⟨cq411, rfl, st399 l (by decide) (by decide)⟩, List.forall_mem_cons.mpr ⟨⟨cq412, rfl, st400 l (by decide) (by decide)⟩, List.forall_mem_cons.mpr ⟨⟨cq359, rfl, st355 l (by decide) (by decide)⟩, List.forall_mem_cons.mpr ⟨⟨cq360, rfl, st401 l (by decide) (by decide)⟩, yA_n⟩⟩⟩⟩⟩) rfl (fun G n Rr => yA_n) rfl
/-! 414 Model.give (II)I -/
def mt414 : yMt := ([], ([], ([], [])))
theorem rc414 : yRc cq414 13454 2 = true := by decide +kernel
theorem yr414 : yRun gAll t414 b414 cq414 := yRun_z gAll_tag ruI2_RtI ruJ2_RtJ rqL_ok z414
theorem zw414 : zwid cq414.2.1.1 cq414.1 0 3 = true := by decide +kernel
set_option maxRecDepth 100000 in
theorem yw414 : yRows gAll LAll yt12 mt414 gHo 3 1 (zby cX13_give) p414 b414 p414 = true := by decide +kernel
set_option maxRecDepth 100000 in
theorem m414 (l : Launch) : kMet gAll LAll vwCl rFo rZs rRs rNs rTs l yX13_give cX13_give 3 (some .int) 0 0 cq414 := kmet_y2 (rt := 1) (by decide +kernel) yr414 zw414 rfl yw414 LAll_ok LAll_la yt12_ok gHo_ok rfl (fun G n Qf => yA_n) rfl (fun G n Rr => yA_n) rfl
/-! 415 Model.fault (I)I -/
theorem hdV_X13_give : yX13_give.cls = RX13 ∧ yX13_give.cls ≠ "java/lang/invoke/MethodHandle" ∧ yX13_give.cls ≠ "java/lang/invoke/VarHandle" ∧ (parseMethodDescriptor yX13_give.desc).map (fun d => d.parameters.length) = some 2 := by decide +kernel
theorem st402 (l : Launch) {G : rGm} {cc : ByteArray} {nL n fr lo : Nat} {ret : Option FieldType} {Qf : kQf} (hf : 1 ≤ fr) (hlo : 22 ≤ lo) : ySite gAll LAll vwCl rFo rZs rRs rNs rTs G l cc nL RX13 ret fr lo n Qf 182 1180 cq414 := ys_V 2 13454 15 rc414 lo_13454 kc15 (m414 l) kGood kw844 kw845 kw846 kw315 kw843 hdV_X13_give hf hlo
def mt415 : yMt := ([(182, (1180, 0))], ([], ([], [])))
theorem rc415 : yRc cq415 13454 1 = true := by decide +kernel
theorem yr415 : yRun gAll t415 b415 cq415 := yRun_z gAll_tag ruI2_RtI ruJ2_RtJ rqL_ok z415
theorem zw415 : zwid cq415.2.1.1 cq415.1 0 2 = true := by decide +kernel
set_option maxRecDepth 100000 in
theorem yw415 : yRows gAll LAll yt12 mt415 gHo 2 1 (zby cX13_fault) p415 b415 p415 = true := by decide +kernel
set_option maxRecDepth 100000 in
theorem m415 (l : Launch) : kMet gAll LAll vwCl rFo rZs rRs rNs rTs l yX13_fault cX13_fault 2 (some .int) 1 22 cq415 := kmet_y2 (rt := 1) (by decide +kernel) yr415 zw415 rfl yw415 LAll_ok LAll_la yt12_ok gHo_ok rfl (fun G n Qf => List.forall_mem_cons.mpr ⟨⟨cq414, rfl, st402 l (by decide) (by decide)⟩, yA_n⟩) rfl (fun G n Rr => yA_n) rfl
/-! 416 Model.feed (IIIII)I -/
def mt416 : yMt := ([], ([], ([], [])))
theorem rc416 : yRc cq416 13454 5 = true := by decide +kernel
theorem yr416 : yRun gAll t416 b416 cq416 := yRun_p (cuts := u416) (fuel := 300) gAll_tag ruI2_RtI ruJ2_RtJ rqL_ok ⟨zsm_e _ z416_s, List.forall_mem_cons.mpr ⟨zsm_e _ z416_0, yA_n⟩⟩
theorem zw416 : zwid cq416.2.1.1 cq416.1 0 8 = true := by decide +kernel
set_option maxRecDepth 100000 in
theorem yw416 : yRows gAll LAll yt12 mt416 gHo 8 1 (zby cX13_feed) p416 b416 p416 = true := by decide +kernel
set_option maxRecDepth 100000 in
theorem m416 (l : Launch) : kMet gAll LAll vwCl rFo rZs rRs rNs rTs l yX13_feed cX13_feed 8 (some .int) 0 0 cq416 := kmet_y2 (rt := 1) (by decide +kernel) yr416 zw416 rfl yw416 LAll_ok LAll_la yt12_ok gHo_ok rfl (fun G n Qf => yA_n) rfl (fun G n Rr => yA_n) rfl
/-! 417 Model.findNeeded (I)V -/
def mt417 : yMt := ([(182, (1204, 0)), (182, (1207, 1)), (182, (1210, 2))], ([], ([], [])))
theorem rc417 : yRc cq417 13454 1 = true := by decide +kernel
theorem yr417 : yRun gAll t417 b417 cq417 := yRun_p (cuts := u417) (fuel := 300) gAll_tag ruI2_RtI ruJ2_RtJ rqL_ok ⟨zsm_e _ z417_s, List.forall_mem_cons.mpr ⟨zsm_e _ z417_0, List.forall_mem_cons.mpr ⟨zsm_e _ z417_1, List.forall_mem_cons.mpr ⟨zsm_e _ z417_2, yA_n⟩⟩⟩⟩
theorem zw417 : zwid cq417.2.1.1 cq417.1 0 7 = true := by decide +kernel
set_option maxRecDepth 100000 in
theorem yw417 : yRows gAll LAll yt12 mt417 gHo 7 0 (zby cX13_findNeeded) p417 b417 p417 = true := by decide +kernel
set_option maxRecDepth 100000 in
theorem m417 (l : Launch) : kMet gAll LAll vwCl rFo rZs rRs rNs rTs l yX13_findNeeded cX13_findNeeded 7 none 3 68 cq417 := kmet_y2 (rt := 0) (by decide +kernel) yr417 zw417 rfl yw417 LAll_ok LAll_la yt12_ok gHo_ok rfl (fun G n Qf => List.forall_mem_cons.mpr ⟨⟨cq396, rfl, st387 l (by decide) (by decide)⟩, List.forall_mem_cons.mpr ⟨⟨cq398, rfl, st389 l (by decide) (by decide)⟩, List.forall_mem_cons.mpr ⟨⟨cq391, rfl, st384 l (by decide) (by decide)⟩, yA_n⟩⟩⟩) rfl (fun G n Rr => yA_n) rfl
/-! 418 Model.linkFault (III)V -/
def mt418 : yMt := ([], ([], ([], [])))
theorem rc418 : yRc cq418 13454 3 = true := by decide +kernel
theorem yr418 : yRun gAll t418 b418 cq418 := yRun_z gAll_tag ruI2_RtI ruJ2_RtJ rqL_ok z418
theorem zw418 : zwid cq418.2.1.1 cq418.1 0 4 = true := by decide +kernel
set_option maxRecDepth 100000 in
theorem yw418 : yRows gAll LAll yt12 mt418 gHo 4 0 (zby cX13_linkFault) p418 b418 p418 = true := by decide +kernel
set_option maxRecDepth 100000 in
theorem m418 (l : Launch) : kMet gAll LAll vwCl rFo rZs rRs rNs rTs l yX13_linkFault cX13_linkFault 4 none 0 0 cq418 := kmet_y2 (rt := 0) (by decide +kernel) yr418 zw418 rfl yw418 LAll_ok LAll_la yt12_ok gHo_ok rfl (fun G n Qf => yA_n) rfl (fun G n Rr => yA_n) rfl
