/-! METHODS, CALLEES FIRST (written by wip/p2/genmeth.py) -/
/-! 332 Model.passAddress (I)I -/
theorem hdV_X13_isNamedAs : yX13_isNamedAs.cls = RX13 ∧ yX13_isNamedAs.cls ≠ "java/lang/invoke/MethodHandle" ∧ yX13_isNamedAs.cls ≠ "java/lang/invoke/VarHandle" ∧ (parseMethodDescriptor yX13_isNamedAs.desc).map (fun d => d.parameters.length) = some 2 := by decide +kernel
theorem st322 (l : Launch) {G : rGm} {cc : ByteArray} {nL n fr lo : Nat} {ret : Option FieldType} {Qf : kQf} (hf : 1 ≤ fr) (hlo : 23 ≤ lo) : ySite gAll LAll vwCl rFo rZs rRs rNs rTs G l cc nL RX13 ret fr lo n Qf 182 863 cq331 := ys_V 2 13454 15 rc331 lo_13454 kc15 (m331 l) kGood kw2672 kw2673 kw2674 kw315 kw2567 hdV_X13_isNamedAs hf hlo
theorem hdV_X13_isName : yX13_isName.cls = RX13 ∧ yX13_isName.cls ≠ "java/lang/invoke/MethodHandle" ∧ yX13_isName.cls ≠ "java/lang/invoke/VarHandle" ∧ (parseMethodDescriptor yX13_isName.desc).map (fun d => d.parameters.length) = some 1 := by decide +kernel
theorem st323 (l : Launch) {G : rGm} {cc : ByteArray} {nL n fr lo : Nat} {ret : Option FieldType} {Qf : kQf} (hf : 1 ≤ fr) (hlo : 21 ≤ lo) : ySite gAll LAll vwCl rFo rZs rRs rNs rTs G l cc nL RX13 ret fr lo n Qf 182 860 cq330 := ys_V 1 13454 15 rc330 lo_13454 kc15 (m330 l) kGood kw2152 kw2153 kw2154 kw315 kw2571 hdV_X13_isName hf hlo
def mt332 : yMt := ([(182, (863, 0)), (182, (918, 1)), (182, (797, 2)), (182, (860, 3)), (182, (766, 4))], ([], ([], [])))
theorem rc332 : yRc cq332 13454 1 = true := by decide +kernel
def fp_Model_passAddress : List Nat := [191, 192, 200, 202, 231, 288, 289, 290, 291, 347, 350]
theorem ag_Model_passAddress {s s' : qSg} (hB : ∀ b ∈ fp_Model_passAddress, AgB gDet s s' b) (as : List qV) : dm_Model_passAddress as s = dm_Model_passAddress as s' := by
  unfold dm_Model_passAddress
  have e : dk_Model_passAddress s = dk_Model_passAddress s' := by
    funext i
    match i with
    | 0 => exact congrArg (fun f => some (3, f)) (funext fun as => ag_Model_isNamedAs (fun b hb => hB b ((show ∀ b ∈ fp_Model_isNamedAs, b ∈ fp_Model_passAddress by decide +kernel) b hb)) as)
    | 1 => exact congrArg (fun f => some (3, f)) (funext fun as => ag_Model_pass (fun b hb => hB b ((show ∀ b ∈ fp_Model_pass, b ∈ fp_Model_passAddress by decide +kernel) b hb)) as)
    | 2 => exact congrArg (fun f => some (3, f)) (funext fun as => ag_Model_isSign (fun b hb => hB b ((show ∀ b ∈ fp_Model_isSign, b ∈ fp_Model_passAddress by decide +kernel) b hb)) as)
    | 3 => exact congrArg (fun f => some (2, f)) (funext fun as => ag_Model_isName (fun b hb => hB b ((show ∀ b ∈ fp_Model_isName, b ∈ fp_Model_passAddress by decide +kernel) b hb)) as)
    | 4 => exact congrArg (fun f => some (2, f)) (funext fun as => ag_Model_registerOf (fun b hb => hB b ((show ∀ b ∈ fp_Model_registerOf, b ∈ fp_Model_passAddress by decide +kernel) b hb)) as)
    | i + 5 => exact (show dk_Model_passAddress s (i + 5) = none from rfl).trans (show none = dk_Model_passAddress s' (i + 5) from rfl)
  rw [e]
  exact zRun_ag gd_ok.P hB (show dc_Model_passAddress.all (fun x => x.1.all (okF gDet fp_Model_passAddress)) = true by decide +kernel) as
set_option maxHeartbeats 4000000 in
theorem he_Model_passAddress (s : qSg) : ∀ as r a v, CtBeg gAll d332 as s r a → Typed gAll s → dm_Model_passAddress (as.map cnV) s = some v → dEv 1025 (([1, 3] : List Nat).map a) (([(0, [(0, 1)]), (0, [(4, 1)])] : List qL).map (qe r)) = some v.2 := by
  intro as r a v hB hT e
  obtain ⟨hlen, ls, hsub, hsat⟩ := hB
  obtain ⟨hls, -, hsc, hav, -⟩ := hsat.now
  have hlen : as.length = 2 := hlen
  match as, hlen with
  | [w0, w1], _ =>
    have x0 := hsub (0, ((2 : Nat), qe r ((26909, []) : qL))) (by rw [hls]; exact List.mem_cons_self)
    cases lsArgs_hd (x0)
    have x1 := hsub (1, ((0 : Nat), qe r ((0, [(0, 1)]) : qL))) (by rw [hls]; exact List.mem_cons_of_mem _ (List.mem_cons_self))
    cases lsArgs_hd (lsArgs_tl (by decide) (by decide) (x1))
    have e1 : dm_Model_passAddress [((2 : Nat), qe r ((26909, []) : qL)), ((0 : Nat), qe r ((0, [(0, 1)]) : qL))] s = some v := by
      unfold dm_Model_passAddress at e ⊢
      rw [zRun_cn (map_cn _)] at e
      exact e
    have e2 := ag_Model_passAddress (s := s) (s' := dSto [(347, dF (([1, 3] : List Nat).map a) 0), (350, dF (([1, 3] : List Nat).map a) 1)] [(231, dZ (([(0, [(0, 1)]), (0, [(4, 1)])] : List qL).map (qe r)) 1)]) (fun b hb => by
      rcases List.mem_cons.mp hb with rfl | hb
      · exact yCon gd_ok hT (by decide +kernel) rfl rfl
      rcases List.mem_cons.mp hb with rfl | hb
      · exact yCon gd_ok hT (by decide +kernel) rfl rfl
      rcases List.mem_cons.mp hb with rfl | hb
      · exact yCon gd_ok hT (by decide +kernel) rfl rfl
      rcases List.mem_cons.mp hb with rfl | hb
      · exact yCon gd_ok hT (by decide +kernel) rfl rfl
      rcases List.mem_cons.mp hb with rfl | hb
      · exact yFld (by decide +kernel) rfl rfl (hsc (231, (0, [(4, 1)])) (List.mem_cons_of_mem _ (List.mem_cons_of_mem _ (List.mem_cons_of_mem _ (List.mem_cons_self)))))
      rcases List.mem_cons.mp hb with rfl | hb
      · exact yCon gd_ok hT (by decide +kernel) rfl rfl
      rcases List.mem_cons.mp hb with rfl | hb
      · exact yCon gd_ok hT (by decide +kernel) rfl rfl
      rcases List.mem_cons.mp hb with rfl | hb
      · exact yCon gd_ok hT (by decide +kernel) rfl rfl
      rcases List.mem_cons.mp hb with rfl | hb
      · exact yCon gd_ok hT (by decide +kernel) rfl rfl
      rcases List.mem_cons.mp hb with rfl | hb
      · exact yArr rfl (hav (347, 1) (List.mem_cons_of_mem _ (List.mem_cons_self)))
      rcases List.mem_cons.mp hb with rfl | hb
      · exact yArr rfl (hav (350, 3) (List.mem_cons_of_mem _ (List.mem_cons_of_mem _ (List.mem_cons_of_mem _ (List.mem_cons_self)))))
      cases hb) [((2 : Nat), qe r ((26909, []) : qL)), ((0 : Nat), qe r ((0, [(0, 1)]) : qL))]
    rw [e2] at e1
    exact congrArg (fun o => o.map (fun v => v.2)) e1
theorem hd_Model_passAddress : ∀ s, Typed gAll s → HC gAll t332 (dk_Model_passAddress s) s := by
  intro s hT j C hC
  match j, hC with
  | 0, hC =>
    cases (show some cq331 = some C from hC)
    exact ⟨_, rfl, rfl, dC_Model_isNamedAs s hT⟩
  | 1, hC =>
    cases (show some cq301 = some C from hC)
    exact ⟨_, rfl, rfl, dC_Model_pass s hT⟩
  | 2, hC =>
    cases (show some cq296 = some C from hC)
    exact ⟨_, rfl, rfl, dC_Model_isSign s hT⟩
  | 3, hC =>
    cases (show some cq330 = some C from hC)
    exact ⟨_, rfl, rfl, dC_Model_isName s hT⟩
  | 4, hC =>
    cases (show some cq298 = some C from hC)
    exact ⟨_, rfl, rfl, dC_Model_registerOf s hT⟩
  | j + 5, hC => cases (show none = some C from hC)
set_option maxHeartbeats 4000000 in
theorem dC_Model_passAddress (s : qSg) (hT : Typed gAll s) : DetC gAll cq332 s (fun as => dm_Model_passAddress as s) := detC_of (p := 1025) (t := 0) (vs := [1, 3]) (zi := [(0, [(0, 1)]), (0, [(4, 1)])]) (Cd := d332) rfl rfl rfl (⟨⟨_, rfl, ⟨_, rfl, (fun z hz => by
    rcases List.mem_cons.mp hz with rfl | hz
    · exact Or.inl (List.mem_cons_self)
    rcases List.mem_cons.mp hz with rfl | hz
    · exact Or.inl (List.mem_cons_of_mem _ (List.mem_cons_self))
    rcases List.mem_cons.mp hz with rfl | hz
    · exact Or.inl (List.mem_cons_of_mem _ (List.mem_cons_of_mem _ (List.mem_cons_self)))
    rcases List.mem_cons.mp hz with rfl | hz
    · exact Or.inl (List.mem_cons_of_mem _ (List.mem_cons_of_mem _ (List.mem_cons_of_mem _ (List.mem_cons_self))))
    rcases List.mem_cons.mp hz with rfl | hz
    · exact Or.inl (List.mem_cons_of_mem _ (List.mem_cons_of_mem _ (List.mem_cons_of_mem _ (List.mem_cons_of_mem _ (List.mem_cons_self)))))
    rcases List.mem_cons.mp hz with rfl | hz
    · exact Or.inl (List.mem_cons_of_mem _ (List.mem_cons_of_mem _ (List.mem_cons_of_mem _ (List.mem_cons_of_mem _ (List.mem_cons_of_mem _ (List.mem_cons_self))))))
    rcases List.mem_cons.mp hz with rfl | hz
    · exact Or.inl (List.mem_cons_of_mem _ (List.mem_cons_of_mem _ (List.mem_cons_of_mem _ (List.mem_cons_of_mem _ (List.mem_cons_of_mem _ (List.mem_cons_of_mem _ (List.mem_cons_self)))))))
    rcases List.mem_cons.mp hz with rfl | hz
    · exact Or.inr rfl
    rcases List.mem_cons.mp hz with rfl | hz
    · exact Or.inl (List.mem_cons_of_mem _ (List.mem_cons_of_mem _ (List.mem_cons_of_mem _ (List.mem_cons_of_mem _ (List.mem_cons_of_mem _ (List.mem_cons_of_mem _ (List.mem_cons_of_mem _ (List.mem_cons_self))))))))
    cases hz), List.mem_cons_of_mem _ (List.mem_cons_of_mem _ (List.mem_cons_of_mem _ (List.mem_cons_of_mem _ (List.mem_cons_of_mem _ (List.mem_cons_of_mem _ (List.mem_cons_of_mem _ (List.mem_cons_self)))))))⟩, Nat.le_of_ble_eq_true rfl, Nat.le_of_ble_eq_true rfl⟩, ⟨⟨_, rfl, ⟨_, rfl, (fun z hz => by
    rcases List.mem_cons.mp hz with rfl | hz
    · exact Or.inl (List.mem_cons_self)
    rcases List.mem_cons.mp hz with rfl | hz
    · exact Or.inl (List.mem_cons_of_mem _ (List.mem_cons_self))
    rcases List.mem_cons.mp hz with rfl | hz
    · exact Or.inl (List.mem_cons_of_mem _ (List.mem_cons_of_mem _ (List.mem_cons_self)))
    rcases List.mem_cons.mp hz with rfl | hz
    · exact Or.inl (List.mem_cons_of_mem _ (List.mem_cons_of_mem _ (List.mem_cons_of_mem _ (List.mem_cons_self))))
    rcases List.mem_cons.mp hz with rfl | hz
    · exact Or.inl (List.mem_cons_of_mem _ (List.mem_cons_of_mem _ (List.mem_cons_of_mem _ (List.mem_cons_of_mem _ (List.mem_cons_self)))))
    rcases List.mem_cons.mp hz with rfl | hz
    · exact Or.inl (List.mem_cons_of_mem _ (List.mem_cons_of_mem _ (List.mem_cons_of_mem _ (List.mem_cons_of_mem _ (List.mem_cons_of_mem _ (List.mem_cons_self))))))
    rcases List.mem_cons.mp hz with rfl | hz
    · exact Or.inl (List.mem_cons_of_mem _ (List.mem_cons_of_mem _ (List.mem_cons_of_mem _ (List.mem_cons_of_mem _ (List.mem_cons_of_mem _ (List.mem_cons_of_mem _ (List.mem_cons_self)))))))
    rcases List.mem_cons.mp hz with rfl | hz
    · exact Or.inr rfl
    cases hz), List.mem_cons_of_mem _ (List.mem_cons_of_mem _ (List.mem_cons_of_mem _ (List.mem_cons_of_mem _ (List.mem_cons_of_mem _ (List.mem_cons_of_mem _ (List.mem_cons_of_mem _ (List.mem_cons_self)))))))⟩, Nat.le_of_ble_eq_true rfl, Nat.le_of_ble_eq_true rfl⟩, trivial⟩⟩) (by decide) (by decide +kernel) (by decide +kernel)
  (fun fs zs z h1 h2 => by
    rw [PQ_c (show fTab[1025]? = none by decide +kernel)]
    match fs, zs, h1, h2 with
    | [f0, f1], [z0, z1], _, _ => exact Iff.rfl) (yDet_b gAll_tag z332 gd_ok (by decide +kernel) (eqCd_ok (by decide +kernel)) hd_Model_passAddress s) (he_Model_passAddress s)
theorem yr332 : yRun gAll t332 b332 cq332 := yRun_d (dc := dc_Model_passAddress) (cl := dk_Model_passAddress) gAll_tag z332 gd_ok (by decide +kernel) (eqCd_ok (by decide +kernel)) hd_Model_passAddress rfl rfl (fun s hT => dC_Model_passAddress s hT)
theorem zw332 : zwid cq332.2.1.1 cq332.1 0 6 = true := by decide +kernel
set_option maxRecDepth 100000 in
theorem yw332 : yRows gAll LAll yt12 mt332 gHo 6 1 (zby cX13_passAddress) p332 b332 p332 = true := by decide +kernel
set_option maxRecDepth 100000 in
theorem m332 (l : Launch) : kMet gAll LAll vwCl rFo rZs rRs rNs rTs l yX13_passAddress cX13_passAddress 6 (some .int) 3 71 cq332 := kmet_y2 (rt := 1) (by decide +kernel) yr332 zw332 rfl yw332 LAll_ok LAll_la yt12_ok gHo_ok rfl (fun G n Qf => List.forall_mem_cons.mpr ⟨⟨cq331, rfl, st322 l (by decide) (by decide)⟩, List.forall_mem_cons.mpr ⟨⟨cq301, rfl, st294 l (by decide) (by decide)⟩, List.forall_mem_cons.mpr ⟨⟨cq296, rfl, st289 l (by decide) (by decide)⟩, List.forall_mem_cons.mpr ⟨⟨cq330, rfl, st323 l (by decide) (by decide)⟩, List.forall_mem_cons.mpr ⟨⟨cq298, rfl, st291 l (by decide) (by decide)⟩, yA_n⟩⟩⟩⟩⟩) rfl (fun G n Rr => yA_n) rfl
/-! 333 Model.readAddress (II)Z -/
def mt333 : yMt := ([(182, (863, 0)), (182, (860, 1)), (182, (766, 2)), (182, (797, 3)), (182, (918, 4)), (182, (836, 5))], ([], ([], [])))
theorem rc333 : yRc cq333 13454 2 = true := by decide +kernel
theorem yr333 : yRun gAll t333 b333 cq333 := yRun_p (cuts := u333) (fuel := 300) gAll_tag ruI2_RtI ruJ2_RtJ rqL_ok ⟨zsm_e _ z333_s, List.forall_mem_cons.mpr ⟨zsm_e _ z333_0, List.forall_mem_cons.mpr ⟨zsm_e _ z333_1, List.forall_mem_cons.mpr ⟨zsm_e _ z333_2, List.forall_mem_cons.mpr ⟨zsm_e _ z333_3, yA_n⟩⟩⟩⟩⟩
theorem zw333 : zwid cq333.2.1.1 cq333.1 0 8 = true := by decide +kernel
set_option maxRecDepth 100000 in
theorem yw333 : yRows gAll LAll yt12 mt333 gHo 8 3 (zby cX13_readAddress) p333 b333 p333 = true := by decide +kernel
set_option maxRecDepth 100000 in
theorem m333 (l : Launch) : kMet gAll LAll vwCl rFo rZs rRs rNs rTs l yX13_readAddress cX13_readAddress 8 (some .boolean) 5 118 cq333 := kmet_y2 (rt := 3) (by decide +kernel) yr333 zw333 rfl yw333 LAll_ok LAll_la yt12_ok gHo_ok rfl (fun G n Qf => List.forall_mem_cons.mpr ⟨⟨cq331, rfl, st322 l (by decide) (by decide)⟩, List.forall_mem_cons.mpr ⟨⟨cq330, rfl, st323 l (by decide) (by decide)⟩, List.forall_mem_cons.mpr ⟨⟨cq298, rfl, st291 l (by decide) (by decide)⟩, List.forall_mem_cons.mpr ⟨⟨cq296, rfl, st289 l (by decide) (by decide)⟩, List.forall_mem_cons.mpr ⟨⟨cq301, rfl, st294 l (by decide) (by decide)⟩, List.forall_mem_cons.mpr ⟨⟨cq290, rfl, st287 l (by decide) (by decide)⟩, yA_n⟩⟩⟩⟩⟩⟩) rfl (fun G n Rr => yA_n) rfl
/-! 334 Model.sizeWord (JJJJ)I -/
def mt334 : yMt := ([], ([], ([], [])))
def fp_Model_sizeWord : List Nat := []
theorem ag_Model_sizeWord {s s' : qSg} (hB : ∀ b ∈ fp_Model_sizeWord, AgB gDet s s' b) (as : List qV) : dm_Model_sizeWord as s = dm_Model_sizeWord as s' := by
  unfold dm_Model_sizeWord
  show zRun gDet (dk_Model_sizeWord s') s dc_Model_sizeWord as = zRun gDet (dk_Model_sizeWord s') s' dc_Model_sizeWord as
  exact zRun_ag gd_ok.P hB (show dc_Model_sizeWord.all (fun x => x.1.all (okF gDet fp_Model_sizeWord)) = true by decide +kernel) as
set_option maxHeartbeats 4000000 in
theorem he_Model_sizeWord (s : qSg) : ∀ as r a v, CtBeg gAll d334 as s r a → Typed gAll s → dm_Model_sizeWord (as.map cnV) s = some v → dEv 1029 (([] : List Nat).map a) (([(0, [(0, 1)]), (0, [(1, 1)]), (0, [(2, 1)]), (0, [(3, 1)])] : List qL).map (qe r)) = some v.2 := by
  intro as r a v hB hT e
  obtain ⟨hlen, ls, hsub, hsat⟩ := hB
  obtain ⟨hls, -, hsc, hav, -⟩ := hsat.now
  have hlen : as.length = 4 := hlen
  match as, hlen with
  | [w0, w1, w2, w3], _ =>
    have x0 := hsub (0, ((1 : Nat), qe r ((0, [(0, 1)]) : qL))) (by rw [hls]; exact List.mem_cons_self)
    cases lsArgs_hd (x0)
    have x1 := hsub (2, ((1 : Nat), qe r ((0, [(1, 1)]) : qL))) (by rw [hls]; exact List.mem_cons_of_mem _ (List.mem_cons_self))
    cases lsArgs_hd (lsArgs_t2 (by decide) (x1))
    have x2 := hsub (4, ((1 : Nat), qe r ((0, [(2, 1)]) : qL))) (by rw [hls]; exact List.mem_cons_of_mem _ (List.mem_cons_of_mem _ (List.mem_cons_self)))
    cases lsArgs_hd (lsArgs_t2 (by decide) (lsArgs_t2 (by decide) (x2)))
    have x3 := hsub (6, ((1 : Nat), qe r ((0, [(3, 1)]) : qL))) (by rw [hls]; exact List.mem_cons_of_mem _ (List.mem_cons_of_mem _ (List.mem_cons_of_mem _ (List.mem_cons_self))))
    cases lsArgs_hd (lsArgs_t2 (by decide) (lsArgs_t2 (by decide) (lsArgs_t2 (by decide) (x3))))
    have e1 : dm_Model_sizeWord [((1 : Nat), qe r ((0, [(0, 1)]) : qL)), ((1 : Nat), qe r ((0, [(1, 1)]) : qL)), ((1 : Nat), qe r ((0, [(2, 1)]) : qL)), ((1 : Nat), qe r ((0, [(3, 1)]) : qL))] s = some v := by
      unfold dm_Model_sizeWord at e ⊢
      rw [zRun_cn (map_cn _)] at e
      exact e
    have e2 := ag_Model_sizeWord (s := s) (s' := dSto [] []) (fun b hb => by
      cases hb) [((1 : Nat), qe r ((0, [(0, 1)]) : qL)), ((1 : Nat), qe r ((0, [(1, 1)]) : qL)), ((1 : Nat), qe r ((0, [(2, 1)]) : qL)), ((1 : Nat), qe r ((0, [(3, 1)]) : qL))]
    rw [e2] at e1
    exact congrArg (fun o => o.map (fun v => v.2)) e1
theorem hd_Model_sizeWord : ∀ s, Typed gAll s → HC gAll t334 (dk_Model_sizeWord s) s := by
  intro s hT j C hC
  match j, hC with
  | j + 0, hC => cases (show none = some C from hC)
set_option maxHeartbeats 4000000 in
theorem dC_Model_sizeWord (s : qSg) (hT : Typed gAll s) : DetC gAll cq334 s (fun as => dm_Model_sizeWord as s) := detC_of (p := 1029) (t := 0) (vs := []) (zi := [(0, [(0, 1)]), (0, [(1, 1)]), (0, [(2, 1)]), (0, [(3, 1)])]) (Cd := d334) rfl rfl rfl (⟨⟨_, rfl, ⟨_, rfl, (fun z hz => by
    rcases List.mem_cons.mp hz with rfl | hz
    · exact Or.inr rfl
    rcases List.mem_cons.mp hz with rfl | hz
    · exact Or.inl (List.mem_cons_self)
    cases hz), List.mem_cons_self⟩, Nat.le_of_ble_eq_true rfl, Nat.le_of_ble_eq_true rfl⟩, trivial⟩) (by decide) (by decide +kernel) (by decide +kernel)
  (fun fs zs z h1 h2 => by
    rw [PQ_c (show fTab[1029]? = none by decide +kernel)]
    match fs, zs, h1, h2 with
    | [], [z0, z1, z2, z3], _, _ => exact Iff.rfl) (yDet_b gAll_tag z334 gd_ok (by decide +kernel) (eqCd_ok (by decide +kernel)) hd_Model_sizeWord s) (he_Model_sizeWord s)
theorem yr334 : yRun gAll t334 b334 cq334 := yRun_d (dc := dc_Model_sizeWord) (cl := dk_Model_sizeWord) gAll_tag z334 gd_ok (by decide +kernel) (eqCd_ok (by decide +kernel)) hd_Model_sizeWord rfl rfl (fun s hT => dC_Model_sizeWord s hT)
theorem zw334 : zwid cq334.2.1.1 cq334.1 0 8 = true := by decide +kernel
set_option maxRecDepth 100000 in
theorem yw334 : yRows gAll LAll yt12 mt334 gHo 8 1 (zby cX13_sizeWord) p334 b334 p334 = true := by decide +kernel
set_option maxRecDepth 100000 in
theorem m334 (l : Launch) : kMet gAll LAll vwCl rFo rZs rRs rNs rTs l yX13_sizeWord cX13_sizeWord 8 (some .int) 0 0 cq334 := kmet_y2 (rt := 1) (by decide +kernel) yr334 zw334 rfl yw334 LAll_ok LAll_la yt12_ok gHo_ok rfl (fun G n Qf => yA_n) rfl (fun G n Rr => yA_n) rfl
/-! 335 Model.fourth ()Z -/
theorem hdS_X13_sizeWord : yX13_sizeWord.cls ≠ "java/lang/invoke/MethodHandle" ∧ yX13_sizeWord.cls ≠ "java/lang/invoke/VarHandle" ∧ (parseMethodDescriptor yX13_sizeWord.desc).map (fun d => d.parameters.length) = some 4 := by decide +kernel
theorem st324 (l : Launch) {G : rGm} {cc : ByteArray} {nL n fr lo : Nat} {ret : Option FieldType} {Qf : kQf} (hf : 1 ≤ fr) (hlo : 27 ≤ lo) : ySite gAll LAll vwCl rFo rZs rRs rNs rTs G l cc nL RX13 ret fr lo n Qf 184 982 cq334 := ys_S 4 rfl (m334 l) kGood kw2493 kw2494 kw315 kw2495 hdS_X13_sizeWord hf hlo
theorem hdV_X13_passAddress : yX13_passAddress.cls = RX13 ∧ yX13_passAddress.cls ≠ "java/lang/invoke/MethodHandle" ∧ yX13_passAddress.cls ≠ "java/lang/invoke/VarHandle" ∧ (parseMethodDescriptor yX13_passAddress.desc).map (fun d => d.parameters.length) = some 1 := by decide +kernel
theorem st325 (l : Launch) {G : rGm} {cc : ByteArray} {nL n fr lo : Nat} {ret : Option FieldType} {Qf : kQf} (hf : 4 ≤ fr) (hlo : 96 ≤ lo) : ySite gAll LAll vwCl rFo rZs rRs rNs rTs G l cc nL RX13 ret fr lo n Qf 182 986 cq332 := ys_V 1 13454 15 rc332 lo_13454 kc15 (m332 l) kGood kw2499 kw2500 kw2501 kw315 kw2671 hdV_X13_passAddress hf hlo
theorem hdV_X13_readAddress : yX13_readAddress.cls = RX13 ∧ yX13_readAddress.cls ≠ "java/lang/invoke/MethodHandle" ∧ yX13_readAddress.cls ≠ "java/lang/invoke/VarHandle" ∧ (parseMethodDescriptor yX13_readAddress.desc).map (fun d => d.parameters.length) = some 2 := by decide +kernel
theorem st326 (l : Launch) {G : rGm} {cc : ByteArray} {nL n fr lo : Nat} {ret : Option FieldType} {Qf : kQf} (hf : 6 ≤ fr) (hlo : 145 ≤ lo) : ySite gAll LAll vwCl rFo rZs rRs rNs rTs G l cc nL RX13 ret fr lo n Qf 182 1031 cq333 := ys_V 2 13454 15 rc333 lo_13454 kc15 (m333 l) kGood kw2502 kw2503 kw2504 kw315 kw2755 hdV_X13_readAddress hf hlo
def mt335 : yMt := ([(182, (860, 0)), (184, (982, 1)), (182, (766, 2)), (182, (797, 3)), (182, (986, 4)), (182, (918, 5)), (182, (1031, 6)), (182, (922, 7))], ([], ([], [])))
theorem rc335 : yRc cq335 13454 0 = true := by decide +kernel
theorem yr335 : yRun gAll t335 b335 cq335 := yRun_p (cuts := u335) (fuel := 300) gAll_tag ruI2_RtI ruJ2_RtJ rqL_ok ⟨zsm_e _ z335_s, List.forall_mem_cons.mpr ⟨zsm_e _ z335_0, List.forall_mem_cons.mpr ⟨zsm_e _ z335_1, List.forall_mem_cons.mpr ⟨zsm_e _ z335_2, List.forall_mem_cons.mpr ⟨zsm_e _ z335_3, yA_n⟩⟩⟩⟩⟩
theorem zw335 : zwid cq335.2.1.1 cq335.1 0 6 = true := by decide +kernel
set_option maxRecDepth 100000 in
theorem yw335 : yRows gAll LAll yt12 mt335 gHo 6 3 (zby cX13_fourth) p335 b335 p335 = true := by decide +kernel
set_option maxRecDepth 100000 in
theorem m335 (l : Launch) : kMet gAll LAll vwCl rFo rZs rRs rNs rTs l yX13_fourth cX13_fourth 6 (some .boolean) 6 145 cq335 := kmet_y2 (rt := 3) (by decide +kernel) yr335 zw335 rfl yw335 LAll_ok LAll_la yt12_ok gHo_ok rfl (fun G n Qf => List.forall_mem_cons.mpr ⟨⟨cq330, rfl, st323 l (by decide) (by decide)⟩, List.forall_mem_cons.mpr ⟨⟨cq334, rfl, st324 l (by decide) (by decide)⟩, List.forall_mem_cons.mpr ⟨⟨cq298, rfl, st291 l (by decide) (by decide)⟩, List.forall_mem_cons.mpr ⟨⟨cq296, rfl, st289 l (by decide) (by decide)⟩, List.forall_mem_cons.mpr ⟨⟨cq332, rfl, st325 l (by decide) (by decide)⟩, List.forall_mem_cons.mpr ⟨⟨cq301, rfl, st294 l (by decide) (by decide)⟩, List.forall_mem_cons.mpr ⟨⟨cq333, rfl, st326 l (by decide) (by decide)⟩, List.forall_mem_cons.mpr ⟨⟨cq291, rfl, st301 l (by decide) (by decide)⟩, yA_n⟩⟩⟩⟩⟩⟩⟩⟩) rfl (fun G n Rr => yA_n) rfl
/-! 336 Model.placeTerms ()Z -/
def mt336 : yMt := ([], ([], ([], [])))
theorem rc336 : yRc cq336 13454 0 = true := by decide +kernel
theorem yr336 : yRun gAll t336 b336 cq336 := yRun_p (cuts := u336) (fuel := 300) gAll_tag ruI2_RtI ruJ2_RtJ rqL_ok ⟨zsm_e _ z336_s, List.forall_mem_cons.mpr ⟨zsm_e _ z336_0, List.forall_mem_cons.mpr ⟨zsm_e _ z336_1, yA_n⟩⟩⟩
theorem zw336 : zwid cq336.2.1.1 cq336.1 0 2 = true := by decide +kernel
set_option maxRecDepth 100000 in
theorem yw336 : yRows gAll LAll yt12 mt336 gHo 2 3 (zby cX13_placeTerms) p336 b336 p336 = true := by decide +kernel
set_option maxRecDepth 100000 in
theorem m336 (l : Launch) : kMet gAll LAll vwCl rFo rZs rRs rNs rTs l yX13_placeTerms cX13_placeTerms 2 (some .boolean) 0 0 cq336 := kmet_y2 (rt := 3) (by decide +kernel) yr336 zw336 rfl yw336 LAll_ok LAll_la yt12_ok gHo_ok rfl (fun G n Qf => yA_n) rfl (fun G n Rr => yA_n) rfl
/-! 337 Model.readOperands (I)Z -/
def mt337 : yMt := ([(182, (860, 0)), (184, (982, 1)), (182, (766, 2)), (182, (797, 3)), (182, (986, 4)), (182, (918, 5))], ([], ([], [])))
theorem rc337 : yRc cq337 13454 1 = true := by decide +kernel
theorem yr337 : yRun gAll t337 b337 cq337 := yRun_p (cuts := u337) (fuel := 300) gAll_tag ruI2_RtI ruJ2_RtJ rqL_ok ⟨zsm_e _ z337_s, List.forall_mem_cons.mpr ⟨zsm_e _ z337_0, List.forall_mem_cons.mpr ⟨zsm_e _ z337_1, yA_n⟩⟩⟩
theorem zw337 : zwid cq337.2.1.1 cq337.1 0 6 = true := by decide +kernel
set_option maxRecDepth 100000 in
theorem yw337 : yRows gAll LAll yt12 mt337 gHo 6 3 (zby cX13_readOperands) p337 b337 p337 = true := by decide +kernel
set_option maxRecDepth 100000 in
theorem m337 (l : Launch) : kMet gAll LAll vwCl rFo rZs rRs rNs rTs l yX13_readOperands cX13_readOperands 6 (some .boolean) 4 96 cq337 := kmet_y2 (rt := 3) (by decide +kernel) yr337 zw337 rfl yw337 LAll_ok LAll_la yt12_ok gHo_ok rfl (fun G n Qf => List.forall_mem_cons.mpr ⟨⟨cq330, rfl, st323 l (by decide) (by decide)⟩, List.forall_mem_cons.mpr ⟨⟨cq334, rfl, st324 l (by decide) (by decide)⟩, List.forall_mem_cons.mpr ⟨⟨cq298, rfl, st291 l (by decide) (by decide)⟩, List.forall_mem_cons.mpr ⟨⟨cq296, rfl, st289 l (by decide) (by decide)⟩, List.forall_mem_cons.mpr ⟨⟨cq332, rfl, st325 l (by decide) (by decide)⟩, List.forall_mem_cons.mpr ⟨⟨cq301, rfl, st294 l (by decide) (by decide)⟩, yA_n⟩⟩⟩⟩⟩⟩) rfl (fun G n Rr => yA_n) rfl
/-! 338 Model.instruction (II)V -/
theorem hdV_X13_readOperands : yX13_readOperands.cls = RX13 ∧ yX13_readOperands.cls ≠ "java/lang/invoke/MethodHandle" ∧ yX13_readOperands.cls ≠ "java/lang/invoke/VarHandle" ∧ (parseMethodDescriptor yX13_readOperands.desc).map (fun d => d.parameters.length) = some 1 := by decide +kernel
theorem st327 (l : Launch) {G : rGm} {cc : ByteArray} {nL n fr lo : Nat} {ret : Option FieldType} {Qf : kQf} (hf : 5 ≤ fr) (hlo : 121 ≤ lo) : ySite gAll LAll vwCl rFo rZs rRs rNs rTs G l cc nL RX13 ret fr lo n Qf 182 1025 cq337 := ys_V 1 13454 15 rc337 lo_13454 kc15 (m337 l) kGood kw2529 kw2530 kw2531 kw315 kw2775 hdV_X13_readOperands hf hlo
theorem hdV_X13_placeTerms : yX13_placeTerms.cls = RX13 ∧ yX13_placeTerms.cls ≠ "java/lang/invoke/MethodHandle" ∧ yX13_placeTerms.cls ≠ "java/lang/invoke/VarHandle" ∧ (parseMethodDescriptor yX13_placeTerms.desc).map (fun d => d.parameters.length) = some 0 := by decide +kernel
theorem st328 (l : Launch) {G : rGm} {cc : ByteArray} {nL n fr lo : Nat} {ret : Option FieldType} {Qf : kQf} (hf : 1 ≤ fr) (hlo : 21 ≤ lo) : ySite gAll LAll vwCl rFo rZs rRs rNs rTs G l cc nL RX13 ret fr lo n Qf 182 1034 cq336 := ys_V 0 13454 15 rc336 lo_13454 kc15 (m336 l) kGood kw2532 kw2533 kw2534 kw315 kw2729 hdV_X13_placeTerms hf hlo
theorem hdV_X13_fourth : yX13_fourth.cls = RX13 ∧ yX13_fourth.cls ≠ "java/lang/invoke/MethodHandle" ∧ yX13_fourth.cls ≠ "java/lang/invoke/VarHandle" ∧ (parseMethodDescriptor yX13_fourth.desc).map (fun d => d.parameters.length) = some 0 := by decide +kernel
theorem st329 (l : Launch) {G : rGm} {cc : ByteArray} {nL n fr lo : Nat} {ret : Option FieldType} {Qf : kQf} (hf : 7 ≤ fr) (hlo : 170 ≤ lo) : ySite gAll LAll vwCl rFo rZs rRs rNs rTs G l cc nL RX13 ret fr lo n Qf 182 1037 cq335 := ys_V 0 13454 15 rc335 lo_13454 kc15 (m335 l) kGood kw2535 kw2536 kw2537 kw315 kw2492 hdV_X13_fourth hf hlo
theorem hdV_X13_findSize : yX13_findSize.cls = RX13 ∧ yX13_findSize.cls ≠ "java/lang/invoke/MethodHandle" ∧ yX13_findSize.cls ≠ "java/lang/invoke/VarHandle" ∧ (parseMethodDescriptor yX13_findSize.desc).map (fun d => d.parameters.length) = some 1 := by decide +kernel
theorem st330 (l : Launch) {G : rGm} {cc : ByteArray} {nL n fr lo : Nat} {ret : Option FieldType} {Qf : kQf} (hf : 1 ≤ fr) (hlo : 26 ≤ lo) : ySite gAll LAll vwCl rFo rZs rRs rNs rTs G l cc nL RX13 ret fr lo n Qf 182 1040 cq329 := ys_V 1 13454 15 rc329 lo_13454 kc15 (m329 l) kGood kw2538 kw2539 kw2540 kw315 kw2470 hdV_X13_findSize hf hlo
theorem hdV_X13_assemble : yX13_assemble.cls = RX13 ∧ yX13_assemble.cls ≠ "java/lang/invoke/MethodHandle" ∧ yX13_assemble.cls ≠ "java/lang/invoke/VarHandle" ∧ (parseMethodDescriptor yX13_assemble.desc).map (fun d => d.parameters.length) = some 0 := by decide +kernel
theorem st331 (l : Launch) {G : rGm} {cc : ByteArray} {nL n fr lo : Nat} {ret : Option FieldType} {Qf : kQf} (hf : 5 ≤ fr) (hlo : 131 ≤ lo) : ySite gAll LAll vwCl rFo rZs rRs rNs rTs G l cc nL RX13 ret fr lo n Qf 182 1043 cq328 := ys_V 0 13454 15 rc328 lo_13454 kc15 (m328 l) kGood kw2541 kw2542 kw2543 kw315 kw2217 hdV_X13_assemble hf hlo
def mt338 : yMt := ([(182, (860, 0)), (182, (645, 1)), (182, (678, 2)), (182, (1025, 3)), (182, (1031, 4)), (182, (1034, 5)), (182, (922, 6)), (182, (1037, 7)), (182, (1040, 8)), (182, (1043, 9))], ([], ([], [])))
theorem rc338 : yRc cq338 13454 2 = true := by decide +kernel
theorem yr338 : yRun gAll t338 b338 cq338 := yRun_p (cuts := u338) (fuel := 300) gAll_tag ruI2_RtI ruJ2_RtJ rqL_ok ⟨zsm_e _ z338_s, List.forall_mem_cons.mpr ⟨zsm_e _ z338_0, List.forall_mem_cons.mpr ⟨zsm_e _ z338_1, List.forall_mem_cons.mpr ⟨zsm_e _ z338_2, yA_n⟩⟩⟩⟩
theorem zw338 : zwid cq338.2.1.1 cq338.1 0 11 = true := by decide +kernel
set_option maxRecDepth 100000 in
theorem yw338 : yRows gAll LAll yt12 mt338 gHo 11 0 (zby cX13_instruction) p338 b338 p338 = true := by decide +kernel
set_option maxRecDepth 100000 in
theorem m338 (l : Launch) : kMet gAll LAll vwCl rFo rZs rRs rNs rTs l yX13_instruction cX13_instruction 11 none 7 170 cq338 := kmet_y2 (rt := 0) (by decide +kernel) yr338 zw338 rfl yw338 LAll_ok LAll_la yt12_ok gHo_ok rfl (fun G n Qf => List.forall_mem_cons.mpr ⟨⟨cq330, rfl, st323 l (by decide) (by decide)⟩, List.forall_mem_cons.mpr ⟨⟨cq299, rfl, st290 l (by decide) (by decide)⟩, List.forall_mem_cons.mpr ⟨⟨cq294, rfl, st299 l (by decide) (by decide)⟩, List.forall_mem_cons.mpr ⟨⟨cq337, rfl, st327 l (by decide) (by decide)⟩, List.forall_mem_cons.mpr ⟨⟨cq333, rfl, st326 l (by decide) (by decide)⟩, List.forall_mem_cons.mpr ⟨⟨cq336, rfl, st328 l (by decide) (by decide)⟩, List.forall_mem_cons.mpr ⟨⟨cq291, rfl, st301 l (by decide) (by decide)⟩, List.forall_mem_cons.mpr ⟨⟨cq335, rfl, st329 l (by decide) (by decide)⟩, List.forall_mem_cons.mpr ⟨⟨cq329, rfl, st330 l (by decide) (by decide)⟩, List.forall_mem_cons.mpr ⟨⟨cq328, rfl, st331 l (by decide) (by decide)⟩, yA_n⟩⟩⟩⟩⟩⟩⟩⟩⟩⟩) rfl (fun G n Rr => yA_n) rfl
/-! 339 Model.nameAll (II)V -/
def mt339 : yMt := ([(182, (860, 0)), (182, (797, 1)), (182, (678, 2)), (182, (772, 3)), (182, (788, 4))], ([], ([], [])))
theorem rc339 : yRc cq339 13454 2 = true := by decide +kernel
theorem yr339 : yRun gAll t339 b339 cq339 := yRun_p (cuts := u339) (fuel := 300) gAll_tag ruI2_RtI ruJ2_RtJ rqL_ok ⟨zsm_e _ z339_s, List.forall_mem_cons.mpr ⟨zsm_e _ z339_0, List.forall_mem_cons.mpr ⟨zsm_e _ z339_1, yA_n⟩⟩⟩
theorem zw339 : zwid cq339.2.1.1 cq339.1 0 7 = true := by decide +kernel
set_option maxRecDepth 100000 in
theorem yw339 : yRows gAll LAll yt12 mt339 gHo 7 0 (zby cX13_nameAll) p339 b339 p339 = true := by decide +kernel
set_option maxRecDepth 100000 in
theorem m339 (l : Launch) : kMet gAll LAll vwCl rFo rZs rRs rNs rTs l yX13_nameAll cX13_nameAll 7 none 3 68 cq339 := kmet_y2 (rt := 0) (by decide +kernel) yr339 zw339 rfl yw339 LAll_ok LAll_la yt12_ok gHo_ok rfl (fun G n Qf => List.forall_mem_cons.mpr ⟨⟨cq330, rfl, st323 l (by decide) (by decide)⟩, List.forall_mem_cons.mpr ⟨⟨cq296, rfl, st289 l (by decide) (by decide)⟩, List.forall_mem_cons.mpr ⟨⟨cq294, rfl, st299 l (by decide) (by decide)⟩, List.forall_mem_cons.mpr ⟨⟨cq285, rfl, st282 l (by decide) (by decide)⟩, List.forall_mem_cons.mpr ⟨⟨cq284, rfl, st283 l (by decide) (by decide)⟩, yA_n⟩⟩⟩⟩⟩) rfl (fun G n Rr => yA_n) rfl
/-! 340 Model.endOfLine (I)I -/
def mt340 : yMt := ([], ([], ([], [])))
theorem rc340 : yRc cq340 13454 1 = true := by decide +kernel
theorem yr340 : yRun gAll t340 b340 cq340 := yRun_p (cuts := u340) (fuel := 300) gAll_tag ruI2_RtI ruJ2_RtJ rqL_ok ⟨zsm_e _ z340_s, List.forall_mem_cons.mpr ⟨zsm_e _ z340_0, yA_n⟩⟩
theorem zw340 : zwid cq340.2.1.1 cq340.1 0 3 = true := by decide +kernel
set_option maxRecDepth 100000 in
theorem yw340 : yRows gAll LAll yt12 mt340 gHo 3 1 (zby cX13_endOfLine) p340 b340 p340 = true := by decide +kernel
set_option maxRecDepth 100000 in
theorem m340 (l : Launch) : kMet gAll LAll vwCl rFo rZs rRs rNs rTs l yX13_endOfLine cX13_endOfLine 3 (some .int) 0 0 cq340 := kmet_y2 (rt := 1) (by decide +kernel) yr340 zw340 rfl yw340 LAll_ok LAll_la yt12_ok gHo_ok rfl (fun G n Qf => yA_n) rfl (fun G n Rr => yA_n) rfl
/-! 341 Model.isDigit (I)Z -/
def mt341 : yMt := ([], ([], ([], [])))
theorem yr341 : yRun gAll t341 b341 cq341 := yRun_z gAll_tag ruI2_RtI ruJ2_RtJ rqL_ok z341
theorem zw341 : zwid cq341.2.1.1 cq341.1 0 1 = true := by decide +kernel
set_option maxRecDepth 100000 in
theorem yw341 : yRows gAll LAll yt12 mt341 gHo 1 3 (zby cX13_isDigit) p341 b341 p341 = true := by decide +kernel
set_option maxRecDepth 100000 in
theorem m341 (l : Launch) : kMet gAll LAll vwCl rFo rZs rRs rNs rTs l yX13_isDigit cX13_isDigit 1 (some .boolean) 0 0 cq341 := kmet_y2 (rt := 3) (by decide +kernel) yr341 zw341 rfl yw341 LAll_ok LAll_la yt12_ok gHo_ok rfl (fun G n Qf => yA_n) rfl (fun G n Rr => yA_n) rfl
/-! 342 Model.isLetter (I)Z -/
def mt342 : yMt := ([], ([], ([], [])))
theorem yr342 : yRun gAll t342 b342 cq342 := yRun_z gAll_tag ruI2_RtI ruJ2_RtJ rqL_ok z342
theorem zw342 : zwid cq342.2.1.1 cq342.1 0 1 = true := by decide +kernel
set_option maxRecDepth 100000 in
theorem yw342 : yRows gAll LAll yt12 mt342 gHo 1 3 (zby cX13_isLetter) p342 b342 p342 = true := by decide +kernel
set_option maxRecDepth 100000 in
theorem m342 (l : Launch) : kMet gAll LAll vwCl rFo rZs rRs rNs rTs l yX13_isLetter cX13_isLetter 1 (some .boolean) 0 0 cq342 := kmet_y2 (rt := 3) (by decide +kernel) yr342 zw342 rfl yw342 LAll_ok LAll_la yt12_ok gHo_ok rfl (fun G n Qf => yA_n) rfl (fun G n Rr => yA_n) rfl
/-! 343 Model.isNamed (I)Z -/
theorem hdS_X13_isLetter : yX13_isLetter.cls ≠ "java/lang/invoke/MethodHandle" ∧ yX13_isLetter.cls ≠ "java/lang/invoke/VarHandle" ∧ (parseMethodDescriptor yX13_isLetter.desc).map (fun d => d.parameters.length) = some 1 := by decide +kernel
theorem st332 (l : Launch) {G : rGm} {cc : ByteArray} {nL n fr lo : Nat} {ret : Option FieldType} {Qf : kQf} (hf : 1 ≤ fr) (hlo : 20 ≤ lo) : ySite gAll LAll vwCl rFo rZs rRs rNs rTs G l cc nL RX13 ret fr lo n Qf 184 614 cq342 := ys_S 1 rfl (m342 l) kGood kw2569 kw2570 kw315 kw2561 hdS_X13_isLetter hf hlo
theorem hdS_X13_isDigit : yX13_isDigit.cls ≠ "java/lang/invoke/MethodHandle" ∧ yX13_isDigit.cls ≠ "java/lang/invoke/VarHandle" ∧ (parseMethodDescriptor yX13_isDigit.desc).map (fun d => d.parameters.length) = some 1 := by decide +kernel
theorem st333 (l : Launch) {G : rGm} {cc : ByteArray} {nL n fr lo : Nat} {ret : Option FieldType} {Qf : kQf} (hf : 1 ≤ fr) (hlo : 20 ≤ lo) : ySite gAll LAll vwCl rFo rZs rRs rNs rTs G l cc nL RX13 ret fr lo n Qf 184 618 cq341 := ys_S 1 rfl (m341 l) kGood kw2380 kw2381 kw315 kw2382 hdS_X13_isDigit hf hlo
def mt343 : yMt := ([(184, (614, 0)), (184, (618, 1))], ([], ([], [])))
theorem yr343 : yRun gAll t343 b343 cq343 := yRun_z gAll_tag ruI2_RtI ruJ2_RtJ rqL_ok z343
theorem zw343 : zwid cq343.2.1.1 cq343.1 0 1 = true := by decide +kernel
set_option maxRecDepth 100000 in
theorem yw343 : yRows gAll LAll yt12 mt343 gHo 1 3 (zby cX13_isNamed) p343 b343 p343 = true := by decide +kernel
set_option maxRecDepth 100000 in
theorem m343 (l : Launch) : kMet gAll LAll vwCl rFo rZs rRs rNs rTs l yX13_isNamed cX13_isNamed 1 (some .boolean) 1 20 cq343 := kmet_y2 (rt := 3) (by decide +kernel) yr343 zw343 rfl yw343 LAll_ok LAll_la yt12_ok gHo_ok rfl (fun G n Qf => List.forall_mem_cons.mpr ⟨⟨cq342, rfl, st332 l (by decide) (by decide)⟩, List.forall_mem_cons.mpr ⟨⟨cq341, rfl, st333 l (by decide) (by decide)⟩, yA_n⟩⟩) rfl (fun G n Rr => yA_n) rfl
/-! 344 Model.packed/tape ([BII)J -/
theorem hdS_X13_isNamed : yX13_isNamed.cls ≠ "java/lang/invoke/MethodHandle" ∧ yX13_isNamed.cls ≠ "java/lang/invoke/VarHandle" ∧ (parseMethodDescriptor yX13_isNamed.desc).map (fun d => d.parameters.length) = some 1 := by decide +kernel
theorem st334 (l : Launch) {G : rGm} {cc : ByteArray} {nL n fr lo : Nat} {ret : Option FieldType} {Qf : kQf} (hf : 2 ≤ fr) (hlo : 40 ≤ lo) : ySite gAll LAll vwCl rFo rZs rRs rNs rTs G l cc nL RX13 ret fr lo n Qf 184 621 cq343 := ys_S 1 rfl (m343 l) kGood kw2662 kw2663 kw315 kw2568 hdS_X13_isNamed hf hlo
def mt344 : yMt := ([(184, (621, 0)), (184, (618, 1))], ([], ([], [])))
theorem yr344 : yRun gAll t344 b344 cq344 := yRun_p (cuts := u344) (fuel := 300) gAll_tag ruI2_RtI ruJ2_RtJ rqL_ok ⟨zsm_e _ z344_s, List.forall_mem_cons.mpr ⟨zsm_e _ z344_0, yA_n⟩⟩
theorem zw344 : zwid cq344.2.1.1 cq344.1 0 7 = true := by decide +kernel
set_option maxRecDepth 100000 in
theorem yw344 : yRows gAll LAll yt12 mt344 gHo 7 2 (zby cX13_packed) p344 b344 p344 = true := by decide +kernel
set_option maxRecDepth 100000 in
theorem m344 (l : Launch) : kMet gAll LAll vwCl rFo rZs rRs rNs rTs l yX13_packed cX13_packed 7 (some .long) 2 40 cq344 := kmet_y2 (rt := 2) (by decide +kernel) yr344 zw344 rfl yw344 LAll_ok LAll_la yt12_ok gHo_ok rfl (fun G n Qf => List.forall_mem_cons.mpr ⟨⟨cq343, rfl, st334 l (by decide) (by decide)⟩, List.forall_mem_cons.mpr ⟨⟨cq341, rfl, st333 l (by decide) (by decide)⟩, yA_n⟩⟩) rfl (fun G n Rr => yA_n) rfl
/-! 345 Model.firstWord (II)I -/
theorem hdS_X13_packed : yX13_packed.cls ≠ "java/lang/invoke/MethodHandle" ∧ yX13_packed.cls ≠ "java/lang/invoke/VarHandle" ∧ (parseMethodDescriptor yX13_packed.desc).map (fun d => d.parameters.length) = some 3 := by decide +kernel
theorem st335 (l : Launch) {G : rGm} {cc : ByteArray} {nL n fr lo : Nat} {ret : Option FieldType} {Qf : kQf} (hf : 3 ≤ fr) (hlo : 66 ≤ lo) : ySite gAll LAll vwCl rFo rZs rRs rNs rTs G l cc nL RX13 ret fr lo n Qf 184 641 cq344 := ys_S 3 rfl (m344 l) kGood kw2483 kw2484 kw315 kw2485 hdS_X13_packed hf hlo
def mt345 : yMt := ([(184, (641, 0)), (182, (645, 1))], ([], ([], [])))
theorem rc345 : yRc cq345 13454 2 = true := by decide +kernel
theorem yr345 : yRun gAll t345 b345 cq345 := yRun_p (cuts := u345) (fuel := 300) gAll_tag ruI2_RtI ruJ2_RtJ rqL_ok ⟨zsm_e _ z345_s, List.forall_mem_cons.mpr ⟨zsm_e _ z345_0, yA_n⟩⟩
theorem zw345 : zwid cq345.2.1.1 cq345.1 0 4 = true := by decide +kernel
set_option maxRecDepth 100000 in
theorem yw345 : yRows gAll LAll yt12 mt345 gHo 4 1 (zby cX13_firstWord) p345 b345 p345 = true := by decide +kernel
set_option maxRecDepth 100000 in
theorem m345 (l : Launch) : kMet gAll LAll vwCl rFo rZs rRs rNs rTs l yX13_firstWord cX13_firstWord 4 (some .int) 3 66 cq345 := kmet_y2 (rt := 1) (by decide +kernel) yr345 zw345 rfl yw345 LAll_ok LAll_la yt12_ok gHo_ok rfl (fun G n Qf => List.forall_mem_cons.mpr ⟨⟨cq344, rfl, st335 l (by decide) (by decide)⟩, List.forall_mem_cons.mpr ⟨⟨cq299, rfl, st290 l (by decide) (by decide)⟩, yA_n⟩⟩) rfl (fun G n Rr => yA_n) rfl
/-! 346 Model.findEnd (IIIIIZ)Z -/
theorem hdV_X13_endOfLine : yX13_endOfLine.cls = RX13 ∧ yX13_endOfLine.cls ≠ "java/lang/invoke/MethodHandle" ∧ yX13_endOfLine.cls ≠ "java/lang/invoke/VarHandle" ∧ (parseMethodDescriptor yX13_endOfLine.desc).map (fun d => d.parameters.length) = some 1 := by decide +kernel
theorem st336 (l : Launch) {G : rGm} {cc : ByteArray} {nL n fr lo : Nat} {ret : Option FieldType} {Qf : kQf} (hf : 1 ≤ fr) (hlo : 22 ≤ lo) : ySite gAll LAll vwCl rFo rZs rRs rNs rTs G l cc nL RX13 ret fr lo n Qf 182 652 cq340 := ys_V 1 13454 15 rc340 lo_13454 kc15 (m340 l) kGood kw2454 kw2455 kw2456 kw315 kw2407 hdV_X13_endOfLine hf hlo
theorem hdV_X13_firstWord : yX13_firstWord.cls = RX13 ∧ yX13_firstWord.cls ≠ "java/lang/invoke/MethodHandle" ∧ yX13_firstWord.cls ≠ "java/lang/invoke/VarHandle" ∧ (parseMethodDescriptor yX13_firstWord.desc).map (fun d => d.parameters.length) = some 2 := by decide +kernel
theorem st337 (l : Launch) {G : rGm} {cc : ByteArray} {nL n fr lo : Nat} {ret : Option FieldType} {Qf : kQf} (hf : 4 ≤ fr) (hlo : 89 ≤ lo) : ySite gAll LAll vwCl rFo rZs rRs rNs rTs G l cc nL RX13 ret fr lo n Qf 182 656 cq345 := ys_V 2 13454 15 rc345 lo_13454 kc15 (m345 l) kGood kw2457 kw2458 kw2459 kw315 kw2482 hdV_X13_firstWord hf hlo
def mt346 : yMt := ([(182, (652, 0)), (182, (656, 1))], ([], ([], [])))
theorem rc346 : yRc cq346 13454 6 = true := by decide +kernel
theorem yr346 : yRun gAll t346 b346 cq346 := yRun_p (cuts := u346) (fuel := 300) gAll_tag ruI2_RtI ruJ2_RtJ rqL_ok ⟨zsm_e _ z346_s, List.forall_mem_cons.mpr ⟨zsm_e _ z346_0, List.forall_mem_cons.mpr ⟨zsm_e _ z346_1, yA_n⟩⟩⟩
theorem zw346 : zwid cq346.2.1.1 cq346.1 0 12 = true := by decide +kernel
set_option maxRecDepth 100000 in
theorem yw346 : yRows gAll LAll yt12 mt346 gHo 12 3 (zby cX13_findEnd) p346 b346 p346 = true := by decide +kernel
set_option maxRecDepth 100000 in
theorem m346 (l : Launch) : kMet gAll LAll vwCl rFo rZs rRs rNs rTs l yX13_findEnd cX13_findEnd 12 (some .boolean) 4 89 cq346 := kmet_y2 (rt := 3) (by decide +kernel) yr346 zw346 rfl yw346 LAll_ok LAll_la yt12_ok gHo_ok rfl (fun G n Qf => List.forall_mem_cons.mpr ⟨⟨cq340, rfl, st336 l (by decide) (by decide)⟩, List.forall_mem_cons.mpr ⟨⟨cq345, rfl, st337 l (by decide) (by decide)⟩, yA_n⟩⟩) rfl (fun G n Rr => yA_n) rfl
/-! 347 Model.goBehind ()V -/
def mt347 : yMt := ([], ([], ([], [])))
theorem rc347 : yRc cq347 13454 0 = true := by decide +kernel
theorem yr347 : yRun gAll t347 b347 cq347 := yRun_z gAll_tag ruI2_RtI ruJ2_RtJ rqL_ok z347
theorem zw347 : zwid cq347.2.1.1 cq347.1 0 1 = true := by decide +kernel
set_option maxRecDepth 100000 in
theorem yw347 : yRows gAll LAll yt12 mt347 gHo 1 0 (zby cX13_goBehind) p347 b347 p347 = true := by decide +kernel
set_option maxRecDepth 100000 in
theorem m347 (l : Launch) : kMet gAll LAll vwCl rFo rZs rRs rNs rTs l yX13_goBehind cX13_goBehind 1 none 0 0 cq347 := kmet_y2 (rt := 0) (by decide +kernel) yr347 zw347 rfl yw347 LAll_ok LAll_la yt12_ok gHo_ok rfl (fun G n Qf => yA_n) rfl (fun G n Rr => yA_n) rfl
