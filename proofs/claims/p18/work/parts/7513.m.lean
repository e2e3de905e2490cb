/-! METHODS, CALLEES FIRST (written by wip/p2/genmeth.py) -/
/-! 301 Model.pass (IZ)I -/
theorem hdV_X13_isValue : yX13_isValue.cls = RX13 ∧ yX13_isValue.cls ≠ "java/lang/invoke/MethodHandle" ∧ yX13_isValue.cls ≠ "java/lang/invoke/VarHandle" ∧ (parseMethodDescriptor yX13_isValue.desc).map (fun d => d.parameters.length) = some 1 := by decide +kernel
theorem st292 (l : Launch) {G : rGm} {cc : ByteArray} {nL n fr lo : Nat} {ret : Option FieldType} {Qf : kQf} (hf : 2 ≤ fr) (hlo : 45 ≤ lo) : ySite gAll LAll vwCl rFo rZs rRs rNs rTs G l cc nL RX13 ret fr lo n Qf 182 801 cq300 := ys_V 1 13454 15 rc300 lo_13454 kc15 (m300 l) kGood kw2677 kw2678 kw2679 kw315 kw2578 hdV_X13_isValue hf hlo
theorem hdV_X13_isFront : yX13_isFront.cls = RX13 ∧ yX13_isFront.cls ≠ "java/lang/invoke/MethodHandle" ∧ yX13_isFront.cls ≠ "java/lang/invoke/VarHandle" ∧ (parseMethodDescriptor yX13_isFront.desc).map (fun d => d.parameters.length) = some 1 := by decide +kernel
theorem st293 (l : Launch) {G : rGm} {cc : ByteArray} {nL n fr lo : Nat} {ret : Option FieldType} {Qf : kQf} (hf : 2 ≤ fr) (hlo : 43 ≤ lo) : ySite gAll LAll vwCl rFo rZs rRs rNs rTs G l cc nL RX13 ret fr lo n Qf 182 804 cq297 := ys_V 1 13454 15 rc297 lo_13454 kc15 (m297 l) kGood kw2680 kw2681 kw2682 kw315 kw2559 hdV_X13_isFront hf hlo
def mt301 : yMt := ([(182, (797, 0)), (182, (801, 1)), (182, (804, 2)), (184, (807, 3))], ([], ([], [])))
theorem rc301 : yRc cq301 13454 2 = true := by decide +kernel
def fp_Model_pass : List Nat := [191, 192, 202, 231, 288, 289, 290, 291, 347, 350]
theorem ag_Model_pass {s s' : qSg} (hB : ∀ b ∈ fp_Model_pass, AgB gDet s s' b) (as : List qV) : dm_Model_pass as s = dm_Model_pass as s' := by
  unfold dm_Model_pass
  have e : dk_Model_pass s = dk_Model_pass s' := by
    funext i
    match i with
    | 0 => exact congrArg (fun f => some (3, f)) (funext fun as => ag_Model_isSign (fun b hb => hB b ((show ∀ b ∈ fp_Model_isSign, b ∈ fp_Model_pass by decide +kernel) b hb)) as)
    | 1 => exact congrArg (fun f => some (2, f)) (funext fun as => ag_Model_isValue (fun b hb => hB b ((show ∀ b ∈ fp_Model_isValue, b ∈ fp_Model_pass by decide +kernel) b hb)) as)
    | 2 => exact congrArg (fun f => some (2, f)) (funext fun as => ag_Model_isFront (fun b hb => hB b ((show ∀ b ∈ fp_Model_isFront, b ∈ fp_Model_pass by decide +kernel) b hb)) as)
    | 3 => exact congrArg (fun f => some (1, f)) (funext fun as => ag_Model_strength (fun b hb => hB b ((show ∀ b ∈ fp_Model_strength, b ∈ fp_Model_pass by decide +kernel) b hb)) as)
    | i + 4 => exact (show dk_Model_pass s (i + 4) = none from rfl).trans (show none = dk_Model_pass s' (i + 4) from rfl)
  rw [e]
  exact zRun_ag gd_ok.P hB (show dc_Model_pass.all (fun x => x.1.all (okF gDet fp_Model_pass)) = true by decide +kernel) as
set_option maxHeartbeats 4000000 in
theorem he_Model_pass (s : qSg) : ∀ as r a v, CtBeg gAll d301 as s r a → Typed gAll s → dm_Model_pass (as.map cnV) s = some v → dEv 1023 (([1, 3] : List Nat).map a) (([(0, [(0, 1)]), (0, [(1, 1)]), (0, [(4, 1)])] : List qL).map (qe r)) = some v.2 := by
  intro as r a v hB hT e
  obtain ⟨hlen, ls, hsub, hsat⟩ := hB
  obtain ⟨hls, -, hsc, hav, -⟩ := hsat.now
  have hlen : as.length = 3 := hlen
  match as, hlen with
  | [w0, w1, w2], _ =>
    have x0 := hsub (0, ((2 : Nat), qe r ((26909, []) : qL))) (by rw [hls]; exact List.mem_cons_self)
    cases lsArgs_hd (x0)
    have x1 := hsub (1, ((0 : Nat), qe r ((0, [(0, 1)]) : qL))) (by rw [hls]; exact List.mem_cons_of_mem _ (List.mem_cons_self))
    cases lsArgs_hd (lsArgs_tl (by decide) (by decide) (x1))
    have x2 := hsub (2, ((0 : Nat), qe r ((0, [(1, 1)]) : qL))) (by rw [hls]; exact List.mem_cons_of_mem _ (List.mem_cons_of_mem _ (List.mem_cons_self)))
    cases lsArgs_hd (lsArgs_tl (by decide) (by decide) (lsArgs_tl (by decide) (by decide) (x2)))
    have e1 : dm_Model_pass [((2 : Nat), qe r ((26909, []) : qL)), ((0 : Nat), qe r ((0, [(0, 1)]) : qL)), ((0 : Nat), qe r ((0, [(1, 1)]) : qL))] s = some v := by
      unfold dm_Model_pass at e ⊢
      rw [zRun_cn (map_cn _)] at e
      exact e
    have e2 := ag_Model_pass (s := s) (s' := dSto [(347, dF (([1, 3] : List Nat).map a) 0), (350, dF (([1, 3] : List Nat).map a) 1)] [(231, dZ (([(0, [(0, 1)]), (0, [(1, 1)]), (0, [(4, 1)])] : List qL).map (qe r)) 2)]) (fun b hb => by
      rcases List.mem_cons.mp hb with rfl | hb
      · exact yCon gd_ok hT (by decide +kernel) rfl rfl
      rcases List.mem_cons.mp hb with rfl | hb
      · exact yCon gd_ok hT (by decide +kernel) rfl rfl
      rcases List.mem_cons.mp hb with rfl | hb
      · exact yCon gd_ok hT (by decide +kernel) rfl rfl
      rcases List.mem_cons.mp hb with rfl | hb
      · exact yFld (by decide +kernel) rfl rfl (hsc (231, (0, [(4, 1)])) (List.mem_cons_of_mem _ (List.mem_cons_of_mem _ (List.mem_cons_self))))
      rcases List.mem_cons.mp hb with rfl | hb
      · exact yCon gd_ok hT (by decide +kernel) rfl rfl
      rcases List.mem_cons.mp hb with rfl | hb
      · exact yCon gd_ok hT (by decide +kernel) rfl rfl
      rcases List.mem_cons.mp hb with rfl | hb
      · exact yCon gd_ok hT (by decide +kernel) rfl rfl
      rcases List.mem_cons.mp hb with rfl | hb
      · exact yCon gd_ok hT (by decide +kernel) rfl rfl
      rcases List.mem_cons.mp hb with rfl | hb
      · exact yArr rfl (hav (347, 1) (List.mem_cons_of_mem _ (List.mem_cons_self)))
      rcases List.mem_cons.mp hb with rfl | hb
      · exact yArr rfl (hav (350, 3) (List.mem_cons_of_mem _ (List.mem_cons_of_mem _ (List.mem_cons_of_mem _ (List.mem_cons_self)))))
      cases hb) [((2 : Nat), qe r ((26909, []) : qL)), ((0 : Nat), qe r ((0, [(0, 1)]) : qL)), ((0 : Nat), qe r ((0, [(1, 1)]) : qL))]
    rw [e2] at e1
    exact congrArg (fun o => o.map (fun v => v.2)) e1
theorem hd_Model_pass : ∀ s, Typed gAll s → HC gAll t301 (dk_Model_pass s) s := by
  intro s hT j C hC
  match j, hC with
  | 0, hC =>
    cases (show some cq296 = some C from hC)
    exact ⟨_, rfl, rfl, dC_Model_isSign s hT⟩
  | 1, hC =>
    cases (show some cq300 = some C from hC)
    exact ⟨_, rfl, rfl, dC_Model_isValue s hT⟩
  | 2, hC =>
    cases (show some cq297 = some C from hC)
    exact ⟨_, rfl, rfl, dC_Model_isFront s hT⟩
  | 3, hC =>
    cases (show some cq289 = some C from hC)
    exact ⟨_, rfl, rfl, dC_Model_strength s hT⟩
  | j + 4, hC => cases (show none = some C from hC)
set_option maxHeartbeats 4000000 in
theorem dC_Model_pass (s : qSg) (hT : Typed gAll s) : DetC gAll cq301 s (fun as => dm_Model_pass as s) := detC_of (p := 1023) (t := 0) (vs := [1, 3]) (zi := [(0, [(0, 1)]), (0, [(1, 1)]), (0, [(4, 1)])]) (Cd := d301) rfl rfl rfl (⟨⟨_, rfl, ⟨_, rfl, (fun z hz => by
    rcases List.mem_cons.mp hz with rfl | hz
    · exact Or.inl (List.mem_cons_self)
    rcases List.mem_cons.mp hz with rfl | hz
    · exact Or.inl (List.mem_cons_of_mem _ (List.mem_cons_self))
    rcases List.mem_cons.mp hz with rfl | hz
    · exact Or.inl (List.mem_cons_of_mem _ (List.mem_cons_of_mem _ (List.mem_cons_self)))
    rcases List.mem_cons.mp hz with rfl | hz
    · exact Or.inl (List.mem_cons_of_mem _ (List.mem_cons_of_mem _ (List.mem_cons_of_mem _ (List.mem_cons_self))))
    rcases List.mem_cons.mp hz with rfl | hz
    · exact Or.inl (List.mem_cons_of_mem _ (List.mem_cons_of_mem _ (List.mem_cons_of_mem _ (List.mem_cons_of_mem _ (List.mem_cons_self)))))
    rcases List.mem_cons.mp hz with rfl | hz
    · exact Or.inl (List.mem_cons_of_mem _ (List.mem_cons_of_mem _ (List.mem_cons_of_mem _ (List.mem_cons_of_mem _ (List.mem_cons_of_mem _ (List.mem_cons_self))))))
    rcases List.mem_cons.mp hz with rfl | hz
    · exact Or.inl (List.mem_cons_of_mem _ (List.mem_cons_of_mem _ (List.mem_cons_of_mem _ (List.mem_cons_of_mem _ (List.mem_cons_of_mem _ (List.mem_cons_of_mem _ (List.mem_cons_self)))))))
    rcases List.mem_cons.mp hz with rfl | hz
    · exact Or.inr rfl
    cases hz), List.mem_cons_of_mem _ (List.mem_cons_of_mem _ (List.mem_cons_of_mem _ (List.mem_cons_of_mem _ (List.mem_cons_of_mem _ (List.mem_cons_of_mem _ (List.mem_cons_of_mem _ (List.mem_cons_self)))))))⟩, Nat.le_of_ble_eq_true rfl, Nat.le_of_ble_eq_true rfl⟩, ⟨⟨_, rfl, ⟨_, rfl, (fun z hz => by
    rcases List.mem_cons.mp hz with rfl | hz
    · exact Or.inl (List.mem_cons_self)
    rcases List.mem_cons.mp hz with rfl | hz
    · exact Or.inl (List.mem_cons_of_mem _ (List.mem_cons_self))
    rcases List.mem_cons.mp hz with rfl | hz
    · exact Or.inl (List.mem_cons_of_mem _ (List.mem_cons_of_mem _ (List.mem_cons_self)))
    rcases List.mem_cons.mp hz with rfl | hz
    · exact Or.inl (List.mem_cons_of_mem _ (List.mem_cons_of_mem _ (List.mem_cons_of_mem _ (List.mem_cons_self))))
    rcases List.mem_cons.mp hz with rfl | hz
    · exact Or.inl (List.mem_cons_of_mem _ (List.mem_cons_of_mem _ (List.mem_cons_of_mem _ (List.mem_cons_of_mem _ (List.mem_cons_self)))))
    rcases List.mem_cons.mp hz with rfl | hz
    · exact Or.inl (List.mem_cons_of_mem _ (List.mem_cons_of_mem _ (List.mem_cons_of_mem _ (List.mem_cons_of_mem _ (List.mem_cons_of_mem _ (List.mem_cons_self))))))
    rcases List.mem_cons.mp hz with rfl | hz
    · exact Or.inl (List.mem_cons_of_mem _ (List.mem_cons_of_mem _ (List.mem_cons_of_mem _ (List.mem_cons_of_mem _ (List.mem_cons_of_mem _ (List.mem_cons_of_mem _ (List.mem_cons_self)))))))
    rcases List.mem_cons.mp hz with rfl | hz
    · exact Or.inr rfl
    rcases List.mem_cons.mp hz with rfl | hz
    · exact Or.inl (List.mem_cons_of_mem _ (List.mem_cons_of_mem _ (List.mem_cons_of_mem _ (List.mem_cons_of_mem _ (List.mem_cons_of_mem _ (List.mem_cons_of_mem _ (List.mem_cons_of_mem _ (List.mem_cons_self))))))))
    cases hz), List.mem_cons_of_mem _ (List.mem_cons_of_mem _ (List.mem_cons_of_mem _ (List.mem_cons_of_mem _ (List.mem_cons_of_mem _ (List.mem_cons_of_mem _ (List.mem_cons_of_mem _ (List.mem_cons_self)))))))⟩, Nat.le_of_ble_eq_true rfl, Nat.le_of_ble_eq_true rfl⟩, trivial⟩⟩) (by decide) (by decide +kernel) (by decide +kernel)
  (fun fs zs z h1 h2 => by
    rw [PQ_c (show fTab[1023]? = none by decide +kernel)]
    match fs, zs, h1, h2 with
    | [f0, f1], [z0, z1, z2], _, _ => exact Iff.rfl) (yDet_b gAll_tag z301 gd_ok (by decide +kernel) (eqCd_ok (by decide +kernel)) hd_Model_pass s) (he_Model_pass s)
theorem yr301 : yRun gAll t301 b301 cq301 := yRun_d (dc := dc_Model_pass) (cl := dk_Model_pass) gAll_tag z301 gd_ok (by decide +kernel) (eqCd_ok (by decide +kernel)) hd_Model_pass rfl rfl (fun s hT => dC_Model_pass s hT)
theorem zw301 : zwid cq301.2.1.1 cq301.1 0 7 = true := by decide +kernel
set_option maxRecDepth 100000 in
theorem yw301 : yRows gAll LAll yt12 mt301 gHo 7 1 (zby cX13_pass) p301 b301 p301 = true := by decide +kernel
set_option maxRecDepth 100000 in
theorem m301 (l : Launch) : kMet gAll LAll vwCl rFo rZs rRs rNs rTs l yX13_pass cX13_pass 7 (some .int) 2 45 cq301 := kmet_y2 (rt := 1) (by decide +kernel) yr301 zw301 rfl yw301 LAll_ok LAll_la yt12_ok gHo_ok rfl (fun G n Qf => List.forall_mem_cons.mpr ⟨⟨cq296, rfl, st289 l (by decide) (by decide)⟩, List.forall_mem_cons.mpr ⟨⟨cq300, rfl, st292 l (by decide) (by decide)⟩, List.forall_mem_cons.mpr ⟨⟨cq297, rfl, st293 l (by decide) (by decide)⟩, List.forall_mem_cons.mpr ⟨⟨cq289, rfl, st286 l (by decide) (by decide)⟩, yA_n⟩⟩⟩⟩) rfl (fun G n Rr => yA_n) rfl
/-! 302 Model.partEnd (IZ)I -/
theorem hdV_X13_pass : yX13_pass.cls = RX13 ∧ yX13_pass.cls ≠ "java/lang/invoke/MethodHandle" ∧ yX13_pass.cls ≠ "java/lang/invoke/VarHandle" ∧ (parseMethodDescriptor yX13_pass.desc).map (fun d => d.parameters.length) = some 2 := by decide +kernel
theorem st294 (l : Launch) {G : rGm} {cc : ByteArray} {nL n fr lo : Nat} {ret : Option FieldType} {Qf : kQf} (hf : 3 ≤ fr) (hlo : 71 ≤ lo) : ySite gAll LAll vwCl rFo rZs rRs rNs rTs G l cc nL RX13 ret fr lo n Qf 182 918 cq301 := ys_V 2 13454 15 rc301 lo_13454 kc15 (m301 l) kGood kw2334 kw2335 kw2336 kw315 kw2676 hdV_X13_pass hf hlo
def mt302 : yMt := ([(182, (918, 0))], ([], ([], [])))
theorem rc302 : yRc cq302 13454 2 = true := by decide +kernel
def fp_Model_partEnd : List Nat := [191, 192, 202, 231, 288, 289, 290, 291, 347, 350]
theorem ag_Model_partEnd {s s' : qSg} (hB : ∀ b ∈ fp_Model_partEnd, AgB gDet s s' b) (as : List qV) : dm_Model_partEnd as s = dm_Model_partEnd as s' := by
  unfold dm_Model_partEnd
  have e : dk_Model_partEnd s = dk_Model_partEnd s' := by
    funext i
    match i with
    | 0 => exact congrArg (fun f => some (3, f)) (funext fun as => ag_Model_pass (fun b hb => hB b ((show ∀ b ∈ fp_Model_pass, b ∈ fp_Model_partEnd by decide +kernel) b hb)) as)
    | i + 1 => exact (show dk_Model_partEnd s (i + 1) = none from rfl).trans (show none = dk_Model_partEnd s' (i + 1) from rfl)
  rw [e]
  exact zRun_ag gd_ok.P hB (show dc_Model_partEnd.all (fun x => x.1.all (okF gDet fp_Model_partEnd)) = true by decide +kernel) as
set_option maxHeartbeats 4000000 in
theorem he_Model_partEnd (s : qSg) : ∀ as r a v, CtBeg gAll d302 as s r a → Typed gAll s → dm_Model_partEnd (as.map cnV) s = some v → dEv 1024 (([1, 3] : List Nat).map a) (([(0, [(0, 1)]), (0, [(1, 1)]), (0, [(4, 1)])] : List qL).map (qe r)) = some v.2 := by
  intro as r a v hB hT e
  obtain ⟨hlen, ls, hsub, hsat⟩ := hB
  obtain ⟨hls, -, hsc, hav, -⟩ := hsat.now
  have hlen : as.length = 3 := hlen
  match as, hlen with
  | [w0, w1, w2], _ =>
    have x0 := hsub (0, ((2 : Nat), qe r ((26909, []) : qL))) (by rw [hls]; exact List.mem_cons_self)
    cases lsArgs_hd (x0)
    have x1 := hsub (1, ((0 : Nat), qe r ((0, [(0, 1)]) : qL))) (by rw [hls]; exact List.mem_cons_of_mem _ (List.mem_cons_self))
    cases lsArgs_hd (lsArgs_tl (by decide) (by decide) (x1))
    have x2 := hsub (2, ((0 : Nat), qe r ((0, [(1, 1)]) : qL))) (by rw [hls]; exact List.mem_cons_of_mem _ (List.mem_cons_of_mem _ (List.mem_cons_self)))
    cases lsArgs_hd (lsArgs_tl (by decide) (by decide) (lsArgs_tl (by decide) (by decide) (x2)))
    have e1 : dm_Model_partEnd [((2 : Nat), qe r ((26909, []) : qL)), ((0 : Nat), qe r ((0, [(0, 1)]) : qL)), ((0 : Nat), qe r ((0, [(1, 1)]) : qL))] s = some v := by
      unfold dm_Model_partEnd at e ⊢
      rw [zRun_cn (map_cn _)] at e
      exact e
    have e2 := ag_Model_partEnd (s := s) (s' := dSto [(347, dF (([1, 3] : List Nat).map a) 0), (350, dF (([1, 3] : List Nat).map a) 1)] [(231, dZ (([(0, [(0, 1)]), (0, [(1, 1)]), (0, [(4, 1)])] : List qL).map (qe r)) 2)]) (fun b hb => by
      rcases List.mem_cons.mp hb with rfl | hb
      · exact yCon gd_ok hT (by decide +kernel) rfl rfl
      rcases List.mem_cons.mp hb with rfl | hb
      · exact yCon gd_ok hT (by decide +kernel) rfl rfl
      rcases List.mem_cons.mp hb with rfl | hb
      · exact yCon gd_ok hT (by decide +kernel) rfl rfl
      rcases List.mem_cons.mp hb with rfl | hb
      · exact yFld (by decide +kernel) rfl rfl (hsc (231, (0, [(4, 1)])) (List.mem_cons_of_mem _ (List.mem_cons_of_mem _ (List.mem_cons_self))))
      rcases List.mem_cons.mp hb with rfl | hb
      · exact yCon gd_ok hT (by decide +kernel) rfl rfl
      rcases List.mem_cons.mp hb with rfl | hb
      · exact yCon gd_ok hT (by decide +kernel) rfl rfl
      rcases List.mem_cons.mp hb with rfl | hb
      · exact yCon gd_ok hT (by decide +kernel) rfl rfl
      rcases List.mem_cons.mp hb with rfl | hb
      · exact yCon gd_ok hT (by decide +kernel) rfl rfl
      rcases List.mem_cons.mp hb with rfl | hb
      · exact yArr rfl (hav (347, 1) (List.mem_cons_of_mem _ (List.mem_cons_self)))
      rcases List.mem_cons.mp hb with rfl | hb
      · exact yArr rfl (hav (350, 3) (List.mem_cons_of_mem _ (List.mem_cons_of_mem _ (List.mem_cons_of_mem _ (List.mem_cons_self)))))
      cases hb) [((2 : Nat), qe r ((26909, []) : qL)), ((0 : Nat), qe r ((0, [(0, 1)]) : qL)), ((0 : Nat), qe r ((0, [(1, 1)]) : qL))]
    rw [e2] at e1
    exact congrArg (fun o => o.map (fun v => v.2)) e1
theorem hd_Model_partEnd : ∀ s, Typed gAll s → HC gAll t302 (dk_Model_partEnd s) s := by
  intro s hT j C hC
  match j, hC with
  | 0, hC =>
    cases (show some cq301 = some C from hC)
    exact ⟨_, rfl, rfl, dC_Model_pass s hT⟩
  | j + 1, hC => cases (show none = some C from hC)
set_option maxHeartbeats 4000000 in
theorem dC_Model_partEnd (s : qSg) (hT : Typed gAll s) : DetC gAll cq302 s (fun as => dm_Model_partEnd as s) := detC_of (p := 1024) (t := 0) (vs := [1, 3]) (zi := [(0, [(0, 1)]), (0, [(1, 1)]), (0, [(4, 1)])]) (Cd := d302) rfl rfl rfl (⟨⟨_, rfl, ⟨_, rfl, (fun z hz => by
    rcases List.mem_cons.mp hz with rfl | hz
    · exact Or.inl (List.mem_cons_self)
    rcases List.mem_cons.mp hz with rfl | hz
    · exact Or.inl (List.mem_cons_of_mem _ (List.mem_cons_self))
    rcases List.mem_cons.mp hz with rfl | hz
    · exact Or.inl (List.mem_cons_of_mem _ (List.mem_cons_of_mem _ (List.mem_cons_self)))
    rcases List.mem_cons.mp hz with rfl | hz
    · exact Or.inl (List.mem_cons_of_mem _ (List.mem_cons_of_mem _ (List.mem_cons_of_mem _ (List.mem_cons_self))))
    rcases List.mem_cons.mp hz with rfl | hz
    · exact Or.inl (List.mem_cons_of_mem _ (List.mem_cons_of_mem _ (List.mem_cons_of_mem _ (List.mem_cons_of_mem _ (List.mem_cons_self)))))
    rcases List.mem_cons.mp hz with rfl | hz
    · exact Or.inl (List.mem_cons_of_mem _ (List.mem_cons_of_mem _ (List.mem_cons_of_mem _ (List.mem_cons_of_mem _ (List.mem_cons_of_mem _ (List.mem_cons_self))))))
    rcases List.mem_cons.mp hz with rfl | hz
    · exact Or.inl (List.mem_cons_of_mem _ (List.mem_cons_of_mem _ (List.mem_cons_of_mem _ (List.mem_cons_of_mem _ (List.mem_cons_of_mem _ (List.mem_cons_of_mem _ (List.mem_cons_self)))))))
    rcases List.mem_cons.mp hz with rfl | hz
    · exact Or.inr rfl
    rcases List.mem_cons.mp hz with rfl | hz
    · exact Or.inl (List.mem_cons_of_mem _ (List.mem_cons_of_mem _ (List.mem_cons_of_mem _ (List.mem_cons_of_mem _ (List.mem_cons_of_mem _ (List.mem_cons_of_mem _ (List.mem_cons_of_mem _ (List.mem_cons_self))))))))
    cases hz), List.mem_cons_of_mem _ (List.mem_cons_of_mem _ (List.mem_cons_of_mem _ (List.mem_cons_of_mem _ (List.mem_cons_of_mem _ (List.mem_cons_of_mem _ (List.mem_cons_of_mem _ (List.mem_cons_self)))))))⟩, Nat.le_of_ble_eq_true rfl, Nat.le_of_ble_eq_true rfl⟩, ⟨⟨_, rfl, ⟨_, rfl, (fun z hz => by
    rcases List.mem_cons.mp hz with rfl | hz
    · exact Or.inl (List.mem_cons_self)
    rcases List.mem_cons.mp hz with rfl | hz
    · exact Or.inl (List.mem_cons_of_mem _ (List.mem_cons_self))
    rcases List.mem_cons.mp hz with rfl | hz
    · exact Or.inl (List.mem_cons_of_mem _ (List.mem_cons_of_mem _ (List.mem_cons_self)))
    rcases List.mem_cons.mp hz with rfl | hz
    · exact Or.inl (List.mem_cons_of_mem _ (List.mem_cons_of_mem _ (List.mem_cons_of_mem _ (List.mem_cons_self))))
    rcases List.mem_cons.mp hz with rfl | hz
    · exact Or.inl (List.mem_cons_of_mem _ (List.mem_cons_of_mem _ (List.mem_cons_of_mem _ (List.mem_cons_of_mem _ (List.mem_cons_self)))))
    rcases List.mem_cons.mp hz with rfl | hz
    · exact Or.inl (List.mem_cons_of_mem _ (List.mem_cons_of_mem _ (List.mem_cons_of_mem _ (List.mem_cons_of_mem _ (List.mem_cons_of_mem _ (List.mem_cons_self))))))
    rcases List.mem_cons.mp hz with rfl | hz
    · exact Or.inl (List.mem_cons_of_mem _ (List.mem_cons_of_mem _ (List.mem_cons_of_mem _ (List.mem_cons_of_mem _ (List.mem_cons_of_mem _ (List.mem_cons_of_mem _ (List.mem_cons_self)))))))
    rcases List.mem_cons.mp hz with rfl | hz
    · exact Or.inr rfl
    rcases List.mem_cons.mp hz with rfl | hz
    · exact Or.inl (List.mem_cons_of_mem _ (List.mem_cons_of_mem _ (List.mem_cons_of_mem _ (List.mem_cons_of_mem _ (List.mem_cons_of_mem _ (List.mem_cons_of_mem _ (List.mem_cons_of_mem _ (List.mem_cons_self))))))))
    cases hz), List.mem_cons_of_mem _ (List.mem_cons_of_mem _ (List.mem_cons_of_mem _ (List.mem_cons_of_mem _ (List.mem_cons_of_mem _ (List.mem_cons_of_mem _ (List.mem_cons_of_mem _ (List.mem_cons_self)))))))⟩, Nat.le_of_ble_eq_true rfl, Nat.le_of_ble_eq_true rfl⟩, trivial⟩⟩) (by decide) (by decide +kernel) (by decide +kernel)
  (fun fs zs z h1 h2 => by
    rw [PQ_c (show fTab[1024]? = none by decide +kernel)]
    match fs, zs, h1, h2 with
    | [f0, f1], [z0, z1, z2], _, _ => exact Iff.rfl) (yDet_b gAll_tag z302 gd_ok (by decide +kernel) (eqCd_ok (by decide +kernel)) hd_Model_partEnd s) (he_Model_partEnd s)
theorem yr302 : yRun gAll t302 b302 cq302 := yRun_d (dc := dc_Model_partEnd) (cl := dk_Model_partEnd) gAll_tag z302 gd_ok (by decide +kernel) (eqCd_ok (by decide +kernel)) hd_Model_partEnd rfl rfl (fun s hT => dC_Model_partEnd s hT)
theorem zw302 : zwid cq302.2.1.1 cq302.1 0 3 = true := by decide +kernel
set_option maxRecDepth 100000 in
theorem yw302 : yRows gAll LAll yt12 mt302 gHo 3 1 (zby cX13_partEnd) p302 b302 p302 = true := by decide +kernel
set_option maxRecDepth 100000 in
theorem m302 (l : Launch) : kMet gAll LAll vwCl rFo rZs rRs rNs rTs l yX13_partEnd cX13_partEnd 3 (some .int) 3 71 cq302 := kmet_y2 (rt := 1) (by decide +kernel) yr302 zw302 rfl yw302 LAll_ok LAll_la yt12_ok gHo_ok rfl (fun G n Qf => List.forall_mem_cons.mpr ⟨⟨cq301, rfl, st294 l (by decide) (by decide)⟩, yA_n⟩) rfl (fun G n Rr => yA_n) rfl
/-! 303 Model.put (JI)V -/
def mt303 : yMt := ([], ([], ([], [])))
theorem rc303 : yRc cq303 13454 2 = true := by decide +kernel
theorem yr303 : yRun gAll t303 b303 cq303 := yRun_p (cuts := u303) (fuel := 300) gAll_tag ruI2_RtI ruJ2_RtJ rqL_ok ⟨zsm_e _ z303_s, List.forall_mem_cons.mpr ⟨zsm_e _ z303_0, yA_n⟩⟩
theorem zw303 : zwid cq303.2.1.1 cq303.1 0 5 = true := by decide +kernel
set_option maxRecDepth 100000 in
theorem yw303 : yRows gAll LAll yt12 mt303 gHo 5 0 (zby cX13_put) p303 b303 p303 = true := by decide +kernel
set_option maxRecDepth 100000 in
theorem m303 (l : Launch) : kMet gAll LAll vwCl rFo rZs rRs rNs rTs l yX13_put cX13_put 5 none 0 0 cq303 := kmet_y2 (rt := 0) (by decide +kernel) yr303 zw303 rfl yw303 LAll_ok LAll_la yt12_ok gHo_ok rfl (fun G n Qf => yA_n) rfl (fun G n Rr => yA_n) rfl
/-! 304 Model.character (II)I -/
def mt304 : yMt := ([], ([], ([], [])))
theorem rc304 : yRc cq304 13454 2 = true := by decide +kernel
theorem yr304 : yRun gAll t304 b304 cq304 := yRun_z gAll_tag ruI2_RtI ruJ2_RtJ rqL_ok z304
theorem zw304 : zwid cq304.2.1.1 cq304.1 0 4 = true := by decide +kernel
set_option maxRecDepth 100000 in
theorem yw304 : yRows gAll LAll yt12 mt304 gHo 4 1 (zby cX13_character) p304 b304 p304 = true := by decide +kernel
set_option maxRecDepth 100000 in
theorem m304 (l : Launch) : kMet gAll LAll vwCl rFo rZs rRs rNs rTs l yX13_character cX13_character 4 (some .int) 0 0 cq304 := kmet_y2 (rt := 1) (by decide +kernel) yr304 zw304 rfl yw304 LAll_ok LAll_la yt12_ok gHo_ok rfl (fun G n Qf => yA_n) rfl (fun G n Rr => yA_n) rfl
/-! 305 Model.putText (I)I -/
theorem hdV_X13_character : yX13_character.cls = RX13 ∧ yX13_character.cls ≠ "java/lang/invoke/MethodHandle" ∧ yX13_character.cls ≠ "java/lang/invoke/VarHandle" ∧ (parseMethodDescriptor yX13_character.desc).map (fun d => d.parameters.length) = some 2 := by decide +kernel
theorem st295 (l : Launch) {G : rGm} {cc : ByteArray} {nL n fr lo : Nat} {ret : Option FieldType} {Qf : kQf} (hf : 1 ≤ fr) (hlo : 23 ≤ lo) : ySite gAll LAll vwCl rFo rZs rRs rNs rTs G l cc nL RX13 ret fr lo n Qf 182 723 cq304 := ys_V 2 13454 15 rc304 lo_13454 kc15 (m304 l) kGood kw2747 kw2748 kw2749 kw315 kw2327 hdV_X13_character hf hlo
theorem hdV_X13_put : yX13_put.cls = RX13 ∧ yX13_put.cls ≠ "java/lang/invoke/MethodHandle" ∧ yX13_put.cls ≠ "java/lang/invoke/VarHandle" ∧ (parseMethodDescriptor yX13_put.desc).map (fun d => d.parameters.length) = some 2 := by decide +kernel
theorem st296 (l : Launch) {G : rGm} {cc : ByteArray} {nL n fr lo : Nat} {ret : Option FieldType} {Qf : kQf} (hf : 1 ≤ fr) (hlo : 24 ≤ lo) : ySite gAll LAll vwCl rFo rZs rRs rNs rTs G l cc nL RX13 ret fr lo n Qf 182 950 cq303 := ys_V 2 13454 15 rc303 lo_13454 kc15 (m303 l) kGood kw2252 kw2253 kw2254 kw315 kw2754 hdV_X13_put hf hlo
def mt305 : yMt := ([(182, (723, 0)), (182, (950, 1))], ([], ([], [])))
theorem rc305 : yRc cq305 13454 1 = true := by decide +kernel
theorem yr305 : yRun gAll t305 b305 cq305 := yRun_p (cuts := u305) (fuel := 300) gAll_tag ruI2_RtI ruJ2_RtJ rqL_ok ⟨zsm_e _ z305_s, List.forall_mem_cons.mpr ⟨zsm_e _ z305_0, yA_n⟩⟩
theorem zw305 : zwid cq305.2.1.1 cq305.1 0 4 = true := by decide +kernel
set_option maxRecDepth 100000 in
theorem yw305 : yRows gAll LAll yt12 mt305 gHo 4 1 (zby cX13_putText) p305 b305 p305 = true := by decide +kernel
set_option maxRecDepth 100000 in
theorem m305 (l : Launch) : kMet gAll LAll vwCl rFo rZs rRs rNs rTs l yX13_putText cX13_putText 4 (some .int) 1 24 cq305 := kmet_y2 (rt := 1) (by decide +kernel) yr305 zw305 rfl yw305 LAll_ok LAll_la yt12_ok gHo_ok rfl (fun G n Qf => List.forall_mem_cons.mpr ⟨⟨cq304, rfl, st295 l (by decide) (by decide)⟩, List.forall_mem_cons.mpr ⟨⟨cq303, rfl, st296 l (by decide) (by decide)⟩, yA_n⟩⟩) rfl (fun G n Rr => yA_n) rfl
/-! 306 Model.item (II)I -/
def mt306 : yMt := ([(182, (635, 0))], ([], ([], [])))
theorem rc306 : yRc cq306 13454 2 = true := by decide +kernel
theorem yr306 : yRun gAll t306 b306 cq306 := yRun_z gAll_tag ruI2_RtI ruJ2_RtJ rqL_ok z306
theorem zw306 : zwid cq306.2.1.1 cq306.1 0 3 = true := by decide +kernel
set_option maxRecDepth 100000 in
theorem yw306 : yRows gAll LAll yt12 mt306 gHo 3 1 (zby cX13_item) p306 b306 p306 = true := by decide +kernel
set_option maxRecDepth 100000 in
theorem m306 (l : Launch) : kMet gAll LAll vwCl rFo rZs rRs rNs rTs l yX13_item cX13_item 3 (some .int) 1 22 cq306 := kmet_y2 (rt := 1) (by decide +kernel) yr306 zw306 rfl yw306 LAll_ok LAll_la yt12_ok gHo_ok rfl (fun G n Qf => List.forall_mem_cons.mpr ⟨⟨cq293, rfl, st288 l (by decide) (by decide)⟩, yA_n⟩) rfl (fun G n Rr => yA_n) rfl
/-! 307 Model.statement (II)I -/
theorem hdV_X13_item : yX13_item.cls = RX13 ∧ yX13_item.cls ≠ "java/lang/invoke/MethodHandle" ∧ yX13_item.cls ≠ "java/lang/invoke/VarHandle" ∧ (parseMethodDescriptor yX13_item.desc).map (fun d => d.parameters.length) = some 2 := by decide +kernel
theorem st297 (l : Launch) {G : rGm} {cc : ByteArray} {nL n fr lo : Nat} {ret : Option FieldType} {Qf : kQf} (hf : 2 ≤ fr) (hlo : 44 ≤ lo) : ySite gAll LAll vwCl rFo rZs rRs rNs rTs G l cc nL RX13 ret fr lo n Qf 182 794 cq306 := ys_V 2 13454 15 rc306 lo_13454 kc15 (m306 l) kGood kw2372 kw2373 kw2374 kw315 kw2590 hdV_X13_item hf hlo
def mt307 : yMt := ([(182, (794, 0))], ([], ([], [])))
theorem rc307 : yRc cq307 13454 2 = true := by decide +kernel
theorem yr307 : yRun gAll t307 b307 cq307 := yRun_z gAll_tag ruI2_RtI ruJ2_RtJ rqL_ok z307
theorem zw307 : zwid cq307.2.1.1 cq307.1 0 4 = true := by decide +kernel
set_option maxRecDepth 100000 in
theorem yw307 : yRows gAll LAll yt12 mt307 gHo 4 1 (zby cX13_statement) p307 b307 p307 = true := by decide +kernel
set_option maxRecDepth 100000 in
theorem m307 (l : Launch) : kMet gAll LAll vwCl rFo rZs rRs rNs rTs l yX13_statement cX13_statement 4 (some .int) 2 44 cq307 := kmet_y2 (rt := 1) (by decide +kernel) yr307 zw307 rfl yw307 LAll_ok LAll_la yt12_ok gHo_ok rfl (fun G n Qf => List.forall_mem_cons.mpr ⟨⟨cq306, rfl, st297 l (by decide) (by decide)⟩, yA_n⟩) rfl (fun G n Rr => yA_n) rfl
/-! 308 Model.textLength (I)I -/
def mt308 : yMt := ([(182, (723, 0))], ([], ([], [])))
theorem rc308 : yRc cq308 13454 1 = true := by decide +kernel
theorem yr308 : yRun gAll t308 b308 cq308 := yRun_p (cuts := u308) (fuel := 300) gAll_tag ruI2_RtI ruJ2_RtJ rqL_ok ⟨zsm_e _ z308_s, List.forall_mem_cons.mpr ⟨zsm_e _ z308_0, yA_n⟩⟩
theorem zw308 : zwid cq308.2.1.1 cq308.1 0 4 = true := by decide +kernel
set_option maxRecDepth 100000 in
theorem yw308 : yRows gAll LAll yt12 mt308 gHo 4 1 (zby cX13_textLength) p308 b308 p308 = true := by decide +kernel
set_option maxRecDepth 100000 in
theorem m308 (l : Launch) : kMet gAll LAll vwCl rFo rZs rRs rNs rTs l yX13_textLength cX13_textLength 4 (some .int) 1 23 cq308 := kmet_y2 (rt := 1) (by decide +kernel) yr308 zw308 rfl yw308 LAll_ok LAll_la yt12_ok gHo_ok rfl (fun G n Qf => List.forall_mem_cons.mpr ⟨⟨cq304, rfl, st295 l (by decide) (by decide)⟩, yA_n⟩) rfl (fun G n Rr => yA_n) rfl
/-! 309 Model.waitFor (IIIIIIJ)V -/
def mt309 : yMt := ([(182, (635, 0))], ([], ([], [])))
theorem rc309 : yRc cq309 13454 7 = true := by decide +kernel
theorem yr309 : yRun gAll t309 b309 cq309 := yRun_z gAll_tag ruI2_RtI ruJ2_RtJ rqL_ok z309
theorem zw309 : zwid cq309.2.1.1 cq309.1 0 10 = true := by decide +kernel
set_option maxRecDepth 100000 in
theorem yw309 : yRows gAll LAll yt12 mt309 gHo 10 0 (zby cX13_waitFor) p309 b309 p309 = true := by decide +kernel
set_option maxRecDepth 100000 in
theorem m309 (l : Launch) : kMet gAll LAll vwCl rFo rZs rRs rNs rTs l yX13_waitFor cX13_waitFor 10 none 1 22 cq309 := kmet_y2 (rt := 0) (by decide +kernel) yr309 zw309 rfl yw309 LAll_ok LAll_la yt12_ok gHo_ok rfl (fun G n Qf => List.forall_mem_cons.mpr ⟨⟨cq293, rfl, st288 l (by decide) (by decide)⟩, yA_n⟩) rfl (fun G n Rr => yA_n) rfl
/-! 310 Model.dataOf (II)V -/
theorem hdV_X13_partEnd : yX13_partEnd.cls = RX13 ∧ yX13_partEnd.cls ≠ "java/lang/invoke/MethodHandle" ∧ yX13_partEnd.cls ≠ "java/lang/invoke/VarHandle" ∧ (parseMethodDescriptor yX13_partEnd.desc).map (fun d => d.parameters.length) = some 2 := by decide +kernel
theorem st298 (l : Launch) {G : rGm} {cc : ByteArray} {nL n fr lo : Nat} {ret : Option FieldType} {Qf : kQf} (hf : 4 ≤ fr) (hlo : 93 ≤ lo) : ySite gAll LAll vwCl rFo rZs rRs rNs rTs G l cc nL RX13 ret fr lo n Qf 182 931 cq302 := ys_V 2 13454 15 rc302 lo_13454 kc15 (m302 l) kGood kw2348 kw2349 kw2350 kw315 kw2670 hdV_X13_partEnd hf hlo
theorem hdV_X13_fail : yX13_fail.cls = RX13 ∧ yX13_fail.cls ≠ "java/lang/invoke/MethodHandle" ∧ yX13_fail.cls ≠ "java/lang/invoke/VarHandle" ∧ (parseMethodDescriptor yX13_fail.desc).map (fun d => d.parameters.length) = some 1 := by decide +kernel
theorem st299 (l : Launch) {G : rGm} {cc : ByteArray} {nL n fr lo : Nat} {ret : Option FieldType} {Qf : kQf} (hf : 2 ≤ fr) (hlo : 43 ≤ lo) : ySite gAll LAll vwCl rFo rZs rRs rNs rTs G l cc nL RX13 ret fr lo n Qf 182 678 cq294 := ys_V 1 13454 15 rc294 lo_13454 kc15 (m294 l) kGood kw2156 kw2157 kw2158 kw315 kw2439 hdV_X13_fail hf hlo
theorem hdV_X13_textLength : yX13_textLength.cls = RX13 ∧ yX13_textLength.cls ≠ "java/lang/invoke/MethodHandle" ∧ yX13_textLength.cls ≠ "java/lang/invoke/VarHandle" ∧ (parseMethodDescriptor yX13_textLength.desc).map (fun d => d.parameters.length) = some 1 := by decide +kernel
theorem st300 (l : Launch) {G : rGm} {cc : ByteArray} {nL n fr lo : Nat} {ret : Option FieldType} {Qf : kQf} (hf : 2 ≤ fr) (hlo : 46 ≤ lo) : ySite gAll LAll vwCl rFo rZs rRs rNs rTs G l cc nL RX13 ret fr lo n Qf 182 934 cq308 := ys_V 1 13454 15 rc308 lo_13454 kc15 (m308 l) kGood kw2354 kw2355 kw2356 kw315 kw2850 hdV_X13_textLength hf hlo
theorem hdV_X13_evaluate : yX13_evaluate.cls = RX13 ∧ yX13_evaluate.cls ≠ "java/lang/invoke/MethodHandle" ∧ yX13_evaluate.cls ≠ "java/lang/invoke/VarHandle" ∧ (parseMethodDescriptor yX13_evaluate.desc).map (fun d => d.parameters.length) = some 2 := by decide +kernel
theorem st301 (l : Launch) {G : rGm} {cc : ByteArray} {nL n fr lo : Nat} {ret : Option FieldType} {Qf : kQf} (hf : 6 ≤ fr) (hlo : 141 ≤ lo) : ySite gAll LAll vwCl rFo rZs rRs rNs rTs G l cc nL RX13 ret fr lo n Qf 182 922 cq291 := ys_V 2 13454 15 rc291 lo_13454 kc15 (m291 l) kGood kw2337 kw2338 kw2339 kw315 kw2426 hdV_X13_evaluate hf hlo
theorem hdV_X13_isConstantValue : yX13_isConstantValue.cls = RX13 ∧ yX13_isConstantValue.cls ≠ "java/lang/invoke/MethodHandle" ∧ yX13_isConstantValue.cls ≠ "java/lang/invoke/VarHandle" ∧ (parseMethodDescriptor yX13_isConstantValue.desc).map (fun d => d.parameters.length) = some 0 := by decide +kernel
theorem st302 (l : Launch) {G : rGm} {cc : ByteArray} {nL n fr lo : Nat} {ret : Option FieldType} {Qf : kQf} (hf : 1 ≤ fr) (hlo : 20 ≤ lo) : ySite gAll LAll vwCl rFo rZs rRs rNs rTs G l cc nL RX13 ret fr lo n Qf 182 925 cq295 := ys_V 0 13454 15 rc295 lo_13454 kc15 (m295 l) kGood kw2340 kw2341 kw2342 kw315 kw2545 hdV_X13_isConstantValue hf hlo
theorem hdV_X13_statement : yX13_statement.cls = RX13 ∧ yX13_statement.cls ≠ "java/lang/invoke/MethodHandle" ∧ yX13_statement.cls ≠ "java/lang/invoke/VarHandle" ∧ (parseMethodDescriptor yX13_statement.desc).map (fun d => d.parameters.length) = some 2 := by decide +kernel
theorem st303 (l : Launch) {G : rGm} {cc : ByteArray} {nL n fr lo : Nat} {ret : Option FieldType} {Qf : kQf} (hf : 3 ≤ fr) (hlo : 67 ≤ lo) : ySite gAll LAll vwCl rFo rZs rRs rNs rTs G l cc nL RX13 ret fr lo n Qf 182 937 cq307 := ys_V 2 13454 15 rc307 lo_13454 kc15 (m307 l) kGood kw2249 kw2250 kw2251 kw315 kw2819 hdV_X13_statement hf hlo
theorem hdV_X13_putText : yX13_putText.cls = RX13 ∧ yX13_putText.cls ≠ "java/lang/invoke/MethodHandle" ∧ yX13_putText.cls ≠ "java/lang/invoke/VarHandle" ∧ (parseMethodDescriptor yX13_putText.desc).map (fun d => d.parameters.length) = some 1 := by decide +kernel
theorem st304 (l : Launch) {G : rGm} {cc : ByteArray} {nL n fr lo : Nat} {ret : Option FieldType} {Qf : kQf} (hf : 2 ≤ fr) (hlo : 47 ≤ lo) : ySite gAll LAll vwCl rFo rZs rRs rNs rTs G l cc nL RX13 ret fr lo n Qf 182 940 cq305 := ys_V 1 13454 15 rc305 lo_13454 kc15 (m305 l) kGood kw2359 kw2360 kw2361 kw315 kw2746 hdV_X13_putText hf hlo
theorem hdV_X13_evaluateAt : yX13_evaluateAt.cls = RX13 ∧ yX13_evaluateAt.cls ≠ "java/lang/invoke/MethodHandle" ∧ yX13_evaluateAt.cls ≠ "java/lang/invoke/VarHandle" ∧ (parseMethodDescriptor yX13_evaluateAt.desc).map (fun d => d.parameters.length) = some 3 := by decide +kernel
theorem st305 (l : Launch) {G : rGm} {cc : ByteArray} {nL n fr lo : Nat} {ret : Option FieldType} {Qf : kQf} (hf : 6 ≤ fr) (hlo : 142 ≤ lo) : ySite gAll LAll vwCl rFo rZs rRs rNs rTs G l cc nL RX13 ret fr lo n Qf 182 943 cq292 := ys_V 3 13454 15 rc292 lo_13454 kc15 (m292 l) kGood kw2362 kw2363 kw2364 kw315 kw2409 hdV_X13_evaluateAt hf hlo
theorem hdV_X13_waitFor : yX13_waitFor.cls = RX13 ∧ yX13_waitFor.cls ≠ "java/lang/invoke/MethodHandle" ∧ yX13_waitFor.cls ≠ "java/lang/invoke/VarHandle" ∧ (parseMethodDescriptor yX13_waitFor.desc).map (fun d => d.parameters.length) = some 7 := by decide +kernel
theorem st306 (l : Launch) {G : rGm} {cc : ByteArray} {nL n fr lo : Nat} {ret : Option FieldType} {Qf : kQf} (hf : 2 ≤ fr) (hlo : 51 ≤ lo) : ySite gAll LAll vwCl rFo rZs rRs rNs rTs G l cc nL RX13 ret fr lo n Qf 182 946 cq309 := ys_V 7 13454 15 rc309 lo_13454 kc15 (m309 l) kGood kw2261 kw2262 kw2263 kw315 kw2868 hdV_X13_waitFor hf hlo
def mt310 : yMt := ([(182, (931, 0)), (182, (797, 1)), (182, (678, 2)), (182, (934, 3)), (182, (918, 4)), (182, (922, 5)), (182, (925, 6)), (182, (937, 7)), (182, (940, 8)), (182, (943, 9)), (182, (946, 10)), (182, (950, 11))], ([], ([], [])))
theorem rc310 : yRc cq310 13454 2 = true := by decide +kernel
theorem yr310 : yRun gAll t310 b310 cq310 := yRun_p (cuts := u310) (fuel := 300) gAll_tag ruI2_RtI ruJ2_RtJ rqL_ok ⟨zsm_e _ z310_s, List.forall_mem_cons.mpr ⟨zsm_e _ z310_0, List.forall_mem_cons.mpr ⟨zsm_e _ z310_1, List.forall_mem_cons.mpr ⟨zsm_e _ z310_2, List.forall_mem_cons.mpr ⟨zsm_e _ z310_3, List.forall_mem_cons.mpr ⟨zsm_e _ z310_4, yA_n⟩⟩⟩⟩⟩⟩
theorem zw310 : zwid cq310.2.1.1 cq310.1 0 11 = true := by decide +kernel
set_option maxRecDepth 100000 in
theorem yw310 : yRows gAll LAll yt12 mt310 gHo 11 0 (zby cX13_dataOf) p310 b310 p310 = true := by decide +kernel
set_option maxRecDepth 100000 in
theorem m310 (l : Launch) : kMet gAll LAll vwCl rFo rZs rRs rNs rTs l yX13_dataOf cX13_dataOf 11 none 6 142 cq310 := kmet_y2 (rt := 0) (by decide +kernel) yr310 zw310 rfl yw310 LAll_ok LAll_la yt12_ok gHo_ok rfl (fun G n Qf => List.forall_mem_cons.mpr ⟨⟨cq302, rfl, st298 l (by decide) (by decide)⟩, List.forall_mem_cons.mpr ⟨⟨cq296, rfl, st289 l (by decide) (by decide)⟩, List.forall_mem_cons.mpr ⟨⟨cq294, rfl, st299 l (by decide) (by decide)⟩, List.forall_mem_cons.mpr ⟨⟨cq308, rfl, st300 l (by decide) (by decide)⟩, List.forall_mem_cons.mpr ⟨⟨cq301, rfl, st294 l (by decide) (by decide)⟩, List.forall_mem_cons.mpr ⟨⟨cq291, rfl, st301 l (by decide) (by decide)⟩, List.forall_mem_cons.mpr ⟨⟨cq295, rfl, st302 l (by decide) (by decide)⟩, List.forall_mem_cons.mpr ⟨⟨cq307, rfl, st303 l (by decide) (by decide)⟩, List.forall_mem_cons.mpr ⟨⟨cq305, rfl, st304 l (by decide) (by decide)⟩, List.forall_mem_cons.mpr ⟨⟨cq292, rfl, st305 l (by decide) (by decide)⟩, List.forall_mem_cons.mpr ⟨⟨cq309, rfl, st306 l (by decide) (by decide)⟩, List.forall_mem_cons.mpr ⟨⟨cq303, rfl, st296 l (by decide) (by decide)⟩, yA_n⟩⟩⟩⟩⟩⟩⟩⟩⟩⟩⟩⟩) rfl (fun G n Rr => yA_n) rfl
/-! 311 Model.constantAt (I)Z -/
def mt311 : yMt := ([(182, (918, 0)), (182, (678, 1)), (182, (922, 2)), (182, (925, 3))], ([], ([], [])))
theorem rc311 : yRc cq311 13454 1 = true := by decide +kernel
theorem yr311 : yRun gAll t311 b311 cq311 := yRun_z gAll_tag ruI2_RtI ruJ2_RtJ rqL_ok z311
theorem zw311 : zwid cq311.2.1.1 cq311.1 0 2 = true := by decide +kernel
set_option maxRecDepth 100000 in
theorem yw311 : yRows gAll LAll yt12 mt311 gHo 2 3 (zby cX13_constantAt) p311 b311 p311 = true := by decide +kernel
set_option maxRecDepth 100000 in
theorem m311 (l : Launch) : kMet gAll LAll vwCl rFo rZs rRs rNs rTs l yX13_constantAt cX13_constantAt 2 (some .boolean) 6 141 cq311 := kmet_y2 (rt := 3) (by decide +kernel) yr311 zw311 rfl yw311 LAll_ok LAll_la yt12_ok gHo_ok rfl (fun G n Qf => List.forall_mem_cons.mpr ⟨⟨cq301, rfl, st294 l (by decide) (by decide)⟩, List.forall_mem_cons.mpr ⟨⟨cq294, rfl, st299 l (by decide) (by decide)⟩, List.forall_mem_cons.mpr ⟨⟨cq291, rfl, st301 l (by decide) (by decide)⟩, List.forall_mem_cons.mpr ⟨⟨cq295, rfl, st302 l (by decide) (by decide)⟩, yA_n⟩⟩⟩⟩) rfl (fun G n Rr => yA_n) rfl
/-! 312 Model.define (I)V -/
theorem hdV_X13_constantAt : yX13_constantAt.cls = RX13 ∧ yX13_constantAt.cls ≠ "java/lang/invoke/MethodHandle" ∧ yX13_constantAt.cls ≠ "java/lang/invoke/VarHandle" ∧ (parseMethodDescriptor yX13_constantAt.desc).map (fun d => d.parameters.length) = some 1 := by decide +kernel
theorem st307 (l : Launch) {G : rGm} {cc : ByteArray} {nL n fr lo : Nat} {ret : Option FieldType} {Qf : kQf} (hf : 7 ≤ fr) (hlo : 162 ≤ lo) : ySite gAll LAll vwCl rFo rZs rRs rNs rTs G l cc nL RX13 ret fr lo n Qf 182 928 cq311 := ys_V 1 13454 15 rc311 lo_13454 kc15 (m311 l) kGood kw2376 kw2377 kw2378 kw315 kw2333 hdV_X13_constantAt hf hlo
def mt312 : yMt := ([(182, (928, 0)), (182, (772, 1)), (182, (788, 2))], ([], ([], [])))
theorem rc312 : yRc cq312 13454 1 = true := by decide +kernel
theorem yr312 : yRun gAll t312 b312 cq312 := yRun_z gAll_tag ruI2_RtI ruJ2_RtJ rqL_ok z312
theorem zw312 : zwid cq312.2.1.1 cq312.1 0 5 = true := by decide +kernel
set_option maxRecDepth 100000 in
theorem yw312 : yRows gAll LAll yt12 mt312 gHo 5 0 (zby cX13_define) p312 b312 p312 = true := by decide +kernel
set_option maxRecDepth 100000 in
theorem m312 (l : Launch) : kMet gAll LAll vwCl rFo rZs rRs rNs rTs l yX13_define cX13_define 5 none 7 162 cq312 := kmet_y2 (rt := 0) (by decide +kernel) yr312 zw312 rfl yw312 LAll_ok LAll_la yt12_ok gHo_ok rfl (fun G n Qf => List.forall_mem_cons.mpr ⟨⟨cq311, rfl, st307 l (by decide) (by decide)⟩, List.forall_mem_cons.mpr ⟨⟨cq285, rfl, st282 l (by decide) (by decide)⟩, List.forall_mem_cons.mpr ⟨⟨cq284, rfl, st283 l (by decide) (by decide)⟩, yA_n⟩⟩⟩) rfl (fun G n Rr => yA_n) rfl
/-! 313 Model.fill (II)V -/
def mt313 : yMt := ([(182, (928, 0)), (182, (678, 1)), (182, (937, 2))], ([], ([], [])))
theorem rc313 : yRc cq313 13454 2 = true := by decide +kernel
theorem yr313 : yRun gAll t313 b313 cq313 := yRun_p (cuts := u313) (fuel := 300) gAll_tag ruI2_RtI ruJ2_RtJ rqL_ok ⟨zsm_e _ z313_s, List.forall_mem_cons.mpr ⟨zsm_e _ z313_0, yA_n⟩⟩
theorem zw313 : zwid cq313.2.1.1 cq313.1 0 7 = true := by decide +kernel
set_option maxRecDepth 100000 in
theorem yw313 : yRows gAll LAll yt12 mt313 gHo 7 0 (zby cX13_fill) p313 b313 p313 = true := by decide +kernel
set_option maxRecDepth 100000 in
theorem m313 (l : Launch) : kMet gAll LAll vwCl rFo rZs rRs rNs rTs l yX13_fill cX13_fill 7 none 7 162 cq313 := kmet_y2 (rt := 0) (by decide +kernel) yr313 zw313 rfl yw313 LAll_ok LAll_la yt12_ok gHo_ok rfl (fun G n Qf => List.forall_mem_cons.mpr ⟨⟨cq311, rfl, st307 l (by decide) (by decide)⟩, List.forall_mem_cons.mpr ⟨⟨cq294, rfl, st299 l (by decide) (by decide)⟩, List.forall_mem_cons.mpr ⟨⟨cq307, rfl, st303 l (by decide) (by decide)⟩, yA_n⟩⟩⟩) rfl (fun G n Rr => yA_n) rfl
