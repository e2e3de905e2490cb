/-! METHODS, CALLEES FIRST (written by wip/p2/genmeth.py) -/
/-! 122 Line.inName (I)Z -/
theorem hdS_X3_isDigit : yX3_isDigit.cls ≠ "java/lang/invoke/MethodHandle" ∧ yX3_isDigit.cls ≠ "java/lang/invoke/VarHandle" ∧ (parseMethodDescriptor yX3_isDigit.desc).map (fun d => d.parameters.length) = some 1 := by decide +kernel
theorem st126 (l : Launch) {G : rGm} {cc : ByteArray} {nL n fr lo : Nat} {ret : Option FieldType} {Qf : kQf} (hf : 1 ≤ fr) (hlo : 20 ≤ lo) : ySite gAll LAll vwCl rFo rZs rRs rNs rTs G l cc nL RX3 ret fr lo n Qf 184 103 cq121 := ys_S 1 rfl (m121 l) kGood kw1607 kw1608 kw90 kw1609 hdS_X3_isDigit hf hlo
def mt122 : yMt := ([(184, (103, 0))], ([], ([], [])))
def fp_Line_inName : List Nat := []
theorem ag_Line_inName {s s' : qSg} (hB : ∀ b ∈ fp_Line_inName, AgB gDet s s' b) (as : List qV) : dm_Line_inName as s = dm_Line_inName as s' := by
  unfold dm_Line_inName
  have e : dk_Line_inName s = dk_Line_inName s' := by
    funext i
    match i with
    | 0 => exact congrArg (fun f => some (1, f)) (funext fun as => ag_Line_isDigit (fun b hb => hB b ((show ∀ b ∈ fp_Line_isDigit, b ∈ fp_Line_inName by decide +kernel) b hb)) as)
    | i + 1 => exact (show dk_Line_inName s (i + 1) = none from rfl).trans (show none = dk_Line_inName s' (i + 1) from rfl)
  rw [e]
  exact zRun_ag gd_ok.P hB (show dc_Line_inName.all (fun x => x.1.all (okF gDet fp_Line_inName)) = true by decide +kernel) as
set_option maxHeartbeats 4000000 in
theorem he_Line_inName (s : qSg) : ∀ as r a v, CtBeg gAll d122 as s r a → Typed gAll s → dm_Line_inName (as.map cnV) s = some v → dEv 1082 (([] : List Nat).map a) (([(0, [(0, 1)])] : List qL).map (qe r)) = some v.2 := by
  intro as r a v hB hT e
  obtain ⟨hlen, ls, hsub, hsat⟩ := hB
  obtain ⟨hls, -, hsc, hav, -⟩ := hsat.now
  have hlen : as.length = 1 := hlen
  match as, hlen with
  | [w0], _ =>
    have x0 := hsub (0, ((0 : Nat), qe r ((0, [(0, 1)]) : qL))) (by rw [hls]; exact List.mem_cons_self)
    cases lsArgs_hd (x0)
    have e1 : dm_Line_inName [((0 : Nat), qe r ((0, [(0, 1)]) : qL))] s = some v := by
      unfold dm_Line_inName at e ⊢
      rw [zRun_cn (map_cn _)] at e
      exact e
    have e2 := ag_Line_inName (s := s) (s' := dSto [] []) (fun b hb => by
      cases hb) [((0 : Nat), qe r ((0, [(0, 1)]) : qL))]
    rw [e2] at e1
    exact congrArg (fun o => o.map (fun v => v.2)) e1
theorem hd_Line_inName : ∀ s, Typed gAll s → HC gAll t122 (dk_Line_inName s) s := by
  intro s hT j C hC
  match j, hC with
  | 0, hC =>
    cases (show some cq121 = some C from hC)
    exact ⟨_, rfl, rfl, dC_Line_isDigit s hT⟩
  | j + 1, hC => cases (show none = some C from hC)
set_option maxHeartbeats 4000000 in
theorem dC_Line_inName (s : qSg) (hT : Typed gAll s) : DetC gAll cq122 s (fun as => dm_Line_inName as s) := detC_of (p := 1082) (t := 0) (vs := []) (zi := [(0, [(0, 1)])]) (Cd := d122) rfl rfl rfl (⟨⟨_, rfl, ⟨_, rfl, (fun z hz => by
    rcases List.mem_cons.mp hz with rfl | hz
    · exact Or.inr rfl
    cases hz), List.mem_cons_self⟩, Nat.le_of_ble_eq_true rfl, Nat.le_of_ble_eq_true rfl⟩, ⟨⟨_, rfl, ⟨_, rfl, (fun z hz => by
    rcases List.mem_cons.mp hz with rfl | hz
    · exact Or.inr rfl
    cases hz), List.mem_cons_self⟩, Nat.le_of_ble_eq_true rfl, Nat.le_of_ble_eq_true rfl⟩, trivial⟩⟩) (by decide) (by decide +kernel) (by decide +kernel)
  (fun fs zs z h1 h2 => by
    rw [PQ_c (show fTab[1082]? = none by decide +kernel)]
    match fs, zs, h1, h2 with
    | [], [z0], _, _ => exact Iff.rfl) (yDet_b gAll_tag z122 gd_ok (by decide +kernel) (eqCd_ok (by decide +kernel)) hd_Line_inName s) (he_Line_inName s)
theorem yr122 : yRun gAll t122 b122 cq122 := yRun_d (dc := dc_Line_inName) (cl := dk_Line_inName) gAll_tag z122 gd_ok (by decide +kernel) (eqCd_ok (by decide +kernel)) hd_Line_inName rfl rfl (fun s hT => dC_Line_inName s hT)
theorem zw122 : zwid cq122.2.1.1 cq122.1 0 1 = true := by decide +kernel
set_option maxRecDepth 100000 in
theorem yw122 : yRows gAll LAll yt4 mt122 gHo 1 3 (zby cX3_inName) p122 b122 p122 = true := by decide +kernel
set_option maxRecDepth 100000 in
theorem m122 (l : Launch) : kMet gAll LAll vwCl rFo rZs rRs rNs rTs l yX3_inName cX3_inName 1 (some .boolean) 1 20 cq122 := kmet_y2 (rt := 3) (by decide +kernel) yr122 zw122 rfl yw122 LAll_ok LAll_la yt4_ok gHo_ok rfl (fun G n Qf => List.forall_mem_cons.mpr ⟨⟨cq121, rfl, st126 l (by decide) (by decide)⟩, yA_n⟩) rfl (fun G n Rr => yA_n) rfl
/-! 123 Line.isCharacter (I)Z -/
def mt123 : yMt := ([], ([], ([], [])))
theorem yr123 : yRun gAll t123 b123 cq123 := yRun_z gAll_tag ruI2_RtI ruJ2_RtJ rqL_ok z123
theorem zw123 : zwid cq123.2.1.1 cq123.1 0 1 = true := by decide +kernel
set_option maxRecDepth 100000 in
theorem yw123 : yRows gAll LAll yt4 mt123 gHo 1 3 (zby cX3_isCharacter) p123 b123 p123 = true := by decide +kernel
set_option maxRecDepth 100000 in
theorem m123 (l : Launch) : kMet gAll LAll vwCl rFo rZs rRs rNs rTs l yX3_isCharacter cX3_isCharacter 1 (some .boolean) 0 0 cq123 := kmet_y2 (rt := 3) (by decide +kernel) yr123 zw123 rfl yw123 LAll_ok LAll_la yt4_ok gHo_ok rfl (fun G n Qf => yA_n) rfl (fun G n Rr => yA_n) rfl
/-! 124 Line.character (I)I -/
theorem hdS_X3_isCharacter : yX3_isCharacter.cls ≠ "java/lang/invoke/MethodHandle" ∧ yX3_isCharacter.cls ≠ "java/lang/invoke/VarHandle" ∧ (parseMethodDescriptor yX3_isCharacter.desc).map (fun d => d.parameters.length) = some 1 := by decide +kernel
theorem st127 (l : Launch) {G : rGm} {cc : ByteArray} {nL n fr lo : Nat} {ret : Option FieldType} {Qf : kQf} (hf : 1 ≤ fr) (hlo : 20 ≤ lo) : ySite gAll LAll vwCl rFo rZs rRs rNs rTs G l cc nL RX3 ret fr lo n Qf 184 152 cq123 := ys_S 1 rfl (m123 l) kGood kw1597 kw1598 kw90 kw1599 hdS_X3_isCharacter hf hlo
theorem st128 (l : Launch) {G : rGm} {cc : ByteArray} {nL n fr lo : Nat} {ret : Option FieldType} {Qf : kQf} (hf : 2 ≤ fr) (hlo : 43 ≤ lo) : ySite gAll LAll vwCl rFo rZs rRs rNs rTs G l cc nL RX3 ret fr lo n Qf 182 155 cq85 := ys_V 1 13365 5 rc85 lo_13365 kc5 (m85 l) kGood kw1601 kw1237 kw1238 kw90 kw1634 hdV_X3_meant hf hlo
theorem hdS_X3_inName : yX3_inName.cls ≠ "java/lang/invoke/MethodHandle" ∧ yX3_inName.cls ≠ "java/lang/invoke/VarHandle" ∧ (parseMethodDescriptor yX3_inName.desc).map (fun d => d.parameters.length) = some 1 := by decide +kernel
theorem st129 (l : Launch) {G : rGm} {cc : ByteArray} {nL n fr lo : Nat} {ret : Option FieldType} {Qf : kQf} (hf : 2 ≤ fr) (hlo : 40 ≤ lo) : ySite gAll LAll vwCl rFo rZs rRs rNs rTs G l cc nL RX3 ret fr lo n Qf 184 120 cq122 := ys_S 1 rfl (m122 l) kGood kw1602 kw1603 kw90 kw1604 hdS_X3_inName hf hlo
def mt124 : yMt := ([(182, (140, 0)), (184, (152, 1)), (182, (155, 2)), (184, (120, 3))], ([], ([], [])))
theorem rc124 : yRc cq124 13365 1 = true := by decide +kernel
theorem yr124 : yRun gAll t124 b124 cq124 := yRun_z gAll_tag ruI2_RtI ruJ2_RtJ rqL_ok z124
theorem zw124 : zwid cq124.2.1.1 cq124.1 0 4 = true := by decide +kernel
set_option maxRecDepth 100000 in
theorem yw124 : yRows gAll LAll yt4 mt124 gHo 4 1 (zby cX3_character) p124 b124 p124 = true := by decide +kernel
set_option maxRecDepth 100000 in
theorem m124 (l : Launch) : kMet gAll LAll vwCl rFo rZs rRs rNs rTs l yX3_character cX3_character 4 (some .int) 2 43 cq124 := kmet_y2 (rt := 1) (by decide +kernel) yr124 zw124 rfl yw124 LAll_ok LAll_la yt4_ok gHo_ok rfl (fun G n Qf => List.forall_mem_cons.mpr ⟨⟨cq84, rfl, st86 l (by decide) (by decide)⟩, List.forall_mem_cons.mpr ⟨⟨cq123, rfl, st127 l (by decide) (by decide)⟩, List.forall_mem_cons.mpr ⟨⟨cq85, rfl, st128 l (by decide) (by decide)⟩, List.forall_mem_cons.mpr ⟨⟨cq122, rfl, st129 l (by decide) (by decide)⟩, yA_n⟩⟩⟩⟩) rfl (fun G n Rr => yA_n) rfl
/-! 125 Names.find/text@x.assembler.line.words ([BIII)I -/
def mt125 : yMt := ([], ([], ([], [])))
theorem rc125 : yRc cq125 13367 4 = true := by decide +kernel
theorem yr125 : yRun gAll t125 b125 cq125 := yRun_p (cuts := u125) (fuel := 300) gAll_tag ruI2_RtI ruJ2_RtJ rqL_ok ⟨zsm_e _ z125_s, List.forall_mem_cons.mpr ⟨zsm_e _ z125_0, List.forall_mem_cons.mpr ⟨zsm_e _ z125_1, List.forall_mem_cons.mpr ⟨zsm_e _ z125_2, yA_n⟩⟩⟩⟩
theorem zw125 : zwid cq125.2.1.1 cq125.1 0 9 = true := by decide +kernel
set_option maxRecDepth 100000 in
theorem yw125 : yRows gAll LAll yt8 mt125 gHo 9 1 (zby cX7_find) p125 b125 p125 = true := by decide +kernel
set_option maxRecDepth 100000 in
theorem m125 (l : Launch) : kMet gAll LAll vwCl rFo rZs rRs rNs rTs l yX7_find cX7_find 9 (some .int) 0 0 cq125 := kmet_y2 (rt := 1) (by decide +kernel) yr125 zw125 rfl yw125 LAll_ok LAll_la yt8_ok gHo_ok rfl (fun G n Qf => yA_n) rfl (fun G n Rr => yA_n) rfl
/-! 126 Line.name (I)I -/
theorem st130 (l : Launch) {G : rGm} {cc : ByteArray} {nL n fr lo : Nat} {ret : Option FieldType} {Qf : kQf} (hf : 1 ≤ fr) (hlo : 28 ≤ lo) : ySite gAll LAll vwCl rFo rZs rRs rNs rTs G l cc nL RX3 ret fr lo n Qf 182 136 cq125 := ys_V 4 13367 9 rc125 lo_13367 kc9 (m125 l) kGood kw1637 kw734 kw735 kw18 kw732 hdV_X7_find hf hlo
def mt126 : yMt := ([(184, (120, 0)), (182, (136, 1))], ([], ([], [])))
theorem rc126 : yRc cq126 13365 1 = true := by decide +kernel
theorem yr126 : yRun gAll t126 b126 cq126 := yRun_p (cuts := u126) (fuel := 300) gAll_tag ruI2_RtI ruJ2_RtJ rqL_ok ⟨zsm_e _ z126_s, List.forall_mem_cons.mpr ⟨zsm_e _ z126_0, yA_n⟩⟩
theorem zw126 : zwid cq126.2.1.1 cq126.1 0 3 = true := by decide +kernel
set_option maxRecDepth 100000 in
theorem yw126 : yRows gAll LAll yt4 mt126 gHo 3 1 (zby cX3_name) p126 b126 p126 = true := by decide +kernel
set_option maxRecDepth 100000 in
theorem m126 (l : Launch) : kMet gAll LAll vwCl rFo rZs rRs rNs rTs l yX3_name cX3_name 3 (some .int) 2 40 cq126 := kmet_y2 (rt := 1) (by decide +kernel) yr126 zw126 rfl yw126 LAll_ok LAll_la yt4_ok gHo_ok rfl (fun G n Qf => List.forall_mem_cons.mpr ⟨⟨cq122, rfl, st129 l (by decide) (by decide)⟩, List.forall_mem_cons.mpr ⟨⟨cq125, rfl, st130 l (by decide) (by decide)⟩, yA_n⟩⟩) rfl (fun G n Rr => yA_n) rfl
/-! 127 Line.digit (I)I -/
def mt127 : yMt := ([(184, (103, 0))], ([], ([], [])))
theorem yr127 : yRun gAll t127 b127 cq127 := yRun_z gAll_tag ruI2_RtI ruJ2_RtJ rqL_ok z127
theorem zw127 : zwid cq127.2.1.1 cq127.1 0 1 = true := by decide +kernel
set_option maxRecDepth 100000 in
theorem yw127 : yRows gAll LAll yt4 mt127 gHo 1 1 (zby cX3_digit) p127 b127 p127 = true := by decide +kernel
set_option maxRecDepth 100000 in
theorem m127 (l : Launch) : kMet gAll LAll vwCl rFo rZs rRs rNs rTs l yX3_digit cX3_digit 1 (some .int) 1 20 cq127 := kmet_y2 (rt := 1) (by decide +kernel) yr127 zw127 rfl yw127 LAll_ok LAll_la yt4_ok gHo_ok rfl (fun G n Qf => List.forall_mem_cons.mpr ⟨⟨cq121, rfl, st126 l (by decide) (by decide)⟩, yA_n⟩) rfl (fun G n Rr => yA_n) rfl
/-! 128 Line.overflows (JII)Z -/
def mt128 : yMt := ([], ([], ([], [])))
theorem yr128 : yRun gAll t128 b128 cq128 := yRun_z gAll_tag ruI2_RtI ruJ2_RtJ rqL_ok z128
theorem zw128 : zwid cq128.2.1.1 cq128.1 0 6 = true := by decide +kernel
set_option maxRecDepth 100000 in
theorem yw128 : yRows gAll LAll yt4 mt128 gHo 6 3 (zby cX3_overflows) p128 b128 p128 = true := by decide +kernel
set_option maxRecDepth 100000 in
theorem m128 (l : Launch) : kMet gAll LAll vwCl rFo rZs rRs rNs rTs l yX3_overflows cX3_overflows 6 (some .boolean) 0 0 cq128 := kmet_y2 (rt := 3) (by decide +kernel) yr128 zw128 rfl yw128 LAll_ok LAll_la yt4_ok gHo_ok rfl (fun G n Qf => yA_n) rfl (fun G n Rr => yA_n) rfl
/-! 129 Line.number (I)I -/
theorem hdS_X3_digit : yX3_digit.cls ≠ "java/lang/invoke/MethodHandle" ∧ yX3_digit.cls ≠ "java/lang/invoke/VarHandle" ∧ (parseMethodDescriptor yX3_digit.desc).map (fun d => d.parameters.length) = some 1 := by decide +kernel
theorem st131 (l : Launch) {G : rGm} {cc : ByteArray} {nL n fr lo : Nat} {ret : Option FieldType} {Qf : kQf} (hf : 2 ≤ fr) (hlo : 40 ≤ lo) : ySite gAll LAll vwCl rFo rZs rRs rNs rTs G l cc nL RX3 ret fr lo n Qf 184 143 cq127 := ys_S 1 rfl (m127 l) kGood kw1639 kw1640 kw90 kw1625 hdS_X3_digit hf hlo
theorem hdS_X3_overflows : yX3_overflows.cls ≠ "java/lang/invoke/MethodHandle" ∧ yX3_overflows.cls ≠ "java/lang/invoke/VarHandle" ∧ (parseMethodDescriptor yX3_overflows.desc).map (fun d => d.parameters.length) = some 3 := by decide +kernel
theorem st132 (l : Launch) {G : rGm} {cc : ByteArray} {nL n fr lo : Nat} {ret : Option FieldType} {Qf : kQf} (hf : 1 ≤ fr) (hlo : 25 ≤ lo) : ySite gAll LAll vwCl rFo rZs rRs rNs rTs G l cc nL RX3 ret fr lo n Qf 184 146 cq128 := ys_S 3 rfl (m128 l) kGood kw1641 kw1642 kw90 kw1643 hdS_X3_overflows hf hlo
def mt129 : yMt := ([(182, (140, 0)), (184, (143, 1)), (184, (146, 2)), (184, (120, 3))], ([], ([], [])))
theorem rc129 : yRc cq129 13365 1 = true := by decide +kernel
theorem yr129 : yRun gAll t129 b129 cq129 := yRun_p (cuts := u129) (fuel := 300) gAll_tag ruI2_RtI ruJ2_RtJ rqL_ok ⟨zsm_e _ z129_s, List.forall_mem_cons.mpr ⟨zsm_e _ z129_0, yA_n⟩⟩
theorem zw129 : zwid cq129.2.1.1 cq129.1 0 10 = true := by decide +kernel
set_option maxRecDepth 100000 in
theorem yw129 : yRows gAll LAll yt4 mt129 gHo 10 1 (zby cX3_number) p129 b129 p129 = true := by decide +kernel
set_option maxRecDepth 100000 in
theorem m129 (l : Launch) : kMet gAll LAll vwCl rFo rZs rRs rNs rTs l yX3_number cX3_number 10 (some .int) 2 40 cq129 := kmet_y2 (rt := 1) (by decide +kernel) yr129 zw129 rfl yw129 LAll_ok LAll_la yt4_ok gHo_ok rfl (fun G n Qf => List.forall_mem_cons.mpr ⟨⟨cq84, rfl, st86 l (by decide) (by decide)⟩, List.forall_mem_cons.mpr ⟨⟨cq127, rfl, st131 l (by decide) (by decide)⟩, List.forall_mem_cons.mpr ⟨⟨cq128, rfl, st132 l (by decide) (by decide)⟩, List.forall_mem_cons.mpr ⟨⟨cq122, rfl, st129 l (by decide) (by decide)⟩, yA_n⟩⟩⟩⟩) rfl (fun G n Rr => yA_n) rfl
/-! 130 Line.quoted (I)I -/
def mt130 : yMt := ([(182, (140, 0)), (184, (152, 1))], ([], ([], [])))
theorem rc130 : yRc cq130 13365 1 = true := by decide +kernel
theorem yr130 : yRun gAll t130 b130 cq130 := yRun_p (cuts := u130) (fuel := 300) gAll_tag ruI2_RtI ruJ2_RtJ rqL_ok ⟨zsm_e _ z130_s, List.forall_mem_cons.mpr ⟨zsm_e _ z130_0, yA_n⟩⟩
theorem zw130 : zwid cq130.2.1.1 cq130.1 0 4 = true := by decide +kernel
set_option maxRecDepth 100000 in
theorem yw130 : yRows gAll LAll yt4 mt130 gHo 4 1 (zby cX3_quoted) p130 b130 p130 = true := by decide +kernel
set_option maxRecDepth 100000 in
theorem m130 (l : Launch) : kMet gAll LAll vwCl rFo rZs rRs rNs rTs l yX3_quoted cX3_quoted 4 (some .int) 1 21 cq130 := kmet_y2 (rt := 1) (by decide +kernel) yr130 zw130 rfl yw130 LAll_ok LAll_la yt4_ok gHo_ok rfl (fun G n Qf => List.forall_mem_cons.mpr ⟨⟨cq84, rfl, st86 l (by decide) (by decide)⟩, List.forall_mem_cons.mpr ⟨⟨cq123, rfl, st127 l (by decide) (by decide)⟩, yA_n⟩⟩) rfl (fun G n Rr => yA_n) rfl
/-! 131 Line.sign (I)I -/
def mt131 : yMt := ([(182, (140, 0))], ([], ([], [])))
theorem rc131 : yRc cq131 13365 1 = true := by decide +kernel
theorem yr131 : yRun gAll t131 b131 cq131 := yRun_p (cuts := u131) (fuel := 300) gAll_tag ruI2_RtI ruJ2_RtJ rqL_ok ⟨zsm_e _ z131_s, List.forall_mem_cons.mpr ⟨zsm_e _ z131_0, yA_n⟩⟩
theorem zw131 : zwid cq131.2.1.1 cq131.1 0 4 = true := by decide +kernel
set_option maxRecDepth 100000 in
theorem yw131 : yRows gAll LAll yt4 mt131 gHo 4 1 (zby cX3_sign) p131 b131 p131 = true := by decide +kernel
set_option maxRecDepth 100000 in
theorem m131 (l : Launch) : kMet gAll LAll vwCl rFo rZs rRs rNs rTs l yX3_sign cX3_sign 4 (some .int) 1 21 cq131 := kmet_y2 (rt := 1) (by decide +kernel) yr131 zw131 rfl yw131 LAll_ok LAll_la yt4_ok gHo_ok rfl (fun G n Qf => List.forall_mem_cons.mpr ⟨⟨cq84, rfl, st86 l (by decide) (by decide)⟩, yA_n⟩) rfl (fun G n Rr => yA_n) rfl
/-! 132 Line.cut ()Z -/
theorem hdV_X3_number : yX3_number.cls = RX3 ∧ yX3_number.cls ≠ "java/lang/invoke/MethodHandle" ∧ yX3_number.cls ≠ "java/lang/invoke/VarHandle" ∧ (parseMethodDescriptor yX3_number.desc).map (fun d => d.parameters.length) = some 1 := by decide +kernel
theorem st133 (l : Launch) {G : rGm} {cc : ByteArray} {nL n fr lo : Nat} {ret : Option FieldType} {Qf : kQf} (hf : 3 ≤ fr) (hlo : 69 ≤ lo) : ySite gAll LAll vwCl rFo rZs rRs rNs rTs G l cc nL RX3 ret fr lo n Qf 182 116 cq129 := ys_V 1 13365 5 rc129 lo_13365 kc5 (m129 l) kGood kw1610 kw1611 kw1612 kw90 kw1638 hdV_X3_number hf hlo
theorem hdV_X3_name : yX3_name.cls = RX3 ∧ yX3_name.cls ≠ "java/lang/invoke/MethodHandle" ∧ yX3_name.cls ≠ "java/lang/invoke/VarHandle" ∧ (parseMethodDescriptor yX3_name.desc).map (fun d => d.parameters.length) = some 1 := by decide +kernel
theorem st134 (l : Launch) {G : rGm} {cc : ByteArray} {nL n fr lo : Nat} {ret : Option FieldType} {Qf : kQf} (hf : 3 ≤ fr) (hlo : 62 ≤ lo) : ySite gAll LAll vwCl rFo rZs rRs rNs rTs G l cc nL RX3 ret fr lo n Qf 182 123 cq126 := ys_V 1 13365 5 rc126 lo_13365 kc5 (m126 l) kGood kw1613 kw1614 kw1615 kw90 kw1635 hdV_X3_name hf hlo
theorem hdV_X3_character : yX3_character.cls = RX3 ∧ yX3_character.cls ≠ "java/lang/invoke/MethodHandle" ∧ yX3_character.cls ≠ "java/lang/invoke/VarHandle" ∧ (parseMethodDescriptor yX3_character.desc).map (fun d => d.parameters.length) = some 1 := by decide +kernel
theorem st135 (l : Launch) {G : rGm} {cc : ByteArray} {nL n fr lo : Nat} {ret : Option FieldType} {Qf : kQf} (hf : 3 ≤ fr) (hlo : 66 ≤ lo) : ySite gAll LAll vwCl rFo rZs rRs rNs rTs G l cc nL RX3 ret fr lo n Qf 182 126 cq124 := ys_V 1 13365 5 rc124 lo_13365 kc5 (m124 l) kGood kw1616 kw1617 kw1618 kw90 kw1593 hdV_X3_character hf hlo
theorem hdV_X3_quoted : yX3_quoted.cls = RX3 ∧ yX3_quoted.cls ≠ "java/lang/invoke/MethodHandle" ∧ yX3_quoted.cls ≠ "java/lang/invoke/VarHandle" ∧ (parseMethodDescriptor yX3_quoted.desc).map (fun d => d.parameters.length) = some 1 := by decide +kernel
theorem st136 (l : Launch) {G : rGm} {cc : ByteArray} {nL n fr lo : Nat} {ret : Option FieldType} {Qf : kQf} (hf : 2 ≤ fr) (hlo : 44 ≤ lo) : ySite gAll LAll vwCl rFo rZs rRs rNs rTs G l cc nL RX3 ret fr lo n Qf 182 129 cq130 := ys_V 1 13365 5 rc130 lo_13365 kc5 (m130 l) kGood kw1619 kw1620 kw1621 kw90 kw1645 hdV_X3_quoted hf hlo
theorem hdV_X3_sign : yX3_sign.cls = RX3 ∧ yX3_sign.cls ≠ "java/lang/invoke/MethodHandle" ∧ yX3_sign.cls ≠ "java/lang/invoke/VarHandle" ∧ (parseMethodDescriptor yX3_sign.desc).map (fun d => d.parameters.length) = some 1 := by decide +kernel
theorem st137 (l : Launch) {G : rGm} {cc : ByteArray} {nL n fr lo : Nat} {ret : Option FieldType} {Qf : kQf} (hf : 2 ≤ fr) (hlo : 44 ≤ lo) : ySite gAll LAll vwCl rFo rZs rRs rNs rTs G l cc nL RX3 ret fr lo n Qf 182 132 cq131 := ys_V 1 13365 5 rc131 lo_13365 kc5 (m131 l) kGood kw1622 kw1623 kw1624 kw90 kw1647 hdV_X3_sign hf hlo
def mt132 : yMt := ([(184, (103, 0)), (182, (116, 1)), (184, (120, 2)), (182, (123, 3)), (182, (126, 4)), (182, (129, 5)), (182, (132, 6))], ([], ([], [])))
theorem rc132 : yRc cq132 13365 0 = true := by decide +kernel
theorem yr132 : yRun gAll t132 b132 cq132 := yRun_p (cuts := u132) (fuel := 300) gAll_tag ruI2_RtI ruJ2_RtJ rqL_ok ⟨zsm_e _ z132_s, List.forall_mem_cons.mpr ⟨zsm_e _ z132_0, yA_n⟩⟩
theorem zw132 : zwid cq132.2.1.1 cq132.1 0 3 = true := by decide +kernel
set_option maxRecDepth 100000 in
theorem yw132 : yRows gAll LAll yt4 mt132 gHo 3 3 (zby cX3_cut) p132 b132 p132 = true := by decide +kernel
set_option maxRecDepth 100000 in
theorem m132 (l : Launch) : kMet gAll LAll vwCl rFo rZs rRs rNs rTs l yX3_cut cX3_cut 3 (some .boolean) 3 69 cq132 := kmet_y2 (rt := 3) (by decide +kernel) yr132 zw132 rfl yw132 LAll_ok LAll_la yt4_ok gHo_ok rfl (fun G n Qf => List.forall_mem_cons.mpr ⟨⟨cq121, rfl, st126 l (by decide) (by decide)⟩, List.forall_mem_cons.mpr ⟨⟨cq129, rfl, st133 l (by decide) (by decide)⟩, List.forall_mem_cons.mpr ⟨⟨cq122, rfl, st129 l (by decide) (by decide)⟩, List.forall_mem_cons.mpr ⟨⟨cq126, rfl, st134 l (by decide) (by decide)⟩, List.forall_mem_cons.mpr ⟨⟨cq124, rfl, st135 l (by decide) (by decide)⟩, List.forall_mem_cons.mpr ⟨⟨cq130, rfl, st136 l (by decide) (by decide)⟩, List.forall_mem_cons.mpr ⟨⟨cq131, rfl, st137 l (by decide) (by decide)⟩, yA_n⟩⟩⟩⟩⟩⟩⟩) rfl (fun G n Rr => yA_n) rfl
/-! 133 Line.faultKind ()I -/
def mt133 : yMt := ([], ([], ([], [])))
theorem rc133 : yRc cq133 13365 0 = true := by decide +kernel
theorem yr133 : yRun gAll t133 b133 cq133 := yRun_z gAll_tag ruI2_RtI ruJ2_RtJ rqL_ok z133
theorem zw133 : zwid cq133.2.1.1 cq133.1 0 1 = true := by decide +kernel
set_option maxRecDepth 100000 in
theorem yw133 : yRows gAll LAll yt4 mt133 gHo 1 1 (zby cX3_faultKind) p133 b133 p133 = true := by decide +kernel
set_option maxRecDepth 100000 in
theorem m133 (l : Launch) : kMet gAll LAll vwCl rFo rZs rRs rNs rTs l yX3_faultKind cX3_faultKind 1 (some .int) 0 0 cq133 := kmet_y2 (rt := 1) (by decide +kernel) yr133 zw133 rfl yw133 LAll_ok LAll_la yt4_ok gHo_ok rfl (fun G n Qf => yA_n) rfl (fun G n Rr => yA_n) rfl
/-! 134 Reader.append (B)V -/
def mt134 : yMt := ([], ([], ([], [])))
theorem rc134 : yRc cq134 13377 1 = true := by decide +kernel
theorem yr134 : yRun gAll t134 b134 cq134 := yRun_z gAll_tag ruI2_RtI ruJ2_RtJ rqL_ok z134
theorem zw134 : zwid cq134.2.1.1 cq134.1 0 2 = true := by decide +kernel
set_option maxRecDepth 100000 in
theorem yw134 : yRows gAll LAll yt9 mt134 gHo 2 0 (zby cX8_append) p134 b134 p134 = true := by decide +kernel
set_option maxRecDepth 100000 in
theorem m134 (l : Launch) : kMet gAll LAll vwCl rFo rZs rRs rNs rTs l yX8_append cX8_append 2 none 0 0 cq134 := kmet_y2 (rt := 0) (by decide +kernel) yr134 zw134 rfl yw134 LAll_ok LAll_la yt9_ok gHo_ok rfl (fun G n Qf => yA_n) rfl (fun G n Rr => yA_n) rfl
/-! 135 Reader.appendArgument (II)V -/
theorem hdV_X8_append : yX8_append.cls = RX8 ∧ yX8_append.cls ≠ "java/lang/invoke/MethodHandle" ∧ yX8_append.cls ≠ "java/lang/invoke/VarHandle" ∧ (parseMethodDescriptor yX8_append.desc).map (fun d => d.parameters.length) = some 1 := by decide +kernel
theorem st138 (l : Launch) {G : rGm} {cc : ByteArray} {nL n fr lo : Nat} {ret : Option FieldType} {Qf : kQf} (hf : 1 ≤ fr) (hlo : 21 ≤ lo) : ySite gAll LAll vwCl rFo rZs rRs rNs rTs G l cc nL RX8 ret fr lo n Qf 182 122 cq134 := ys_V 1 13377 10 rc134 lo_13377 kc10 (m134 l) kGood kw2012 kw2013 kw2014 kw167 kw2016 hdV_X8_append hf hlo
def mt135 : yMt := ([(182, (122, 0))], ([], ([], [])))
theorem rc135 : yRc cq135 13377 2 = true := by decide +kernel
theorem yr135 : yRun gAll t135 b135 cq135 := yRun_p (cuts := u135) (fuel := 300) gAll_tag ruI2_RtI ruJ2_RtJ rqL_ok ⟨zsm_e _ z135_s, List.forall_mem_cons.mpr ⟨zsm_e _ z135_0, yA_n⟩⟩
theorem zw135 : zwid cq135.2.1.1 cq135.1 0 5 = true := by decide +kernel
set_option maxRecDepth 100000 in
theorem yw135 : yRows gAll LAll yt9 mt135 gHo 5 0 (zby cX8_appendArgument) p135 b135 p135 = true := by decide +kernel
set_option maxRecDepth 100000 in
theorem m135 (l : Launch) : kMet gAll LAll vwCl rFo rZs rRs rNs rTs l yX8_appendArgument cX8_appendArgument 5 none 1 21 cq135 := kmet_y2 (rt := 0) (by decide +kernel) yr135 zw135 rfl yw135 LAll_ok LAll_la yt9_ok gHo_ok rfl (fun G n Qf => List.forall_mem_cons.mpr ⟨⟨cq134, rfl, st138 l (by decide) (by decide)⟩, yA_n⟩) rfl (fun G n Rr => yA_n) rfl
/-! 136 Reader.appendNumber (I)V -/
def mt136 : yMt := ([(182, (122, 0))], ([], ([], [])))
theorem rc136 : yRc cq136 13377 1 = true := by decide +kernel
theorem yr136 : yRun gAll t136 b136 cq136 := yRun_p (cuts := u136) (fuel := 300) gAll_tag ruI2_RtI ruJ2_RtJ rqL_ok ⟨zsm_e _ z136_s, List.forall_mem_cons.mpr ⟨zsm_e _ z136_0, List.forall_mem_cons.mpr ⟨zsm_e _ z136_1, yA_n⟩⟩⟩
theorem zw136 : zwid cq136.2.1.1 cq136.1 0 3 = true := by decide +kernel
set_option maxRecDepth 100000 in
theorem yw136 : yRows gAll LAll yt9 mt136 gHo 3 0 (zby cX8_appendNumber) p136 b136 p136 = true := by decide +kernel
set_option maxRecDepth 100000 in
theorem m136 (l : Launch) : kMet gAll LAll vwCl rFo rZs rRs rNs rTs l yX8_appendNumber cX8_appendNumber 3 none 1 21 cq136 := kmet_y2 (rt := 0) (by decide +kernel) yr136 zw136 rfl yw136 LAll_ok LAll_la yt9_ok gHo_ok rfl (fun G n Qf => List.forall_mem_cons.mpr ⟨⟨cq134, rfl, st138 l (by decide) (by decide)⟩, yA_n⟩) rfl (fun G n Rr => yA_n) rfl
/-! 137 Source.parameterAt (III)I -/
def mt137 : yMt := ([], ([], ([], [])))
theorem rc137 : yRc cq137 13378 3 = true := by decide +kernel
theorem yr137 : yRun gAll t137 b137 cq137 := yRun_p (cuts := u137) (fuel := 300) gAll_tag ruI2_RtI ruJ2_RtJ rqL_ok ⟨zsm_e _ z137_s, List.forall_mem_cons.mpr ⟨zsm_e _ z137_0, List.forall_mem_cons.mpr ⟨zsm_e _ z137_1, yA_n⟩⟩⟩
theorem zw137 : zwid cq137.2.1.1 cq137.1 0 9 = true := by decide +kernel
set_option maxRecDepth 100000 in
theorem yw137 : yRows gAll LAll yt10 mt137 gHo 9 1 (zby cX9_parameterAt) p137 b137 p137 = true := by decide +kernel
set_option maxRecDepth 100000 in
theorem m137 (l : Launch) : kMet gAll LAll vwCl rFo rZs rRs rNs rTs l yX9_parameterAt cX9_parameterAt 9 (some .int) 0 0 cq137 := kmet_y2 (rt := 1) (by decide +kernel) yr137 zw137 rfl yw137 LAll_ok LAll_la yt10_ok gHo_ok rfl (fun G n Qf => yA_n) rfl (fun G n Rr => yA_n) rfl
/-! 138 Reader.replace (III)V -/
theorem hdV_X8_appendNumber : yX8_appendNumber.cls = RX8 ∧ yX8_appendNumber.cls ≠ "java/lang/invoke/MethodHandle" ∧ yX8_appendNumber.cls ≠ "java/lang/invoke/VarHandle" ∧ (parseMethodDescriptor yX8_appendNumber.desc).map (fun d => d.parameters.length) = some 1 := by decide +kernel
theorem st139 (l : Launch) {G : rGm} {cc : ByteArray} {nL n fr lo : Nat} {ret : Option FieldType} {Qf : kQf} (hf : 2 ≤ fr) (hlo : 43 ≤ lo) : ySite gAll LAll vwCl rFo rZs rRs rNs rTs G l cc nL RX8 ret fr lo n Qf 182 115 cq136 := ys_V 1 13377 10 rc136 lo_13377 kc10 (m136 l) kGood kw2071 kw2072 kw2073 kw167 kw2015 hdV_X8_appendNumber hf hlo
theorem hdV_X9_parameterAt : yX9_parameterAt.cls = RX9 ∧ yX9_parameterAt.cls ≠ "java/lang/invoke/MethodHandle" ∧ yX9_parameterAt.cls ≠ "java/lang/invoke/VarHandle" ∧ (parseMethodDescriptor yX9_parameterAt.desc).map (fun d => d.parameters.length) = some 3 := by decide +kernel
theorem st140 (l : Launch) {G : rGm} {cc : ByteArray} {nL n fr lo : Nat} {ret : Option FieldType} {Qf : kQf} (hf : 1 ≤ fr) (hlo : 28 ≤ lo) : ySite gAll LAll vwCl rFo rZs rRs rNs rTs G l cc nL RX8 ret fr lo n Qf 182 118 cq137 := ys_V 3 13378 11 rc137 lo_13378 kc11 (m137 l) kGood kw2074 kw2075 kw2076 kw170 kw2103 hdV_X9_parameterAt hf hlo
theorem hdV_X8_appendArgument : yX8_appendArgument.cls = RX8 ∧ yX8_appendArgument.cls ≠ "java/lang/invoke/MethodHandle" ∧ yX8_appendArgument.cls ≠ "java/lang/invoke/VarHandle" ∧ (parseMethodDescriptor yX8_appendArgument.desc).map (fun d => d.parameters.length) = some 2 := by decide +kernel
theorem st141 (l : Launch) {G : rGm} {cc : ByteArray} {nL n fr lo : Nat} {ret : Option FieldType} {Qf : kQf} (hf : 2 ≤ fr) (hlo : 45 ≤ lo) : ySite gAll LAll vwCl rFo rZs rRs rNs rTs G l cc nL RX8 ret fr lo n Qf 182 129 cq135 := ys_V 2 13377 10 rc135 lo_13377 kc10 (m135 l) kGood kw2077 kw2078 kw2079 kw167 kw2011 hdV_X8_appendArgument hf hlo
def mt138 : yMt := ([(182, (115, 0)), (182, (118, 1)), (182, (122, 2)), (182, (129, 3))], ([], ([], [])))
theorem rc138 : yRc cq138 13377 3 = true := by decide +kernel
theorem yr138 : yRun gAll t138 b138 cq138 := yRun_p (cuts := u138) (fuel := 300) gAll_tag ruI2_RtI ruJ2_RtJ rqL_ok ⟨zsm_e _ z138_s, List.forall_mem_cons.mpr ⟨zsm_e _ z138_0, yA_n⟩⟩
theorem zw138 : zwid cq138.2.1.1 cq138.1 0 7 = true := by decide +kernel
set_option maxRecDepth 100000 in
theorem yw138 : yRows gAll LAll yt9 mt138 gHo 7 0 (zby cX8_replace) p138 b138 p138 = true := by decide +kernel
set_option maxRecDepth 100000 in
theorem m138 (l : Launch) : kMet gAll LAll vwCl rFo rZs rRs rNs rTs l yX8_replace cX8_replace 7 none 2 45 cq138 := kmet_y2 (rt := 0) (by decide +kernel) yr138 zw138 rfl yw138 LAll_ok LAll_la yt9_ok gHo_ok rfl (fun G n Qf => List.forall_mem_cons.mpr ⟨⟨cq136, rfl, st139 l (by decide) (by decide)⟩, List.forall_mem_cons.mpr ⟨⟨cq137, rfl, st140 l (by decide) (by decide)⟩, List.forall_mem_cons.mpr ⟨⟨cq134, rfl, st138 l (by decide) (by decide)⟩, List.forall_mem_cons.mpr ⟨⟨cq135, rfl, st141 l (by decide) (by decide)⟩, yA_n⟩⟩⟩⟩) rfl (fun G n Rr => yA_n) rfl
/-! 139 Reader.bring (I)V -/
theorem cA7_e : cA7 = cpC 3 1 65536 (2 * ((13366 : Nat) : Int) + 1) 1 1024 42 := by rfl
theorem sA7 {own : String} {ix : Nat} (l : Launch) {G : rGm} {cc : ByteArray} {nL n fr lo : Nat} {ret : Option FieldType} {Qf : kQf} (w1 : Cond.methodLink own ix arraycopyName ∈ rTs) (hf : 1 ≤ fr) (hlo : 26 ≤ lo) : ySite gAll LAll vwCl rFo rZs rRs rNs rTs G l cc nL own ret fr lo n Qf 184 ix cA7 := by
  rw [cA7_e]
  exact ys_A (t := 2) (c1 := ((-128), 127)) (c2 := ((-128), 127)) LAll_ok (Or.inl ⟨1, _, List.mem_of_getElem? (i := 0) rfl, rfl⟩) rfl (List.mem_of_getElem? (i := 16) rfl) rfl (by decide) (fun z h1 h2 => y_fb ⟨Int.le_trans (by decide) h1, Int.le_trans h2 (by decide)⟩) w1 kw62 kw63 kw64 hf (Nat.le_trans (by decide +kernel) hlo)
theorem hdV_X8_replace : yX8_replace.cls = RX8 ∧ yX8_replace.cls ≠ "java/lang/invoke/MethodHandle" ∧ yX8_replace.cls ≠ "java/lang/invoke/VarHandle" ∧ (parseMethodDescriptor yX8_replace.desc).map (fun d => d.parameters.length) = some 3 := by decide +kernel
theorem st142 (l : Launch) {G : rGm} {cc : ByteArray} {nL n fr lo : Nat} {ret : Option FieldType} {Qf : kQf} (hf : 3 ≤ fr) (hlo : 71 ≤ lo) : ySite gAll LAll vwCl rFo rZs rRs rNs rTs G l cc nL RX8 ret fr lo n Qf 182 99 cq138 := ys_V 3 13377 10 rc138 lo_13377 kc10 (m138 l) kGood kw2021 kw2022 kw2023 kw167 kw2070 hdV_X8_replace hf hlo
def mt139 : yMt := ([(182, (99, 0)), (184, (109, 1))], ([], ([], [])))
theorem rc139 : yRc cq139 13377 1 = true := by decide +kernel
theorem yr139 : yRun gAll t139 b139 cq139 := yRun_z gAll_tag ruI2_RtI ruJ2_RtJ rqL_ok z139
theorem zw139 : zwid cq139.2.1.1 cq139.1 0 4 = true := by decide +kernel
set_option maxRecDepth 100000 in
theorem yw139 : yRows gAll LAll yt9 mt139 gHo 4 0 (zby cX8_bring) p139 b139 p139 = true := by decide +kernel
set_option maxRecDepth 100000 in
theorem m139 (l : Launch) : kMet gAll LAll vwCl rFo rZs rRs rNs rTs l yX8_bring cX8_bring 4 none 3 71 cq139 := kmet_y2 (rt := 0) (by decide +kernel) yr139 zw139 rfl yw139 LAll_ok LAll_la yt9_ok gHo_ok rfl (fun G n Qf => List.forall_mem_cons.mpr ⟨⟨cq138, rfl, st142 l (by decide) (by decide)⟩, List.forall_mem_cons.mpr ⟨⟨cA7, rfl, sA7 l kw2025 (by decide) (by decide)⟩, yA_n⟩⟩) rfl (fun G n Rr => yA_n) rfl
/-! 140 Reader.advance ()Z -/
theorem hdV_X8_bring : yX8_bring.cls = RX8 ∧ yX8_bring.cls ≠ "java/lang/invoke/MethodHandle" ∧ yX8_bring.cls ≠ "java/lang/invoke/VarHandle" ∧ (parseMethodDescriptor yX8_bring.desc).map (fun d => d.parameters.length) = some 1 := by decide +kernel
theorem st143 (l : Launch) {G : rGm} {cc : ByteArray} {nL n fr lo : Nat} {ret : Option FieldType} {Qf : kQf} (hf : 4 ≤ fr) (hlo : 94 ≤ lo) : ySite gAll LAll vwCl rFo rZs rRs rNs rTs G l cc nL RX8 ret fr lo n Qf 182 90 cq139 := ys_V 1 13377 10 rc139 lo_13377 kc10 (m139 l) kGood kw2008 kw2009 kw2010 kw167 kw2019 hdV_X8_bring hf hlo
def mt140 : yMt := ([(182, (90, 0))], ([], ([], [])))
theorem rc140 : yRc cq140 13377 0 = true := by decide +kernel
theorem yr140 : yRun gAll t140 b140 cq140 := yRun_p (cuts := u140) (fuel := 300) gAll_tag ruI2_RtI ruJ2_RtJ rqL_ok ⟨zsm_e _ z140_s, List.forall_mem_cons.mpr ⟨zsm_e _ z140_0, yA_n⟩⟩
theorem zw140 : zwid cq140.2.1.1 cq140.1 0 2 = true := by decide +kernel
set_option maxRecDepth 100000 in
theorem yw140 : yRows gAll LAll yt9 mt140 gHo 2 3 (zby cX8_advance) p140 b140 p140 = true := by decide +kernel
set_option maxRecDepth 100000 in
theorem m140 (l : Launch) : kMet gAll LAll vwCl rFo rZs rRs rNs rTs l yX8_advance cX8_advance 2 (some .boolean) 4 94 cq140 := kmet_y2 (rt := 3) (by decide +kernel) yr140 zw140 rfl yw140 LAll_ok LAll_la yt9_ok gHo_ok rfl (fun G n Qf => List.forall_mem_cons.mpr ⟨⟨cq139, rfl, st143 l (by decide) (by decide)⟩, yA_n⟩) rfl (fun G n Rr => yA_n) rfl
/-! 141 Names.cut@x.assembler.reader.source.macros (I)V -/
def mt141 : yMt := ([], ([], ([], [])))
theorem rc141 : yRc cq141 13384 1 = true := by decide +kernel
theorem yr141 : yRun gAll t141 b141 cq141 := yRun_p (cuts := u141) (fuel := 300) gAll_tag ruI2_RtI ruJ2_RtJ rqL_ok ⟨zsm_e _ z141_s, List.forall_mem_cons.mpr ⟨zsm_e _ z141_0, yA_n⟩⟩
theorem zw141 : zwid cq141.2.1.1 cq141.1 0 2 = true := by decide +kernel
set_option maxRecDepth 100000 in
theorem yw141 : yRows gAll LAll yt8 mt141 gHo 2 0 (zby cX7_cut) p141 b141 p141 = true := by decide +kernel
set_option maxRecDepth 100000 in
theorem m141 (l : Launch) : kMet gAll LAll vwCl rFo rZs rRs rNs rTs l yX7_cut cX7_cut 2 none 0 0 cq141 := kmet_y2 (rt := 0) (by decide +kernel) yr141 zw141 rfl yw141 LAll_ok LAll_la yt8_ok gHo_ok rfl (fun G n Qf => yA_n) rfl (fun G n Rr => yA_n) rfl
/-! 142 Source.behind/elses ([II)I -/
def mt142 : yMt := ([], ([], ([], [])))
theorem rc142 : yRc cq142 13378 2 = true := by decide +kernel
theorem yr142 : yRun gAll t142 b142 cq142 := yRun_z gAll_tag ruI2_RtI ruJ2_RtJ rqL_ok z142
theorem zw142 : zwid cq142.2.1.1 cq142.1 0 3 = true := by decide +kernel
set_option maxRecDepth 100000 in
theorem yw142 : yRows gAll LAll yt10 mt142 gHo 3 1 (zby cX9_behind) p142 b142 p142 = true := by decide +kernel
set_option maxRecDepth 100000 in
theorem m142 (l : Launch) : kMet gAll LAll vwCl rFo rZs rRs rNs rTs l yX9_behind cX9_behind 3 (some .int) 0 0 cq142 := kmet_y2 (rt := 1) (by decide +kernel) yr142 zw142 rfl yw142 LAll_ok LAll_la yt10_ok gHo_ok rfl (fun G n Qf => yA_n) rfl (fun G n Rr => yA_n) rfl
/-! 143 Source.behind/ifEnds ([II)I -/
def mt143 : yMt := ([], ([], ([], [])))
theorem rc143 : yRc cq143 13378 2 = true := by decide +kernel
theorem yr143 : yRun gAll t143 b143 cq143 := yRun_z gAll_tag ruI2_RtI ruJ2_RtJ rqL_ok z143
theorem zw143 : zwid cq143.2.1.1 cq143.1 0 3 = true := by decide +kernel
set_option maxRecDepth 100000 in
theorem yw143 : yRows gAll LAll yt10 mt143 gHo 3 1 (zby cX9_behind) p143 b143 p143 = true := by decide +kernel
set_option maxRecDepth 100000 in
theorem m143 (l : Launch) : kMet gAll LAll vwCl rFo rZs rRs rNs rTs l yX9_behind cX9_behind 3 (some .int) 0 0 cq143 := kmet_y2 (rt := 1) (by decide +kernel) yr143 zw143 rfl yw143 LAll_ok LAll_la yt10_ok gHo_ok rfl (fun G n Qf => yA_n) rfl (fun G n Rr => yA_n) rfl
/-! 144 Source.behind/reptEnds ([II)I -/
def mt144 : yMt := ([], ([], ([], [])))
theorem rc144 : yRc cq144 13378 2 = true := by decide +kernel
theorem yr144 : yRun gAll t144 b144 cq144 := yRun_z gAll_tag ruI2_RtI ruJ2_RtJ rqL_ok z144
theorem zw144 : zwid cq144.2.1.1 cq144.1 0 3 = true := by decide +kernel
set_option maxRecDepth 100000 in
theorem yw144 : yRows gAll LAll yt10 mt144 gHo 3 1 (zby cX9_behind) p144 b144 p144 = true := by decide +kernel
set_option maxRecDepth 100000 in
theorem m144 (l : Launch) : kMet gAll LAll vwCl rFo rZs rRs rNs rTs l yX9_behind cX9_behind 3 (some .int) 0 0 cq144 := kmet_y2 (rt := 1) (by decide +kernel) yr144 zw144 rfl yw144 LAll_ok LAll_la yt10_ok gHo_ok rfl (fun G n Qf => yA_n) rfl (fun G n Rr => yA_n) rfl
/-! 145 Source.match ()V -/
theorem hdV_X9_behind : yX9_behind.cls = RX9 ∧ yX9_behind.cls ≠ "java/lang/invoke/MethodHandle" ∧ yX9_behind.cls ≠ "java/lang/invoke/VarHandle" ∧ (parseMethodDescriptor yX9_behind.desc).map (fun d => d.parameters.length) = some 2 := by decide +kernel
theorem st144 (l : Launch) {G : rGm} {cc : ByteArray} {nL n fr lo : Nat} {ret : Option FieldType} {Qf : kQf} (hf : 1 ≤ fr) (hlo : 22 ≤ lo) : ySite gAll LAll vwCl rFo rZs rRs rNs rTs G l cc nL RX9 ret fr lo n Qf 182 90 cq143 := ys_V 2 13378 11 rc143 lo_13378 kc11 (m143 l) kGood kw2100 kw2101 kw2102 kw170 kw2098 hdV_X9_behind hf hlo
theorem st145 (l : Launch) {G : rGm} {cc : ByteArray} {nL n fr lo : Nat} {ret : Option FieldType} {Qf : kQf} (hf : 1 ≤ fr) (hlo : 22 ≤ lo) : ySite gAll LAll vwCl rFo rZs rRs rNs rTs G l cc nL RX9 ret fr lo n Qf 182 90 cq142 := ys_V 2 13378 11 rc142 lo_13378 kc11 (m142 l) kGood kw2100 kw2101 kw2102 kw170 kw2098 hdV_X9_behind hf hlo
theorem st146 (l : Launch) {G : rGm} {cc : ByteArray} {nL n fr lo : Nat} {ret : Option FieldType} {Qf : kQf} (hf : 1 ≤ fr) (hlo : 22 ≤ lo) : ySite gAll LAll vwCl rFo rZs rRs rNs rTs G l cc nL RX9 ret fr lo n Qf 182 90 cq144 := ys_V 2 13378 11 rc144 lo_13378 kc11 (m144 l) kGood kw2100 kw2101 kw2102 kw170 kw2098 hdV_X9_behind hf hlo
def mt145 : yMt := ([(182, (90, 0)), (182, (90, 1)), (182, (90, 2))], ([], ([], [])))
theorem rc145 : yRc cq145 13378 0 = true := by decide +kernel
theorem yr145 : yRun gAll t145 b145 cq145 := yRun_p (cuts := u145) (fuel := 300) gAll_tag ruI2_RtI ruJ2_RtJ rqL_ok ⟨zsm_e _ z145_s, List.forall_mem_cons.mpr ⟨zsm_e _ z145_0, yA_n⟩⟩
theorem zw145 : zwid cq145.2.1.1 cq145.1 0 5 = true := by decide +kernel
set_option maxRecDepth 100000 in
theorem yw145 : yRows gAll LAll yt10 mt145 gHo 5 0 (zby cX9_match) p145 b145 p145 = true := by decide +kernel
set_option maxRecDepth 100000 in
theorem m145 (l : Launch) : kMet gAll LAll vwCl rFo rZs rRs rNs rTs l yX9_match cX9_match 5 none 1 22 cq145 := kmet_y2 (rt := 0) (by decide +kernel) yr145 zw145 rfl yw145 LAll_ok LAll_la yt10_ok gHo_ok rfl (fun G n Qf => List.forall_mem_cons.mpr ⟨⟨cq143, rfl, st144 l (by decide) (by decide)⟩, List.forall_mem_cons.mpr ⟨⟨cq142, rfl, st145 l (by decide) (by decide)⟩, List.forall_mem_cons.mpr ⟨⟨cq144, rfl, st146 l (by decide) (by decide)⟩, yA_n⟩⟩⟩) rfl (fun G n Rr => yA_n) rfl
/-! 146 Names.find/tape@x.assembler.line.words ([BIII)I -/
def mt146 : yMt := ([], ([], ([], [])))
theorem rc146 : yRc cq146 13367 4 = true := by decide +kernel
theorem yr146 : yRun gAll t146 b146 cq146 := yRun_p (cuts := u146) (fuel := 300) gAll_tag ruI2_RtI ruJ2_RtJ rqL_ok ⟨zsm_e _ z146_s, List.forall_mem_cons.mpr ⟨zsm_e _ z146_0, List.forall_mem_cons.mpr ⟨zsm_e _ z146_1, List.forall_mem_cons.mpr ⟨zsm_e _ z146_2, yA_n⟩⟩⟩⟩
theorem zw146 : zwid cq146.2.1.1 cq146.1 0 9 = true := by decide +kernel
set_option maxRecDepth 100000 in
theorem yw146 : yRows gAll LAll yt8 mt146 gHo 9 1 (zby cX7_find) p146 b146 p146 = true := by decide +kernel
set_option maxRecDepth 100000 in
theorem m146 (l : Launch) : kMet gAll LAll vwCl rFo rZs rRs rNs rTs l yX7_find cX7_find 9 (some .int) 0 0 cq146 := kmet_y2 (rt := 1) (by decide +kernel) yr146 zw146 rfl yw146 LAll_ok LAll_la yt8_ok gHo_ok rfl (fun G n Qf => yA_n) rfl (fun G n Rr => yA_n) rfl
/-! 147 Source.sortOf (I)I -/
theorem st147 (l : Launch) {G : rGm} {cc : ByteArray} {nL n fr lo : Nat} {ret : Option FieldType} {Qf : kQf} (hf : 2 ≤ fr) (hlo : 40 ≤ lo) : ySite gAll LAll vwCl rFo rZs rRs rNs rTs G l cc nL RX9 ret fr lo n Qf 184 77 cq122 := ys_S 1 rfl (m122 l) kGood kw2105 kw1603 kw90 kw1604 hdS_X3_inName hf hlo
theorem st148 (l : Launch) {G : rGm} {cc : ByteArray} {nL n fr lo : Nat} {ret : Option FieldType} {Qf : kQf} (hf : 1 ≤ fr) (hlo : 28 ≤ lo) : ySite gAll LAll vwCl rFo rZs rRs rNs rTs G l cc nL RX9 ret fr lo n Qf 182 86 cq146 := ys_V 4 13367 9 rc146 lo_13367 kc9 (m146 l) kGood kw2107 kw734 kw735 kw18 kw732 hdV_X7_find hf hlo
def mt147 : yMt := ([(184, (77, 0)), (182, (86, 1))], ([], ([], [])))
theorem rc147 : yRc cq147 13378 1 = true := by decide +kernel
theorem yr147 : yRun gAll t147 b147 cq147 := yRun_p (cuts := u147) (fuel := 300) gAll_tag ruI2_RtI ruJ2_RtJ rqL_ok ⟨zsm_e _ z147_s, List.forall_mem_cons.mpr ⟨zsm_e _ z147_0, List.forall_mem_cons.mpr ⟨zsm_e _ z147_1, yA_n⟩⟩⟩
theorem zw147 : zwid cq147.2.1.1 cq147.1 0 6 = true := by decide +kernel
set_option maxRecDepth 100000 in
theorem yw147 : yRows gAll LAll yt10 mt147 gHo 6 1 (zby cX9_sortOf) p147 b147 p147 = true := by decide +kernel
set_option maxRecDepth 100000 in
theorem m147 (l : Launch) : kMet gAll LAll vwCl rFo rZs rRs rNs rTs l yX9_sortOf cX9_sortOf 6 (some .int) 2 40 cq147 := kmet_y2 (rt := 1) (by decide +kernel) yr147 zw147 rfl yw147 LAll_ok LAll_la yt10_ok gHo_ok rfl (fun G n Qf => List.forall_mem_cons.mpr ⟨⟨cq122, rfl, st147 l (by decide) (by decide)⟩, List.forall_mem_cons.mpr ⟨⟨cq146, rfl, st148 l (by decide) (by decide)⟩, yA_n⟩⟩) rfl (fun G n Rr => yA_n) rfl
