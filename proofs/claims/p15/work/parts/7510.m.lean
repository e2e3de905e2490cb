/-! METHODS, CALLEES FIRST (written by wip/p2/genmeth.py) -/
/-! 247 Machine.execute ()V -/
theorem hdV_X5_arithmetic : yX5_arithmetic.cls = RX5 ∧ yX5_arithmetic.cls ≠ "java/lang/invoke/MethodHandle" ∧ yX5_arithmetic.cls ≠ "java/lang/invoke/VarHandle" ∧ (parseMethodDescriptor yX5_arithmetic.desc).map (fun d => d.parameters.length) = some 1 := by decide +kernel
theorem st244 (l : Launch) {G : rGm} {cc : ByteArray} {nL n fr lo : Nat} {ret : Option FieldType} {Qf : kQf} (hf : 4 ≤ fr) (hlo : 113 ≤ lo) : ySite gAll LAll vwCl rFo rZs rRs rNs rTs G l cc nL RX5 ret fr lo n Qf 182 146 cq214 := ys_V 1 13438 7 rc214 lo_13438 kc7 (m214 l) kGood kw1852 kw1853 kw1854 kw263 kw1760 hdV_X5_arithmetic hf hlo
theorem hdV_X5_move : yX5_move.cls = RX5 ∧ yX5_move.cls ≠ "java/lang/invoke/MethodHandle" ∧ yX5_move.cls ≠ "java/lang/invoke/VarHandle" ∧ (parseMethodDescriptor yX5_move.desc).map (fun d => d.parameters.length) = some 1 := by decide +kernel
theorem st245 (l : Launch) {G : rGm} {cc : ByteArray} {nL n fr lo : Nat} {ret : Option FieldType} {Qf : kQf} (hf : 4 ≤ fr) (hlo : 107 ≤ lo) : ySite gAll LAll vwCl rFo rZs rRs rNs rTs G l cc nL RX5 ret fr lo n Qf 182 150 cq234 := ys_V 1 13438 7 rc234 lo_13438 kc7 (m234 l) kGood kw1855 kw1856 kw1857 kw263 kw1906 hdV_X5_move hf hlo
theorem hdV_X5_single : yX5_single.cls = RX5 ∧ yX5_single.cls ≠ "java/lang/invoke/MethodHandle" ∧ yX5_single.cls ≠ "java/lang/invoke/VarHandle" ∧ (parseMethodDescriptor yX5_single.desc).map (fun d => d.parameters.length) = some 1 := by decide +kernel
theorem st246 (l : Launch) {G : rGm} {cc : ByteArray} {nL n fr lo : Nat} {ret : Option FieldType} {Qf : kQf} (hf : 4 ≤ fr) (hlo : 116 ≤ lo) : ySite gAll LAll vwCl rFo rZs rRs rNs rTs G l cc nL RX5 ret fr lo n Qf 182 153 cq246 := ys_V 1 13438 7 rc246 lo_13438 kc7 (m246 l) kGood kw1858 kw1859 kw1860 kw263 kw1954 hdV_X5_single hf hlo
theorem hdV_X5_product : yX5_product.cls = RX5 ∧ yX5_product.cls ≠ "java/lang/invoke/MethodHandle" ∧ yX5_product.cls ≠ "java/lang/invoke/VarHandle" ∧ (parseMethodDescriptor yX5_product.desc).map (fun d => d.parameters.length) = some 0 := by decide +kernel
theorem st247 (l : Launch) {G : rGm} {cc : ByteArray} {nL n fr lo : Nat} {ret : Option FieldType} {Qf : kQf} (hf : 4 ≤ fr) (hlo : 110 ≤ lo) : ySite gAll LAll vwCl rFo rZs rRs rNs rTs G l cc nL RX5 ret fr lo n Qf 182 156 cq242 := ys_V 0 13438 7 rc242 lo_13438 kc7 (m242 l) kGood kw1861 kw1862 kw1863 kw263 kw1916 hdV_X5_product hf hlo
theorem hdV_X5_shift : yX5_shift.cls = RX5 ∧ yX5_shift.cls ≠ "java/lang/invoke/MethodHandle" ∧ yX5_shift.cls ≠ "java/lang/invoke/VarHandle" ∧ (parseMethodDescriptor yX5_shift.desc).map (fun d => d.parameters.length) = some 1 := by decide +kernel
theorem st248 (l : Launch) {G : rGm} {cc : ByteArray} {nL n fr lo : Nat} {ret : Option FieldType} {Qf : kQf} (hf : 4 ≤ fr) (hlo : 115 ≤ lo) : ySite gAll LAll vwCl rFo rZs rRs rNs rTs G l cc nL RX5 ret fr lo n Qf 182 159 cq244 := ys_V 1 13438 7 rc244 lo_13438 kc7 (m244 l) kGood kw1864 kw1865 kw1866 kw263 kw1953 hdV_X5_shift hf hlo
theorem hdV_X5_pushOrPop : yX5_pushOrPop.cls = RX5 ∧ yX5_pushOrPop.cls ≠ "java/lang/invoke/MethodHandle" ∧ yX5_pushOrPop.cls ≠ "java/lang/invoke/VarHandle" ∧ (parseMethodDescriptor yX5_pushOrPop.desc).map (fun d => d.parameters.length) = some 1 := by decide +kernel
theorem st249 (l : Launch) {G : rGm} {cc : ByteArray} {nL n fr lo : Nat} {ret : Option FieldType} {Qf : kQf} (hf : 4 ≤ fr) (hlo : 104 ≤ lo) : ySite gAll LAll vwCl rFo rZs rRs rNs rTs G l cc nL RX5 ret fr lo n Qf 182 161 cq243 := ys_V 1 13438 7 rc243 lo_13438 kc7 (m243 l) kGood kw1867 kw1868 kw1869 kw263 kw1917 hdV_X5_pushOrPop hf hlo
theorem hdV_X5_flow : yX5_flow.cls = RX5 ∧ yX5_flow.cls ≠ "java/lang/invoke/MethodHandle" ∧ yX5_flow.cls ≠ "java/lang/invoke/VarHandle" ∧ (parseMethodDescriptor yX5_flow.desc).map (fun d => d.parameters.length) = some 1 := by decide +kernel
theorem st250 (l : Launch) {G : rGm} {cc : ByteArray} {nL n fr lo : Nat} {ret : Option FieldType} {Qf : kQf} (hf : 4 ≤ fr) (hlo : 105 ≤ lo) : ySite gAll LAll vwCl rFo rZs rRs rNs rTs G l cc nL RX5 ret fr lo n Qf 182 164 cq233 := ys_V 1 13438 7 rc233 lo_13438 kc7 (m233 l) kGood kw1870 kw1871 kw1872 kw263 kw1888 hdV_X5_flow hf hlo
theorem hdV_X5_plain : yX5_plain.cls = RX5 ∧ yX5_plain.cls ≠ "java/lang/invoke/MethodHandle" ∧ yX5_plain.cls ≠ "java/lang/invoke/VarHandle" ∧ (parseMethodDescriptor yX5_plain.desc).map (fun d => d.parameters.length) = some 1 := by decide +kernel
theorem st251 (l : Launch) {G : rGm} {cc : ByteArray} {nL n fr lo : Nat} {ret : Option FieldType} {Qf : kQf} (hf : 4 ≤ fr) (hlo : 97 ≤ lo) : ySite gAll LAll vwCl rFo rZs rRs rNs rTs G l cc nL RX5 ret fr lo n Qf 182 167 cq240 := ys_V 1 13438 7 rc240 lo_13438 kc7 (m240 l) kGood kw1873 kw1874 kw1875 kw263 kw1912 hdV_X5_plain hf hlo
theorem hdV_X5_bits : yX5_bits.cls = RX5 ∧ yX5_bits.cls ≠ "java/lang/invoke/MethodHandle" ∧ yX5_bits.cls ≠ "java/lang/invoke/VarHandle" ∧ (parseMethodDescriptor yX5_bits.desc).map (fun d => d.parameters.length) = some 1 := by decide +kernel
theorem st252 (l : Launch) {G : rGm} {cc : ByteArray} {nL n fr lo : Nat} {ret : Option FieldType} {Qf : kQf} (hf : 4 ≤ fr) (hlo : 109 ≤ lo) : ySite gAll LAll vwCl rFo rZs rRs rNs rTs G l cc nL RX5 ret fr lo n Qf 182 170 cq219 := ys_V 1 13438 7 rc219 lo_13438 kc7 (m219 l) kGood kw1876 kw1877 kw1878 kw263 kw1786 hdV_X5_bits hf hlo
theorem hdV_X5_copyOrFill : yX5_copyOrFill.cls = RX5 ∧ yX5_copyOrFill.cls ≠ "java/lang/invoke/MethodHandle" ∧ yX5_copyOrFill.cls ≠ "java/lang/invoke/VarHandle" ∧ (parseMethodDescriptor yX5_copyOrFill.desc).map (fun d => d.parameters.length) = some 1 := by decide +kernel
theorem st253 (l : Launch) {G : rGm} {cc : ByteArray} {nL n fr lo : Nat} {ret : Option FieldType} {Qf : kQf} (hf : 3 ≤ fr) (hlo : 82 ≤ lo) : ySite gAll LAll vwCl rFo rZs rRs rNs rTs G l cc nL RX5 ret fr lo n Qf 182 173 cq226 := ys_V 1 13438 7 rc226 lo_13438 kc7 (m226 l) kGood kw1879 kw1880 kw1881 kw263 kw1824 hdV_X5_copyOrFill hf hlo
def mt247 : yMt := ([(182, (146, 0)), (182, (150, 1)), (182, (153, 2)), (182, (156, 3)), (182, (159, 4)), (182, (161, 5)), (182, (164, 6)), (182, (167, 7)), (182, (170, 8)), (182, (173, 9))], ([], ([], [])))
theorem rc247 : yRc cq247 13438 0 = true := by decide +kernel
theorem yr247 : yRun gAll t247 b247 cq247 := yRun_z gAll_tag ruI2_RtI ruJ2_RtJ rqL_ok z247
theorem zw247 : zwid cq247.2.1.1 cq247.1 0 2 = true := by decide +kernel
set_option maxRecDepth 100000 in
theorem yw247 : yRows gAll LAll yt6 mt247 gHo 2 0 (zby cX5_execute) p247 b247 p247 = true := by decide +kernel
set_option maxRecDepth 100000 in
theorem m247 (l : Launch) : kMet gAll LAll vwCl rFo rZs rRs rNs rTs l yX5_execute cX5_execute 2 none 4 116 cq247 := kmet_y2 (rt := 0) (by decide +kernel) yr247 zw247 rfl yw247 LAll_ok LAll_la yt6_ok gHo_ok rfl (fun G n Qf => List.forall_mem_cons.mpr ⟨⟨cq214, rfl, st244 l (by decide) (by decide)⟩, List.forall_mem_cons.mpr ⟨⟨cq234, rfl, st245 l (by decide) (by decide)⟩, List.forall_mem_cons.mpr ⟨⟨cq246, rfl, st246 l (by decide) (by decide)⟩, List.forall_mem_cons.mpr ⟨⟨cq242, rfl, st247 l (by decide) (by decide)⟩, List.forall_mem_cons.mpr ⟨⟨cq244, rfl, st248 l (by decide) (by decide)⟩, List.forall_mem_cons.mpr ⟨⟨cq243, rfl, st249 l (by decide) (by decide)⟩, List.forall_mem_cons.mpr ⟨⟨cq233, rfl, st250 l (by decide) (by decide)⟩, List.forall_mem_cons.mpr ⟨⟨cq240, rfl, st251 l (by decide) (by decide)⟩, List.forall_mem_cons.mpr ⟨⟨cq219, rfl, st252 l (by decide) (by decide)⟩, List.forall_mem_cons.mpr ⟨⟨cq226, rfl, st253 l (by decide) (by decide)⟩, yA_n⟩⟩⟩⟩⟩⟩⟩⟩⟩⟩) rfl (fun G n Rr => yA_n) rfl
/-! 248 Memory.codeAt (J)I -/
def mt248 : yMt := ([], ([], ([], [])))
theorem rc248 : yRc cq248 13439 1 = true := by decide +kernel
theorem yr248 : yRun gAll t248 b248 cq248 := yRun_z gAll_tag ruI2_RtI ruJ2_RtJ rqL_ok z248
theorem zw248 : zwid cq248.2.1.1 cq248.1 0 5 = true := by decide +kernel
set_option maxRecDepth 100000 in
theorem yw248 : yRows gAll LAll yt7 mt248 gHo 5 1 (zby cX6_codeAt) p248 b248 p248 = true := by decide +kernel
set_option maxRecDepth 100000 in
theorem m248 (l : Launch) : kMet gAll LAll vwCl rFo rZs rRs rNs rTs l yX6_codeAt cX6_codeAt 5 (some .int) 0 0 cq248 := kmet_y2 (rt := 1) (by decide +kernel) yr248 zw248 rfl yw248 LAll_ok LAll_la yt7_ok gHo_ok rfl (fun G n Qf => yA_n) rfl (fun G n Rr => yA_n) rfl
/-! 249 Machine.step ()V -/
theorem hdV_X6_codeAt : yX6_codeAt.cls = RX6 ∧ yX6_codeAt.cls ≠ "java/lang/invoke/MethodHandle" ∧ yX6_codeAt.cls ≠ "java/lang/invoke/VarHandle" ∧ (parseMethodDescriptor yX6_codeAt.desc).map (fun d => d.parameters.length) = some 1 := by decide +kernel
theorem st254 (l : Launch) {G : rGm} {cc : ByteArray} {nL n fr lo : Nat} {ret : Option FieldType} {Qf : kQf} (hf : 1 ≤ fr) (hlo : 24 ≤ lo) : ySite gAll LAll vwCl rFo rZs rRs rNs rTs G l cc nL RX5 ret fr lo n Qf 182 105 cq248 := ys_V 1 13439 8 rc248 lo_13439 kc8 (m248 l) kGood kw1962 kw1963 kw1964 kw224 kw1980 hdV_X6_codeAt hf hlo
theorem hdV_X2_decode : yX2_decode.cls = RX2 ∧ yX2_decode.cls ≠ "java/lang/invoke/MethodHandle" ∧ yX2_decode.cls ≠ "java/lang/invoke/VarHandle" ∧ (parseMethodDescriptor yX2_decode.desc).map (fun d => d.parameters.length) = some 2 := by decide +kernel
theorem st255 (l : Launch) {G : rGm} {cc : ByteArray} {nL n fr lo : Nat} {ret : Option FieldType} {Qf : kQf} (hf : 5 ≤ fr) (hlo : 135 ≤ lo) : ySite gAll LAll vwCl rFo rZs rRs rNs rTs G l cc nL RX5 ret fr lo n Qf 182 111 cq159 := ys_V 2 13443 4 rc159 lo_13443 kc4 (m159 l) kGood kw1966 kw1967 kw1968 kw142 kw1535 hdV_X2_decode hf hlo
theorem hdV_X5_execute : yX5_execute.cls = RX5 ∧ yX5_execute.cls ≠ "java/lang/invoke/MethodHandle" ∧ yX5_execute.cls ≠ "java/lang/invoke/VarHandle" ∧ (parseMethodDescriptor yX5_execute.desc).map (fun d => d.parameters.length) = some 0 := by decide +kernel
theorem st256 (l : Launch) {G : rGm} {cc : ByteArray} {nL n fr lo : Nat} {ret : Option FieldType} {Qf : kQf} (hf : 5 ≤ fr) (hlo : 137 ≤ lo) : ySite gAll LAll vwCl rFo rZs rRs rNs rTs G l cc nL RX5 ret fr lo n Qf 182 128 cq247 := ys_V 0 13438 7 rc247 lo_13438 kc7 (m247 l) kGood kw1970 kw1971 kw1972 kw263 kw1850 hdV_X5_execute hf hlo
def mt249 : yMt := ([(182, (105, 0)), (182, (98, 1)), (182, (111, 2)), (182, (121, 3)), (182, (128, 4))], ([], ([], [])))
theorem rc249 : yRc cq249 13438 0 = true := by decide +kernel
theorem yr249 : yRun gAll t249 b249 cq249 := yRun_z gAll_tag ruI2_RtI ruJ2_RtJ rqL_ok z249
theorem zw249 : zwid cq249.2.1.1 cq249.1 0 2 = true := by decide +kernel
set_option maxRecDepth 100000 in
theorem yw249 : yRows gAll LAll yt6 mt249 gHo 2 0 (zby cX5_step) p249 b249 p249 = true := by decide +kernel
set_option maxRecDepth 100000 in
theorem m249 (l : Launch) : kMet gAll LAll vwCl rFo rZs rRs rNs rTs l yX5_step cX5_step 2 none 5 137 cq249 := kmet_y2 (rt := 0) (by decide +kernel) yr249 zw249 rfl yw249 LAll_ok LAll_la yt6_ok gHo_ok rfl (fun G n Qf => List.forall_mem_cons.mpr ⟨⟨cq248, rfl, st254 l (by decide) (by decide)⟩, List.forall_mem_cons.mpr ⟨⟨cq198, rfl, st202 l (by decide) (by decide)⟩, List.forall_mem_cons.mpr ⟨⟨cq159, rfl, st255 l (by decide) (by decide)⟩, List.forall_mem_cons.mpr ⟨⟨cq195, rfl, st241 l (by decide) (by decide)⟩, List.forall_mem_cons.mpr ⟨⟨cq247, rfl, st256 l (by decide) (by decide)⟩, yA_n⟩⟩⟩⟩⟩) rfl (fun G n Rr => yA_n) rfl
/-! 250 Machine.go (I)I -/
theorem hdV_X5_step : yX5_step.cls = RX5 ∧ yX5_step.cls ≠ "java/lang/invoke/MethodHandle" ∧ yX5_step.cls ≠ "java/lang/invoke/VarHandle" ∧ (parseMethodDescriptor yX5_step.desc).map (fun d => d.parameters.length) = some 0 := by decide +kernel
theorem st257 (l : Launch) {G : rGm} {cc : ByteArray} {nL n fr lo : Nat} {ret : Option FieldType} {Qf : kQf} (hf : 6 ≤ fr) (hlo : 158 ≤ lo) : ySite gAll LAll vwCl rFo rZs rRs rNs rTs G l cc nL RX5 ret fr lo n Qf 182 102 cq249 := ys_V 0 13438 7 rc249 lo_13438 kc7 (m249 l) kGood kw1898 kw1899 kw1900 kw263 kw1961 hdV_X5_step hf hlo
def mt250 : yMt := ([(182, (94, 0)), (182, (98, 1)), (182, (102, 2))], ([], ([], [])))
theorem rc250 : yRc cq250 13438 1 = true := by decide +kernel
theorem yr250 : yRun gAll t250 b250 cq250 := yRun_p (cuts := u250) (fuel := 300) gAll_tag ruI2_RtI ruJ2_RtJ rqL_ok ⟨zsm_e _ z250_s, List.forall_mem_cons.mpr ⟨zsm_e _ z250_0, yA_n⟩⟩
theorem zw250 : zwid cq250.2.1.1 cq250.1 0 4 = true := by decide +kernel
set_option maxRecDepth 100000 in
theorem yw250 : yRows gAll LAll yt6 mt250 gHo 4 1 (zby cX5_go) p250 b250 p250 = true := by decide +kernel
set_option maxRecDepth 100000 in
theorem m250 (l : Launch) : kMet gAll LAll vwCl rFo rZs rRs rNs rTs l yX5_go cX5_go 4 (some .int) 6 158 cq250 := kmet_y2 (rt := 1) (by decide +kernel) yr250 zw250 rfl yw250 LAll_ok LAll_la yt6_ok gHo_ok rfl (fun G n Qf => List.forall_mem_cons.mpr ⟨⟨cq193, rfl, st200 l (by decide) (by decide)⟩, List.forall_mem_cons.mpr ⟨⟨cq198, rfl, st202 l (by decide) (by decide)⟩, List.forall_mem_cons.mpr ⟨⟨cq249, rfl, st257 l (by decide) (by decide)⟩, yA_n⟩⟩⟩) rfl (fun G n Rr => yA_n) rfl
/-! 251 Machine.take/tape ([BI)I -/
theorem cA12_e : cA12 = cpC 3 1 65536 (2 * ((13451 : Nat) : Int) + 1) 1 65536 186 := by rfl
theorem sA12 {own : String} {ix : Nat} (l : Launch) {G : rGm} {cc : ByteArray} {nL n fr lo : Nat} {ret : Option FieldType} {Qf : kQf} (w1 : Cond.methodLink own ix arraycopyName ∈ rTs) (hf : 1 ≤ fr) (hlo : 26 ≤ lo) : ySite gAll LAll vwCl rFo rZs rRs rNs rTs G l cc nL own ret fr lo n Qf 184 ix cA12 := by
  rw [cA12_e]
  exact ys_A (t := 2) (c1 := ((-128), 127)) (c2 := ((-128), 127)) LAll_ok (Or.inl ⟨1, _, List.mem_of_getElem? (i := 0) rfl, rfl⟩) rfl (List.mem_of_getElem? (i := 90) rfl) rfl (by decide) (fun z h1 h2 => y_fb ⟨Int.le_trans (by decide) h1, Int.le_trans h2 (by decide)⟩) w1 kw62 kw63 kw64 hf (Nat.le_trans (by decide +kernel) hlo)
theorem st258 (l : Launch) {G : rGm} {cc : ByteArray} {nL n fr lo : Nat} {ret : Option FieldType} {Qf : kQf} (hf : 1 ≤ fr) (hlo : 21 ≤ lo) : ySite gAll LAll vwCl rFo rZs rRs rNs rTs G l cc nL RX5 ret fr lo n Qf 184 79 cq8 := ys_S 2 rfl (m8 l) kGood kw752 kw285 kw286 kw287 hdS_J9_min_7cf53 hf hlo
def mt251 : yMt := ([(184, (79, 0)), (184, (85, 1))], ([], ([], [])))
theorem rc251 : yRc cq251 13438 2 = true := by decide +kernel
theorem yr251 : yRun gAll t251 b251 cq251 := yRun_z gAll_tag ruI2_RtI ruJ2_RtJ rqL_ok z251
theorem zw251 : zwid cq251.2.1.1 cq251.1 0 4 = true := by decide +kernel
set_option maxRecDepth 100000 in
theorem yw251 : yRows gAll LAll yt6 mt251 gHo 4 1 (zby cX5_take) p251 b251 p251 = true := by decide +kernel
set_option maxRecDepth 100000 in
theorem m251 (l : Launch) : kMet gAll LAll vwCl rFo rZs rRs rNs rTs l yX5_take cX5_take 4 (some .int) 1 26 cq251 := kmet_y2 (rt := 1) (by decide +kernel) yr251 zw251 rfl yw251 LAll_ok LAll_la yt6_ok gHo_ok rfl (fun G n Qf => List.forall_mem_cons.mpr ⟨⟨cq8, rfl, st258 l (by decide) (by decide)⟩, List.forall_mem_cons.mpr ⟨⟨cA12, rfl, sA12 l kw753 (by decide) (by decide)⟩, yA_n⟩⟩) rfl (fun G n Rr => yA_n) rfl
/-! 252 Names.find/tape@x.linker.names ([BIII)I -/
def mt252 : yMt := ([], ([], ([], [])))
theorem rc252 : yRc cq252 13431 4 = true := by decide +kernel
theorem yr252 : yRun gAll t252 b252 cq252 := yRun_p (cuts := u252) (fuel := 300) gAll_tag ruI2_RtI ruJ2_RtJ rqL_ok ⟨zsm_e _ z252_s, List.forall_mem_cons.mpr ⟨zsm_e _ z252_0, List.forall_mem_cons.mpr ⟨zsm_e _ z252_1, List.forall_mem_cons.mpr ⟨zsm_e _ z252_2, yA_n⟩⟩⟩⟩
theorem zw252 : zwid cq252.2.1.1 cq252.1 0 9 = true := by decide +kernel
set_option maxRecDepth 100000 in
theorem yw252 : yRows gAll LAll yt8 mt252 gHo 9 1 (zby cX7_find) p252 b252 p252 = true := by decide +kernel
set_option maxRecDepth 100000 in
theorem m252 (l : Launch) : kMet gAll LAll vwCl rFo rZs rRs rNs rTs l yX7_find cX7_find 9 (some .int) 0 0 cq252 := kmet_y2 (rt := 1) (by decide +kernel) yr252 zw252 rfl yw252 LAll_ok LAll_la yt8_ok gHo_ok rfl (fun G n Qf => yA_n) rfl (fun G n Rr => yA_n) rfl
/-! 253 Units.empty ()V -/
def mt253 : yMt := ([(182, (61, 0))], ([], ([], [])))
theorem rc253 : yRc cq253 2 0 = true := by decide +kernel
theorem yr253 : yRun gAll t253 b253 cq253 := yRun_z gAll_tag ruI2_RtI ruJ2_RtJ rqL_ok z253
theorem zw253 : zwid cq253.2.1.1 cq253.1 0 1 = true := by decide +kernel
set_option maxRecDepth 100000 in
theorem yw253 : yRows gAll LAll yt11 mt253 gHo 1 0 (zby cX10_empty) p253 b253 p253 = true := by decide +kernel
set_option maxRecDepth 100000 in
theorem m253 (l : Launch) : kMet gAll LAll vwCl rFo rZs rRs rNs rTs l yX10_empty cX10_empty 1 none 1 21 cq253 := kmet_y2 (rt := 0) (by decide +kernel) yr253 zw253 rfl yw253 LAll_ok LAll_la yt11_ok gHo_ok rfl (fun G n Qf => List.forall_mem_cons.mpr ⟨⟨cq46, rfl, st51 l (by decide) (by decide)⟩, yA_n⟩) rfl (fun G n Rr => yA_n) rfl
/-! 254 Units.has (II)Z -/
def mt254 : yMt := ([], ([], ([], [])))
theorem rc254 : yRc cq254 2 2 = true := by decide +kernel
theorem yr254 : yRun gAll t254 b254 cq254 := yRun_z gAll_tag ruI2_RtI ruJ2_RtJ rqL_ok z254
theorem zw254 : zwid cq254.2.1.1 cq254.1 0 3 = true := by decide +kernel
set_option maxRecDepth 100000 in
theorem yw254 : yRows gAll LAll yt11 mt254 gHo 3 3 (zby cX10_has) p254 b254 p254 = true := by decide +kernel
set_option maxRecDepth 100000 in
theorem m254 (l : Launch) : kMet gAll LAll vwCl rFo rZs rRs rNs rTs l yX10_has cX10_has 3 (some .boolean) 0 0 cq254 := kmet_y2 (rt := 3) (by decide +kernel) yr254 zw254 rfl yw254 LAll_ok LAll_la yt11_ok gHo_ok rfl (fun G n Qf => yA_n) rfl (fun G n Rr => yA_n) rfl
/-! 255 NW.append (I)V -/
def mt255 : yMt := ([], ([], ([], [])))
theorem rc255 : yRc cq255 0 1 = true := by decide +kernel
theorem yr255 : yRun gAll t255 b255 cq255 := yRun_p (cuts := u255) (fuel := 300) gAll_tag ruI2_RtI ruJ2_RtJ rqL_ok ⟨zsm_e _ z255_s, List.forall_mem_cons.mpr ⟨zsm_e _ z255_0, yA_n⟩⟩
theorem zw255 : zwid cq255.2.1.1 cq255.1 0 3 = true := by decide +kernel
set_option maxRecDepth 100000 in
theorem yw255 : yRows gAll LAll yt0 mt255 gHo 3 0 (zby cX11_append) p255 b255 p255 = true := by decide +kernel
set_option maxRecDepth 100000 in
theorem m255 (l : Launch) : kMet gAll LAll vwCl rFo rZs rRs rNs rTs l yX11_append cX11_append 3 none 0 0 cq255 := kmet_y2 (rt := 0) (by decide +kernel) yr255 zw255 rfl yw255 LAll_ok LAll_la yt0_ok gHo_ok rfl (fun G n Qf => yA_n) rfl (fun G n Rr => yA_n) rfl
/-! 256 NW.clear ()V -/
theorem hdV_X10_empty : yX10_empty.cls = RX10 ∧ yX10_empty.cls ≠ "java/lang/invoke/MethodHandle" ∧ yX10_empty.cls ≠ "java/lang/invoke/VarHandle" ∧ (parseMethodDescriptor yX10_empty.desc).map (fun d => d.parameters.length) = some 0 := by decide +kernel
theorem st259 (l : Launch) {G : rGm} {cc : ByteArray} {nL n fr lo : Nat} {ret : Option FieldType} {Qf : kQf} (hf : 2 ≤ fr) (hlo : 41 ≤ lo) : ySite gAll LAll vwCl rFo rZs rRs rNs rTs G l cc nL RX11 ret fr lo n Qf 182 88 cq253 := ys_V 0 2 12 rc253 lo_2 kc12 (m253 l) kGood kw710 kw711 kw712 kw241 kw709 hdV_X10_empty hf hlo
def mt256 : yMt := ([(182, (88, 0))], ([], ([], [])))
theorem rc256 : yRc cq256 0 0 = true := by decide +kernel
theorem yr256 : yRun gAll t256 b256 cq256 := yRun_z gAll_tag ruI2_RtI ruJ2_RtJ rqL_ok z256
theorem zw256 : zwid cq256.2.1.1 cq256.1 0 1 = true := by decide +kernel
set_option maxRecDepth 100000 in
theorem yw256 : yRows gAll LAll yt0 mt256 gHo 1 0 (zby cX11_clear) p256 b256 p256 = true := by decide +kernel
set_option maxRecDepth 100000 in
theorem m256 (l : Launch) : kMet gAll LAll vwCl rFo rZs rRs rNs rTs l yX11_clear cX11_clear 1 none 2 41 cq256 := kmet_y2 (rt := 0) (by decide +kernel) yr256 zw256 rfl yw256 LAll_ok LAll_la yt0_ok gHo_ok rfl (fun G n Qf => List.forall_mem_cons.mpr ⟨⟨cq253, rfl, st259 l (by decide) (by decide)⟩, yA_n⟩) rfl (fun G n Rr => yA_n) rfl
/-! 257 NW.emptied (I)I -/
theorem st260 (l : Launch) {G : rGm} {cc : ByteArray} {nL n fr lo : Nat} {ret : Option FieldType} {Qf : kQf} (hf : 1 ≤ fr) (hlo : 21 ≤ lo) : ySite gAll LAll vwCl rFo rZs rRs rNs rTs G l cc nL RX11 ret fr lo n Qf 184 224 cq8 := ys_S 2 rfl (m8 l) kGood kw600 kw285 kw286 kw287 hdS_J9_min_7cf53 hf hlo
theorem st261 (l : Launch) {G : rGm} {cc : ByteArray} {nL n fr lo : Nat} {ret : Option FieldType} {Qf : kQf} (hf : 1 ≤ fr) (hlo : 21 ≤ lo) : ySite gAll LAll vwCl rFo rZs rRs rNs rTs G l cc nL RX11 ret fr lo n Qf 184 230 cq105 := ys_S 2 rfl (m105 l) kGood kw601 kw602 kw286 kw603 hdS_J9_max_7cf53 hf hlo
def mt257 : yMt := ([(184, (224, 0)), (184, (230, 1))], ([], ([], [])))
theorem rc257 : yRc cq257 0 1 = true := by decide +kernel
theorem yr257 : yRun gAll t257 b257 cq257 := yRun_z gAll_tag ruI2_RtI ruJ2_RtJ rqL_ok z257
theorem zw257 : zwid cq257.2.1.1 cq257.1 0 3 = true := by decide +kernel
set_option maxRecDepth 100000 in
theorem yw257 : yRows gAll LAll yt0 mt257 gHo 3 1 (zby cX11_emptied) p257 b257 p257 = true := by decide +kernel
set_option maxRecDepth 100000 in
theorem m257 (l : Launch) : kMet gAll LAll vwCl rFo rZs rRs rNs rTs l yX11_emptied cX11_emptied 3 (some .int) 1 21 cq257 := kmet_y2 (rt := 1) (by decide +kernel) yr257 zw257 rfl yw257 LAll_ok LAll_la yt0_ok gHo_ok rfl (fun G n Qf => List.forall_mem_cons.mpr ⟨⟨cq8, rfl, st260 l (by decide) (by decide)⟩, List.forall_mem_cons.mpr ⟨⟨cq105, rfl, st261 l (by decide) (by decide)⟩, yA_n⟩⟩) rfl (fun G n Rr => yA_n) rfl
/-! 258 NW.fault (I)I -/
def mt258 : yMt := ([], ([], ([], [])))
theorem rc258 : yRc cq258 0 1 = true := by decide +kernel
theorem yr258 : yRun gAll t258 b258 cq258 := yRun_z gAll_tag ruI2_RtI ruJ2_RtJ rqL_ok z258
theorem zw258 : zwid cq258.2.1.1 cq258.1 0 2 = true := by decide +kernel
set_option maxRecDepth 100000 in
theorem yw258 : yRows gAll LAll yt0 mt258 gHo 2 1 (zby cX11_fault) p258 b258 p258 = true := by decide +kernel
set_option maxRecDepth 100000 in
theorem m258 (l : Launch) : kMet gAll LAll vwCl rFo rZs rRs rNs rTs l yX11_fault cX11_fault 2 (some .int) 0 0 cq258 := kmet_y2 (rt := 1) (by decide +kernel) yr258 zw258 rfl yw258 LAll_ok LAll_la yt0_ok gHo_ok rfl (fun G n Qf => yA_n) rfl (fun G n Rr => yA_n) rfl
/-! 259 NW.feed (IIIII)I -/
theorem hdV_X11_append : yX11_append.cls = RX11 ∧ yX11_append.cls ≠ "java/lang/invoke/MethodHandle" ∧ yX11_append.cls ≠ "java/lang/invoke/VarHandle" ∧ (parseMethodDescriptor yX11_append.desc).map (fun d => d.parameters.length) = some 1 := by decide +kernel
theorem st262 (l : Launch) {G : rGm} {cc : ByteArray} {nL n fr lo : Nat} {ret : Option FieldType} {Qf : kQf} (hf : 1 ≤ fr) (hlo : 22 ≤ lo) : ySite gAll LAll vwCl rFo rZs rRs rNs rTs G l cc nL RX11 ret fr lo n Qf 182 59 cq255 := ys_V 1 0 13 rc255 lo_0 kc13 (m255 l) kGood kw596 kw597 kw598 kw599 kw595 hdV_X11_append hf hlo
def mt259 : yMt := ([(182, (59, 0))], ([], ([], [])))
theorem rc259 : yRc cq259 0 5 = true := by decide +kernel
theorem yr259 : yRun gAll t259 b259 cq259 := yRun_z gAll_tag ruI2_RtI ruJ2_RtJ rqL_ok z259
theorem zw259 : zwid cq259.2.1.1 cq259.1 0 6 = true := by decide +kernel
set_option maxRecDepth 100000 in
theorem yw259 : yRows gAll LAll yt0 mt259 gHo 6 1 (zby cX11_feed) p259 b259 p259 = true := by decide +kernel
set_option maxRecDepth 100000 in
theorem m259 (l : Launch) : kMet gAll LAll vwCl rFo rZs rRs rNs rTs l yX11_feed cX11_feed 6 (some .int) 1 22 cq259 := kmet_y2 (rt := 1) (by decide +kernel) yr259 zw259 rfl yw259 LAll_ok LAll_la yt0_ok gHo_ok rfl (fun G n Qf => List.forall_mem_cons.mpr ⟨⟨cq255, rfl, st262 l (by decide) (by decide)⟩, yA_n⟩) rfl (fun G n Rr => yA_n) rfl
/-! 260 NW.input (I)I -/
theorem hdV_X11_emptied : yX11_emptied.cls = RX11 ∧ yX11_emptied.cls ≠ "java/lang/invoke/MethodHandle" ∧ yX11_emptied.cls ≠ "java/lang/invoke/VarHandle" ∧ (parseMethodDescriptor yX11_emptied.desc).map (fun d => d.parameters.length) = some 1 := by decide +kernel
theorem st263 (l : Launch) {G : rGm} {cc : ByteArray} {nL n fr lo : Nat} {ret : Option FieldType} {Qf : kQf} (hf : 2 ≤ fr) (hlo : 43 ≤ lo) : ySite gAll LAll vwCl rFo rZs rRs rNs rTs G l cc nL RX11 ret fr lo n Qf 182 63 cq257 := ys_V 1 0 13 rc257 lo_0 kc13 (m257 l) kGood kw695 kw696 kw697 kw599 kw694 hdV_X11_emptied hf hlo
theorem hdV_X5_take : yX5_take.cls = RX5 ∧ yX5_take.cls ≠ "java/lang/invoke/MethodHandle" ∧ yX5_take.cls ≠ "java/lang/invoke/VarHandle" ∧ (parseMethodDescriptor yX5_take.desc).map (fun d => d.parameters.length) = some 2 := by decide +kernel
theorem st264 (l : Launch) {G : rGm} {cc : ByteArray} {nL n fr lo : Nat} {ret : Option FieldType} {Qf : kQf} (hf : 2 ≤ fr) (hlo : 49 ≤ lo) : ySite gAll LAll vwCl rFo rZs rRs rNs rTs G l cc nL RX11 ret fr lo n Qf 182 150 cq251 := ys_V 2 13438 7 rc251 lo_13438 kc7 (m251 l) kGood kw755 kw756 kw757 kw263 kw754 hdV_X5_take hf hlo
def mt260 : yMt := ([(182, (63, 0)), (182, (150, 1))], ([], ([], [])))
theorem rc260 : yRc cq260 0 1 = true := by decide +kernel
theorem yr260 : yRun gAll t260 b260 cq260 := yRun_z gAll_tag ruI2_RtI ruJ2_RtJ rqL_ok z260
theorem zw260 : zwid cq260.2.1.1 cq260.1 0 2 = true := by decide +kernel
set_option maxRecDepth 100000 in
theorem yw260 : yRows gAll LAll yt0 mt260 gHo 2 1 (zby cX11_input) p260 b260 p260 = true := by decide +kernel
set_option maxRecDepth 100000 in
theorem m260 (l : Launch) : kMet gAll LAll vwCl rFo rZs rRs rNs rTs l yX11_input cX11_input 2 (some .int) 2 49 cq260 := kmet_y2 (rt := 1) (by decide +kernel) yr260 zw260 rfl yw260 LAll_ok LAll_la yt0_ok gHo_ok rfl (fun G n Qf => List.forall_mem_cons.mpr ⟨⟨cq257, rfl, st263 l (by decide) (by decide)⟩, List.forall_mem_cons.mpr ⟨⟨cq251, rfl, st264 l (by decide) (by decide)⟩, yA_n⟩⟩) rfl (fun G n Rr => yA_n) rfl
/-! 261 NW.tell (III)V -/
def mt261 : yMt := ([], ([], ([], [])))
theorem rc261 : yRc cq261 0 3 = true := by decide +kernel
theorem yr261 : yRun gAll t261 b261 cq261 := yRun_z gAll_tag ruI2_RtI ruJ2_RtJ rqL_ok z261
theorem zw261 : zwid cq261.2.1.1 cq261.1 0 4 = true := by decide +kernel
set_option maxRecDepth 100000 in
theorem yw261 : yRows gAll LAll yt0 mt261 gHo 4 0 (zby cX11_tell) p261 b261 p261 = true := by decide +kernel
set_option maxRecDepth 100000 in
theorem m261 (l : Launch) : kMet gAll LAll vwCl rFo rZs rRs rNs rTs l yX11_tell cX11_tell 4 none 0 0 cq261 := kmet_y2 (rt := 0) (by decide +kernel) yr261 zw261 rfl yw261 LAll_ok LAll_la yt0_ok gHo_ok rfl (fun G n Qf => yA_n) rfl (fun G n Rr => yA_n) rfl
/-! 262 NW.link ()I -/
theorem hdV_X4_make : yX4_make.cls = RX4 ∧ yX4_make.cls ≠ "java/lang/invoke/MethodHandle" ∧ yX4_make.cls ≠ "java/lang/invoke/VarHandle" ∧ (parseMethodDescriptor yX4_make.desc).map (fun d => d.parameters.length) = some 0 := by decide +kernel
theorem st265 (l : Launch) {G : rGm} {cc : ByteArray} {nL n fr lo : Nat} {ret : Option FieldType} {Qf : kQf} (hf : 6 ≤ fr) (hlo : 145 ≤ lo) : ySite gAll LAll vwCl rFo rZs rRs rNs rTs G l cc nL RX11 ret fr lo n Qf 182 102 cq192 := ys_V 0 13422 6 rc192 lo_13422 kc6 (m192 l) kGood kw737 kw738 kw739 kw256 kw736 hdV_X4_make hf hlo
theorem hdV_X11_tell : yX11_tell.cls = RX11 ∧ yX11_tell.cls ≠ "java/lang/invoke/MethodHandle" ∧ yX11_tell.cls ≠ "java/lang/invoke/VarHandle" ∧ (parseMethodDescriptor yX11_tell.desc).map (fun d => d.parameters.length) = some 3 := by decide +kernel
theorem st266 (l : Launch) {G : rGm} {cc : ByteArray} {nL n fr lo : Nat} {ret : Option FieldType} {Qf : kQf} (hf : 1 ≤ fr) (hlo : 23 ≤ lo) : ySite gAll LAll vwCl rFo rZs rRs rNs rTs G l cc nL RX11 ret fr lo n Qf 182 70 cq261 := ys_V 3 0 13 rc261 lo_0 kc13 (m261 l) kGood kw704 kw705 kw706 kw599 kw703 hdV_X11_tell hf hlo
def mt262 : yMt := ([(182, (102, 0)), (182, (70, 1))], ([], ([], [37])))
theorem rc262 : yRc cq262 0 0 = true := by decide +kernel
theorem yr262 : yRun gAll t262 b262 cq262 := yRun_z gAll_tag ruI2_RtI ruJ2_RtJ rqL_ok z262
theorem zw262 : zwid cq262.2.1.1 cq262.1 0 2 = true := by decide +kernel
set_option maxRecDepth 100000 in
theorem yw262 : yRows gAll LAll yt0 mt262 gHo 2 1 (zby cX11_link) p262 b262 p262 = true := by decide +kernel
theorem dx262_37 : decode cX11_link 37 = .ok (.new 109, 3) := by decide +kernel
theorem dx262_40 : decode cX11_link 40 = .ok (.dup, 1) := by decide +kernel
theorem dx262_41 : decode cX11_link 41 = .ok (.ldc 111, 2) := by decide +kernel
theorem dx262_43 : decode cX11_link 43 = .ok (.invokespecial 113, 3) := by decide +kernel
theorem dx262_46 : decode cX11_link 46 = .ok (.athrow, 1) := by decide +kernel
theorem xt262_0 (l : Launch) (hl : l.stackTraces = false) (G : rGm) (n : Nat) (Rr : List qV → qSg → Prop) : ∀ ls st s, (st = [] ∧ Rr [] s) → kW gAll LAll vwCl rFo rZs rRs rNs rTs G l cX11_link 2 "NativeWorks" (some .int) 13 345 n (kXQ gAll LAll vwCl rFo rZs rRs rNs G n (fun res s2 => (∃ v, res = [v]) ∧ Rr res s2) (fun E s2 => (fun E => E = "java/lang/IllegalStateException") E ∧ Rr [] s2)) 37 ls st s := kx_thr (i := 10001) ["java/lang/RuntimeException", "java/lang/Exception"] hl (by decide) (by decide +kernel) (List.all_eq_true.mp (by decide +kernel)) kw743 kw744 kr92 hat0 (xgood0 109) dx262_37 dx262_40 dx262_41 dx262_43 dx262_46 (by decide) (by decide) (fun s h => ⟨rfl, h⟩)
set_option maxRecDepth 100000 in
theorem m262 (l : Launch) (hl : l.stackTraces = false) : kMetX gAll LAll vwCl rFo rZs rRs rNs rTs l yX11_link cX11_link 2 (some .int) 13 345 cq262 (fun E => E = "java/lang/IllegalStateException") := kmetx_y (rt := 1) (by decide +kernel) yr262 zw262 rfl yw262 LAll_ok LAll_la yt0_ok gHo_ok rfl (by decide) (fun G n Qf => List.forall_mem_cons.mpr ⟨⟨cq192, rfl, st265 l (by decide) (by decide)⟩, List.forall_mem_cons.mpr ⟨⟨cq261, rfl, st266 l (by decide) (by decide)⟩, yA_n⟩⟩) rfl rfl (fun G n Rr => List.forall_mem_cons.mpr ⟨xt262_0 l hl G n Rr, yA_n⟩)
/-! 263 NW.load ()J -/
theorem hdV_X5_boot : yX5_boot.cls = RX5 ∧ yX5_boot.cls ≠ "java/lang/invoke/MethodHandle" ∧ yX5_boot.cls ≠ "java/lang/invoke/VarHandle" ∧ (parseMethodDescriptor yX5_boot.desc).map (fun d => d.parameters.length) = some 1 := by decide +kernel
theorem st267 (l : Launch) {G : rGm} {cc : ByteArray} {nL n fr lo : Nat} {ret : Option FieldType} {Qf : kQf} (hf : 4 ≤ fr) (hlo : 91 ≤ lo) : ySite gAll LAll vwCl rFo rZs rRs rNs rTs G l cc nL RX11 ret fr lo n Qf 182 143 cq225 := ys_V 1 13438 7 rc225 lo_13438 kc7 (m225 l) kGood kw2875 kw2876 kw2877 kw263 kw1807 hdV_X5_boot hf hlo
def mt263 : yMt := ([(182, (143, 0))], ([], ([], [10])))
theorem rc263 : yRc cq263 0 0 = true := by decide +kernel
theorem yr263 : yRun gAll t263 b263 cq263 := yRun_z gAll_tag ruI2_RtI ruJ2_RtJ rqL_ok z263
theorem zw263 : zwid cq263.2.1.1 cq263.1 0 1 = true := by decide +kernel
set_option maxRecDepth 100000 in
theorem yw263 : yRows gAll LAll yt0 mt263 gHo 1 2 (zby cX11_load) p263 b263 p263 = true := by decide +kernel
theorem dx263_10 : decode cX11_load 10 = .ok (.new 109, 3) := by decide +kernel
theorem dx263_13 : decode cX11_load 13 = .ok (.dup, 1) := by decide +kernel
theorem dx263_14 : decode cX11_load 14 = .ok (.ldc 141, 2) := by decide +kernel
theorem dx263_16 : decode cX11_load 16 = .ok (.invokespecial 113, 3) := by decide +kernel
theorem dx263_19 : decode cX11_load 19 = .ok (.athrow, 1) := by decide +kernel
theorem xt263_0 (l : Launch) (hl : l.stackTraces = false) (G : rGm) (n : Nat) (Rr : List qV → qSg → Prop) : ∀ ls st s, (st = [] ∧ Rr [] s) → kW gAll LAll vwCl rFo rZs rRs rNs rTs G l cX11_load 1 "NativeWorks" (some .long) 11 291 n (kXQ gAll LAll vwCl rFo rZs rRs rNs G n (fun res s2 => (∃ v, res = [v]) ∧ Rr res s2) (fun E s2 => (fun E => E = "java/lang/IllegalStateException") E ∧ Rr [] s2)) 10 ls st s := kx_thr (i := 10003) ["java/lang/RuntimeException", "java/lang/Exception"] hl (by decide) (by decide +kernel) (List.all_eq_true.mp (by decide +kernel)) kw743 kw744 kr94 hat0 (xgood0 109) dx263_10 dx263_13 dx263_14 dx263_16 dx263_19 (by decide) (by decide) (fun s h => ⟨rfl, h⟩)
set_option maxRecDepth 100000 in
theorem m263 (l : Launch) (hl : l.stackTraces = false) : kMetX gAll LAll vwCl rFo rZs rRs rNs rTs l yX11_load cX11_load 1 (some .long) 11 291 cq263 (fun E => E = "java/lang/IllegalStateException") := kmetx_y (rt := 2) (by decide +kernel) yr263 zw263 rfl yw263 LAll_ok LAll_la yt0_ok gHo_ok rfl (by decide) (fun G n Qf => List.forall_mem_cons.mpr ⟨⟨cq225, rfl, st267 l (by decide) (by decide)⟩, yA_n⟩) rfl rfl (fun G n Rr => List.forall_mem_cons.mpr ⟨xt263_0 l hl G n Rr, yA_n⟩)
/-! 264 NW.octet (III)I -/
theorem hdV_X10_has : yX10_has.cls = RX10 ∧ yX10_has.cls ≠ "java/lang/invoke/MethodHandle" ∧ yX10_has.cls ≠ "java/lang/invoke/VarHandle" ∧ (parseMethodDescriptor yX10_has.desc).map (fun d => d.parameters.length) = some 2 := by decide +kernel
theorem st268 (l : Launch) {G : rGm} {cc : ByteArray} {nL n fr lo : Nat} {ret : Option FieldType} {Qf : kQf} (hf : 1 ≤ fr) (hlo : 22 ≤ lo) : ySite gAll LAll vwCl rFo rZs rRs rNs rTs G l cc nL RX11 ret fr lo n Qf 182 91 cq254 := ys_V 2 2 12 rc254 lo_2 kc12 (m254 l) kGood kw714 kw715 kw716 kw241 kw713 hdV_X10_has hf hlo
def mt264 : yMt := ([(182, (91, 0))], ([], ([], [])))
theorem rc264 : yRc cq264 0 3 = true := by decide +kernel
theorem yr264 : yRun gAll t264 b264 cq264 := yRun_z gAll_tag ruI2_RtI ruJ2_RtJ rqL_ok z264
theorem zw264 : zwid cq264.2.1.1 cq264.1 0 4 = true := by decide +kernel
set_option maxRecDepth 100000 in
theorem yw264 : yRows gAll LAll yt0 mt264 gHo 4 1 (zby cX11_octet) p264 b264 p264 = true := by decide +kernel
set_option maxRecDepth 100000 in
theorem m264 (l : Launch) : kMet gAll LAll vwCl rFo rZs rRs rNs rTs l yX11_octet cX11_octet 4 (some .int) 1 22 cq264 := kmet_y2 (rt := 1) (by decide +kernel) yr264 zw264 rfl yw264 LAll_ok LAll_la yt0_ok gHo_ok rfl (fun G n Qf => List.forall_mem_cons.mpr ⟨⟨cq254, rfl, st268 l (by decide) (by decide)⟩, yA_n⟩) rfl (fun G n Rr => yA_n) rfl
/-! 265 NW.output (I)I -/
def mt265 : yMt := ([], ([], ([], [])))
theorem rc265 : yRc cq265 0 1 = true := by decide +kernel
theorem yr265 : yRun gAll t265 b265 cq265 := yRun_z gAll_tag ruI2_RtI ruJ2_RtJ rqL_ok z265
theorem zw265 : zwid cq265.2.1.1 cq265.1 0 2 = true := by decide +kernel
set_option maxRecDepth 100000 in
theorem yw265 : yRows gAll LAll yt0 mt265 gHo 2 1 (zby cX11_output) p265 b265 p265 = true := by decide +kernel
set_option maxRecDepth 100000 in
theorem m265 (l : Launch) : kMet gAll LAll vwCl rFo rZs rRs rNs rTs l yX11_output cX11_output 2 (some .int) 0 0 cq265 := kmet_y2 (rt := 1) (by decide +kernel) yr265 zw265 rfl yw265 LAll_ok LAll_la yt0_ok gHo_ok rfl (fun G n Qf => yA_n) rfl (fun G n Rr => yA_n) rfl
/-! 266 NW.peek (J)I -/
theorem st269 (l : Launch) {G : rGm} {cc : ByteArray} {nL n fr lo : Nat} {ret : Option FieldType} {Qf : kQf} (hf : 1 ≤ fr) (hlo : 32 ≤ lo) : ySite gAll LAll vwCl rFo rZs rRs rNs rTs G l cc nL RX11 ret fr lo n Qf 182 193 cq200 := ys_V 3 13439 8 rc200 lo_13439 kc8 (m200 l) kGood kw774 kw775 kw776 kw224 kw773 hdV_X6_may hf hlo
theorem st270 (l : Launch) {G : rGm} {cc : ByteArray} {nL n fr lo : Nat} {ret : Option FieldType} {Qf : kQf} (hf : 1 ≤ fr) (hlo : 30 ≤ lo) : ySite gAll LAll vwCl rFo rZs rRs rNs rTs G l cc nL RX11 ret fr lo n Qf 182 197 cq211 := ys_V 2 13439 8 rc211 lo_13439 kc8 (m211 l) kGood kw2882 kw1885 kw1886 kw224 kw2006 hdV_X6_number hf hlo
def mt266 : yMt := ([(182, (193, 0)), (182, (197, 1))], ([], ([], [])))
theorem rc266 : yRc cq266 0 1 = true := by decide +kernel
theorem yr266 : yRun gAll t266 b266 cq266 := yRun_z gAll_tag ruI2_RtI ruJ2_RtJ rqL_ok z266
theorem zw266 : zwid cq266.2.1.1 cq266.1 0 3 = true := by decide +kernel
set_option maxRecDepth 100000 in
theorem yw266 : yRows gAll LAll yt0 mt266 gHo 3 1 (zby cX11_peek) p266 b266 p266 = true := by decide +kernel
set_option maxRecDepth 100000 in
theorem m266 (l : Launch) : kMet gAll LAll vwCl rFo rZs rRs rNs rTs l yX11_peek cX11_peek 3 (some .int) 1 32 cq266 := kmet_y2 (rt := 1) (by decide +kernel) yr266 zw266 rfl yw266 LAll_ok LAll_la yt0_ok gHo_ok rfl (fun G n Qf => List.forall_mem_cons.mpr ⟨⟨cq200, rfl, st269 l (by decide) (by decide)⟩, List.forall_mem_cons.mpr ⟨⟨cq211, rfl, st270 l (by decide) (by decide)⟩, yA_n⟩⟩) rfl (fun G n Rr => yA_n) rfl
/-! 267 NW.poke (JI)Z -/
theorem st271 (l : Launch) {G : rGm} {cc : ByteArray} {nL n fr lo : Nat} {ret : Option FieldType} {Qf : kQf} (hf : 1 ≤ fr) (hlo : 30 ≤ lo) : ySite gAll LAll vwCl rFo rZs rRs rNs rTs G l cc nL RX11 ret fr lo n Qf 182 201 cq199 := ys_V 3 13439 8 rc199 lo_13439 kc8 (m199 l) kGood kw2883 kw1928 kw1929 kw224 kw1977 hdV_X6_change hf hlo
def mt267 : yMt := ([(182, (193, 0)), (182, (201, 1))], ([], ([], [])))
theorem rc267 : yRc cq267 0 2 = true := by decide +kernel
theorem yr267 : yRun gAll t267 b267 cq267 := yRun_z gAll_tag ruI2_RtI ruJ2_RtJ rqL_ok z267
theorem zw267 : zwid cq267.2.1.1 cq267.1 0 4 = true := by decide +kernel
set_option maxRecDepth 100000 in
theorem yw267 : yRows gAll LAll yt0 mt267 gHo 4 3 (zby cX11_poke) p267 b267 p267 = true := by decide +kernel
set_option maxRecDepth 100000 in
theorem m267 (l : Launch) : kMet gAll LAll vwCl rFo rZs rRs rNs rTs l yX11_poke cX11_poke 4 (some .boolean) 1 32 cq267 := kmet_y2 (rt := 3) (by decide +kernel) yr267 zw267 rfl yw267 LAll_ok LAll_la yt0_ok gHo_ok rfl (fun G n Qf => List.forall_mem_cons.mpr ⟨⟨cq200, rfl, st269 l (by decide) (by decide)⟩, List.forall_mem_cons.mpr ⟨⟨cq199, rfl, st271 l (by decide) (by decide)⟩, yA_n⟩⟩) rfl (fun G n Rr => yA_n) rfl
/-! 268 NW.register (I)J -/
theorem st272 (l : Launch) {G : rGm} {cc : ByteArray} {nL n fr lo : Nat} {ret : Option FieldType} {Qf : kQf} (hf : 1 ≤ fr) (hlo : 20 ≤ lo) : ySite gAll LAll vwCl rFo rZs rRs rNs rTs G l cc nL RX11 ret fr lo n Qf 182 183 cq236 := ys_V 0 13438 7 rc236 lo_13438 kc7 (m236 l) kGood kw768 kw769 kw770 kw263 kw767 hdV_X5_told hf hlo
def mt268 : yMt := ([(182, (183, 0))], ([], ([], [])))
theorem rc268 : yRc cq268 0 1 = true := by decide +kernel
theorem yr268 : yRun gAll t268 b268 cq268 := yRun_z gAll_tag ruI2_RtI ruJ2_RtJ rqL_ok z268
theorem zw268 : zwid cq268.2.1.1 cq268.1 0 2 = true := by decide +kernel
set_option maxRecDepth 100000 in
theorem yw268 : yRows gAll LAll yt0 mt268 gHo 2 2 (zby cX11_register) p268 b268 p268 = true := by decide +kernel
set_option maxRecDepth 100000 in
theorem m268 (l : Launch) : kMet gAll LAll vwCl rFo rZs rRs rNs rTs l yX11_register cX11_register 2 (some .long) 1 20 cq268 := kmet_y2 (rt := 2) (by decide +kernel) yr268 zw268 rfl yw268 LAll_ok LAll_la yt0_ok gHo_ok rfl (fun G n Qf => List.forall_mem_cons.mpr ⟨⟨cq236, rfl, st272 l (by decide) (by decide)⟩, yA_n⟩) rfl (fun G n Rr => yA_n) rfl
