/-! METHODS, CALLEES FIRST (written by wip/p2/genmeth.py) -/
/-! 199 Memory.change (JIJ)V -/
def mt199 : yMt := ([], ([], ([], [])))
theorem rc199 : yRc cq199 13439 3 = true := by decide +kernel
theorem yr199 : yRun gAll t199 b199 cq199 := yRun_p (cuts := u199) (fuel := 300) gAll_tag ruI2_RtI ruJ2_RtJ rqL_ok ⟨zsm_e _ z199_s, List.forall_mem_cons.mpr ⟨zsm_e _ z199_0, yA_n⟩⟩
theorem zw199 : zwid cq199.2.1.1 cq199.1 0 11 = true := by decide +kernel
set_option maxRecDepth 100000 in
theorem yw199 : yRows gAll LAll yt7 mt199 gHo 11 0 (zby cX6_change) p199 b199 p199 = true := by decide +kernel
set_option maxRecDepth 100000 in
theorem m199 (l : Launch) : kMet gAll LAll vwCl rFo rZs rRs rNs rTs l yX6_change cX6_change 11 none 0 0 cq199 := kmet_y2 (rt := 0) (by decide +kernel) yr199 zw199 rfl yw199 LAll_ok LAll_la yt7_ok gHo_ok rfl (fun G n Qf => yA_n) rfl (fun G n Rr => yA_n) rfl
/-! 200 Memory.may (JJZ)Z -/
def mt200 : yMt := ([], ([], ([], [])))
theorem rc200 : yRc cq200 13439 3 = true := by decide +kernel
theorem yr200 : yRun gAll t200 b200 cq200 := yRun_p (cuts := u200) (fuel := 300) gAll_tag ruI2_RtI ruJ2_RtJ rqL_ok ⟨zsm_e _ z200_s, List.forall_mem_cons.mpr ⟨zsm_e _ z200_0, List.forall_mem_cons.mpr ⟨zsm_e _ z200_1, List.forall_mem_cons.mpr ⟨zsm_e _ z200_2, yA_n⟩⟩⟩⟩
theorem zw200 : zwid cq200.2.1.1 cq200.1 0 13 = true := by decide +kernel
set_option maxRecDepth 100000 in
theorem yw200 : yRows gAll LAll yt7 mt200 gHo 13 3 (zby cX6_may) p200 b200 p200 = true := by decide +kernel
set_option maxRecDepth 100000 in
theorem m200 (l : Launch) : kMet gAll LAll vwCl rFo rZs rRs rNs rTs l yX6_may cX6_may 13 (some .boolean) 0 0 cq200 := kmet_y2 (rt := 3) (by decide +kernel) yr200 zw200 rfl yw200 LAll_ok LAll_la yt7_ok gHo_ok rfl (fun G n Qf => yA_n) rfl (fun G n Rr => yA_n) rfl
/-! 201 Machine.store (JIJ)Z -/
theorem hdV_X6_may : yX6_may.cls = RX6 ∧ yX6_may.cls ≠ "java/lang/invoke/MethodHandle" ∧ yX6_may.cls ≠ "java/lang/invoke/VarHandle" ∧ (parseMethodDescriptor yX6_may.desc).map (fun d => d.parameters.length) = some 3 := by decide +kernel
theorem st201 (l : Launch) {G : rGm} {cc : ByteArray} {nL n fr lo : Nat} {ret : Option FieldType} {Qf : kQf} (hf : 1 ≤ fr) (hlo : 32 ≤ lo) : ySite gAll LAll vwCl rFo rZs rRs rNs rTs G l cc nL RX5 ret fr lo n Qf 182 198 cq200 := ys_V 3 13439 8 rc200 lo_13439 kc8 (m200 l) kGood kw1883 kw775 kw776 kw224 kw773 hdV_X6_may hf hlo
theorem hdV_X5_halt : yX5_halt.cls = RX5 ∧ yX5_halt.cls ≠ "java/lang/invoke/MethodHandle" ∧ yX5_halt.cls ≠ "java/lang/invoke/VarHandle" ∧ (parseMethodDescriptor yX5_halt.desc).map (fun d => d.parameters.length) = some 2 := by decide +kernel
theorem st202 (l : Launch) {G : rGm} {cc : ByteArray} {nL n fr lo : Nat} {ret : Option FieldType} {Qf : kQf} (hf : 1 ≤ fr) (hlo : 23 ≤ lo) : ySite gAll LAll vwCl rFo rZs rRs rNs rTs G l cc nL RX5 ret fr lo n Qf 182 98 cq198 := ys_V 2 13438 7 rc198 lo_13438 kc7 (m198 l) kGood kw1839 kw1840 kw1841 kw263 kw1901 hdV_X5_halt hf hlo
theorem hdV_X6_change : yX6_change.cls = RX6 ∧ yX6_change.cls ≠ "java/lang/invoke/MethodHandle" ∧ yX6_change.cls ≠ "java/lang/invoke/VarHandle" ∧ (parseMethodDescriptor yX6_change.desc).map (fun d => d.parameters.length) = some 3 := by decide +kernel
theorem st203 (l : Launch) {G : rGm} {cc : ByteArray} {nL n fr lo : Nat} {ret : Option FieldType} {Qf : kQf} (hf : 1 ≤ fr) (hlo : 30 ≤ lo) : ySite gAll LAll vwCl rFo rZs rRs rNs rTs G l cc nL RX5 ret fr lo n Qf 182 212 cq199 := ys_V 3 13439 8 rc199 lo_13439 kc8 (m199 l) kGood kw1927 kw1928 kw1929 kw224 kw1977 hdV_X6_change hf hlo
def mt201 : yMt := ([(182, (198, 0)), (182, (98, 1)), (182, (212, 2))], ([], ([], [])))
theorem rc201 : yRc cq201 13438 3 = true := by decide +kernel
theorem yr201 : yRun gAll t201 b201 cq201 := yRun_z gAll_tag ruI2_RtI ruJ2_RtJ rqL_ok z201
theorem zw201 : zwid cq201.2.1.1 cq201.1 0 6 = true := by decide +kernel
set_option maxRecDepth 100000 in
theorem yw201 : yRows gAll LAll yt6 mt201 gHo 6 3 (zby cX5_store) p201 b201 p201 = true := by decide +kernel
set_option maxRecDepth 100000 in
theorem m201 (l : Launch) : kMet gAll LAll vwCl rFo rZs rRs rNs rTs l yX5_store cX5_store 6 (some .boolean) 1 32 cq201 := kmet_y2 (rt := 3) (by decide +kernel) yr201 zw201 rfl yw201 LAll_ok LAll_la yt6_ok gHo_ok rfl (fun G n Qf => List.forall_mem_cons.mpr ⟨⟨cq200, rfl, st201 l (by decide) (by decide)⟩, List.forall_mem_cons.mpr ⟨⟨cq198, rfl, st202 l (by decide) (by decide)⟩, List.forall_mem_cons.mpr ⟨⟨cq199, rfl, st203 l (by decide) (by decide)⟩, yA_n⟩⟩⟩) rfl (fun G n Rr => yA_n) rfl
/-! 202 Machine.put (IIJ)Z -/
theorem hdV_X5_change : yX5_change.cls = RX5 ∧ yX5_change.cls ≠ "java/lang/invoke/MethodHandle" ∧ yX5_change.cls ≠ "java/lang/invoke/VarHandle" ∧ (parseMethodDescriptor yX5_change.desc).map (fun d => d.parameters.length) = some 3 := by decide +kernel
theorem st204 (l : Launch) {G : rGm} {cc : ByteArray} {nL n fr lo : Nat} {ret : Option FieldType} {Qf : kQf} (hf : 1 ≤ fr) (hlo : 24 ≤ lo) : ySite gAll LAll vwCl rFo rZs rRs rNs rTs G l cc nL RX5 ret fr lo n Qf 182 204 cq197 := ys_V 3 13438 7 rc197 lo_13438 kc7 (m197 l) kGood kw1804 kw1805 kw1806 kw263 kw1820 hdV_X5_change hf hlo
theorem hdV_X5_store : yX5_store.cls = RX5 ∧ yX5_store.cls ≠ "java/lang/invoke/MethodHandle" ∧ yX5_store.cls ≠ "java/lang/invoke/VarHandle" ∧ (parseMethodDescriptor yX5_store.desc).map (fun d => d.parameters.length) = some 3 := by decide +kernel
theorem st205 (l : Launch) {G : rGm} {cc : ByteArray} {nL n fr lo : Nat} {ret : Option FieldType} {Qf : kQf} (hf : 2 ≤ fr) (hlo : 57 ≤ lo) : ySite gAll LAll vwCl rFo rZs rRs rNs rTs G l cc nL RX5 ret fr lo n Qf 182 208 cq201 := ys_V 3 13438 7 rc201 lo_13438 kc7 (m201 l) kGood kw1828 kw1829 kw1830 kw263 kw1973 hdV_X5_store hf hlo
def mt202 : yMt := ([(182, (204, 0)), (182, (208, 1))], ([], ([], [])))
theorem rc202 : yRc cq202 13438 3 = true := by decide +kernel
theorem yr202 : yRun gAll t202 b202 cq202 := yRun_z gAll_tag ruI2_RtI ruJ2_RtJ rqL_ok z202
theorem zw202 : zwid cq202.2.1.1 cq202.1 0 5 = true := by decide +kernel
set_option maxRecDepth 100000 in
theorem yw202 : yRows gAll LAll yt6 mt202 gHo 5 3 (zby cX5_put) p202 b202 p202 = true := by decide +kernel
set_option maxRecDepth 100000 in
theorem m202 (l : Launch) : kMet gAll LAll vwCl rFo rZs rRs rNs rTs l yX5_put cX5_put 5 (some .boolean) 2 57 cq202 := kmet_y2 (rt := 3) (by decide +kernel) yr202 zw202 rfl yw202 LAll_ok LAll_la yt6_ok gHo_ok rfl (fun G n Qf => List.forall_mem_cons.mpr ⟨⟨cq197, rfl, st204 l (by decide) (by decide)⟩, List.forall_mem_cons.mpr ⟨⟨cq201, rfl, st205 l (by decide) (by decide)⟩, yA_n⟩⟩) rfl (fun G n Rr => yA_n) rfl
/-! 203 Machine.flag (IZ)V -/
def mt203 : yMt := ([], ([], ([], [])))
theorem rc203 : yRc cq203 13438 2 = true := by decide +kernel
theorem yr203 : yRun gAll t203 b203 cq203 := yRun_z gAll_tag ruI2_RtI ruJ2_RtJ rqL_ok z203
theorem zw203 : zwid cq203.2.1.1 cq203.1 0 3 = true := by decide +kernel
set_option maxRecDepth 100000 in
theorem yw203 : yRows gAll LAll yt6 mt203 gHo 3 0 (zby cX5_flag) p203 b203 p203 = true := by decide +kernel
set_option maxRecDepth 100000 in
theorem m203 (l : Launch) : kMet gAll LAll vwCl rFo rZs rRs rNs rTs l yX5_flag cX5_flag 3 none 0 0 cq203 := kmet_y2 (rt := 0) (by decide +kernel) yr203 zw203 rfl yw203 LAll_ok LAll_la yt6_ok gHo_ok rfl (fun G n Qf => yA_n) rfl (fun G n Rr => yA_n) rfl
/-! 204 Machine.mask (I)J -/
def mt204 : yMt := ([], ([], ([], [])))
theorem yr204 : yRun gAll t204 b204 cq204 := yRun_z gAll_tag ruI2_RtI ruJ2_RtJ rqL_ok z204
theorem zw204 : zwid cq204.2.1.1 cq204.1 0 1 = true := by decide +kernel
set_option maxRecDepth 100000 in
theorem yw204 : yRows gAll LAll yt6 mt204 gHo 1 2 (zby cX5_mask) p204 b204 p204 = true := by decide +kernel
set_option maxRecDepth 100000 in
theorem m204 (l : Launch) : kMet gAll LAll vwCl rFo rZs rRs rNs rTs l yX5_mask cX5_mask 1 (some .long) 0 0 cq204 := kmet_y2 (rt := 2) (by decide +kernel) yr204 zw204 rfl yw204 LAll_ok LAll_la yt6_ok gHo_ok rfl (fun G n Qf => yA_n) rfl (fun G n Rr => yA_n) rfl
/-! 205 Machine.top (I)J -/
def mt205 : yMt := ([], ([], ([], [])))
theorem yr205 : yRun gAll t205 b205 cq205 := yRun_z gAll_tag ruI2_RtI ruJ2_RtJ rqL_ok z205
theorem zw205 : zwid cq205.2.1.1 cq205.1 0 1 = true := by decide +kernel
set_option maxRecDepth 100000 in
theorem yw205 : yRows gAll LAll yt6 mt205 gHo 1 2 (zby cX5_top) p205 b205 p205 = true := by decide +kernel
set_option maxRecDepth 100000 in
theorem m205 (l : Launch) : kMet gAll LAll vwCl rFo rZs rRs rNs rTs l yX5_top cX5_top 1 (some .long) 0 0 cq205 := kmet_y2 (rt := 2) (by decide +kernel) yr205 zw205 rfl yw205 LAll_ok LAll_la yt6_ok gHo_ok rfl (fun G n Qf => yA_n) rfl (fun G n Rr => yA_n) rfl
/-! 206 java/lang/Long.bitCount (J)I -/
def mt206 : yMt := ([], ([], ([], [])))
theorem yr206 : yRun gAll t206 b206 cq206 := yRun_z gAll_tag ruI2_RtI ruJ2_RtJ rqL_ok z206
theorem zw206 : zwid cq206.2.1.1 cq206.1 0 2 = true := by decide +kernel
set_option maxRecDepth 100000 in
theorem yw206 : yRows gAll LAll yt15 mt206 gHo 2 1 (zby cJ13_bitCount_95d88) p206 b206 p206 = true := by decide +kernel
set_option maxRecDepth 100000 in
theorem m206 (l : Launch) : kMet gAll LAll vwCl rFo rZs rRs rNs rTs l yJ13_bitCount_95d88 cJ13_bitCount_95d88 2 (some .int) 0 0 cq206 := kmet_y2 (rt := 1) (by decide +kernel) yr206 zw206 rfl yw206 LAll_ok LAll_la yt15_ok gHo_ok rfl (fun G n Qf => yA_n) rfl (fun G n Rr => yA_n) rfl
/-! 207 Machine.setResult (JI)V -/
theorem hdS_X5_mask : yX5_mask.cls ≠ "java/lang/invoke/MethodHandle" ∧ yX5_mask.cls ≠ "java/lang/invoke/VarHandle" ∧ (parseMethodDescriptor yX5_mask.desc).map (fun d => d.parameters.length) = some 1 := by decide +kernel
theorem st206 (l : Launch) {G : rGm} {cc : ByteArray} {nL n fr lo : Nat} {ret : Option FieldType} {Qf : kQf} (hf : 1 ≤ fr) (hlo : 20 ≤ lo) : ySite gAll LAll vwCl rFo rZs rRs rNs rTs G l cc nL RX5 ret fr lo n Qf 184 185 cq204 := ys_S 1 rfl (m204 l) kGood kw1801 kw1802 kw263 kw1803 hdS_X5_mask hf hlo
theorem hdV_X5_flag : yX5_flag.cls = RX5 ∧ yX5_flag.cls ≠ "java/lang/invoke/MethodHandle" ∧ yX5_flag.cls ≠ "java/lang/invoke/VarHandle" ∧ (parseMethodDescriptor yX5_flag.desc).map (fun d => d.parameters.length) = some 2 := by decide +kernel
theorem st207 (l : Launch) {G : rGm} {cc : ByteArray} {nL n fr lo : Nat} {ret : Option FieldType} {Qf : kQf} (hf : 1 ≤ fr) (hlo : 22 ≤ lo) : ySite gAll LAll vwCl rFo rZs rRs rNs rTs G l cc nL RX5 ret fr lo n Qf 182 219 cq203 := ys_V 2 13438 7 rc203 lo_13438 kc7 (m203 l) kGood kw1787 kw1788 kw1789 kw263 kw1887 hdV_X5_flag hf hlo
theorem hdS_X5_top : yX5_top.cls ≠ "java/lang/invoke/MethodHandle" ∧ yX5_top.cls ≠ "java/lang/invoke/VarHandle" ∧ (parseMethodDescriptor yX5_top.desc).map (fun d => d.parameters.length) = some 1 := by decide +kernel
theorem st208 (l : Launch) {G : rGm} {cc : ByteArray} {nL n fr lo : Nat} {ret : Option FieldType} {Qf : kQf} (hf : 1 ≤ fr) (hlo : 20 ≤ lo) : ySite gAll LAll vwCl rFo rZs rRs rNs rTs G l cc nL RX5 ret fr lo n Qf 184 223 cq205 := ys_S 1 rfl (m205 l) kGood kw1845 kw1846 kw263 kw1847 hdS_X5_top hf hlo
theorem hdS_J13_bitCount_95d88 : yJ13_bitCount_95d88.cls ≠ "java/lang/invoke/MethodHandle" ∧ yJ13_bitCount_95d88.cls ≠ "java/lang/invoke/VarHandle" ∧ (parseMethodDescriptor yJ13_bitCount_95d88.desc).map (fun d => d.parameters.length) = some 1 := by decide +kernel
theorem st209 (l : Launch) {G : rGm} {cc : ByteArray} {nL n fr lo : Nat} {ret : Option FieldType} {Qf : kQf} (hf : 1 ≤ fr) (hlo : 21 ≤ lo) : ySite gAll LAll vwCl rFo rZs rRs rNs rTs G l cc nL RX5 ret fr lo n Qf 184 226 cq206 := ys_S 1 rfl (m206 l) kGood kw1947 kw1948 kw1949 kw1950 hdS_J13_bitCount_95d88 hf hlo
def mt207 : yMt := ([(184, (185, 0)), (182, (219, 1)), (184, (223, 2)), (184, (226, 3))], ([], ([], [])))
theorem rc207 : yRc cq207 13438 2 = true := by decide +kernel
theorem yr207 : yRun gAll t207 b207 cq207 := yRun_z gAll_tag ruI2_RtI ruJ2_RtJ rqL_ok z207
theorem zw207 : zwid cq207.2.1.1 cq207.1 0 4 = true := by decide +kernel
set_option maxRecDepth 100000 in
theorem yw207 : yRows gAll LAll yt6 mt207 gHo 4 0 (zby cX5_setResult) p207 b207 p207 = true := by decide +kernel
set_option maxRecDepth 100000 in
theorem m207 (l : Launch) : kMet gAll LAll vwCl rFo rZs rRs rNs rTs l yX5_setResult cX5_setResult 4 none 1 22 cq207 := kmet_y2 (rt := 0) (by decide +kernel) yr207 zw207 rfl yw207 LAll_ok LAll_la yt6_ok gHo_ok rfl (fun G n Qf => List.forall_mem_cons.mpr ⟨⟨cq204, rfl, st206 l (by decide) (by decide)⟩, List.forall_mem_cons.mpr ⟨⟨cq203, rfl, st207 l (by decide) (by decide)⟩, List.forall_mem_cons.mpr ⟨⟨cq205, rfl, st208 l (by decide) (by decide)⟩, List.forall_mem_cons.mpr ⟨⟨cq206, rfl, st209 l (by decide) (by decide)⟩, yA_n⟩⟩⟩⟩) rfl (fun G n Rr => yA_n) rfl
/-! 208 Machine.setDifference (JJJI)V -/
theorem hdV_X5_setResult : yX5_setResult.cls = RX5 ∧ yX5_setResult.cls ≠ "java/lang/invoke/MethodHandle" ∧ yX5_setResult.cls ≠ "java/lang/invoke/VarHandle" ∧ (parseMethodDescriptor yX5_setResult.desc).map (fun d => d.parameters.length) = some 2 := by decide +kernel
theorem st210 (l : Launch) {G : rGm} {cc : ByteArray} {nL n fr lo : Nat} {ret : Option FieldType} {Qf : kQf} (hf : 2 ≤ fr) (hlo : 45 ≤ lo) : ySite gAll LAll vwCl rFo rZs rRs rNs rTs G l cc nL RX5 ret fr lo n Qf 182 231 cq207 := ys_V 2 13438 7 rc207 lo_13438 kc7 (m207 l) kGood kw1781 kw1782 kw1783 kw263 kw1946 hdV_X5_setResult hf hlo
def mt208 : yMt := ([(184, (223, 0)), (182, (219, 1)), (182, (231, 2))], ([], ([], [])))
theorem rc208 : yRc cq208 13438 4 = true := by decide +kernel
theorem yr208 : yRun gAll t208 b208 cq208 := yRun_z gAll_tag ruI2_RtI ruJ2_RtJ rqL_ok z208
theorem zw208 : zwid cq208.2.1.1 cq208.1 0 8 = true := by decide +kernel
set_option maxRecDepth 100000 in
theorem yw208 : yRows gAll LAll yt6 mt208 gHo 8 0 (zby cX5_setDifference) p208 b208 p208 = true := by decide +kernel
set_option maxRecDepth 100000 in
theorem m208 (l : Launch) : kMet gAll LAll vwCl rFo rZs rRs rNs rTs l yX5_setDifference cX5_setDifference 8 none 2 45 cq208 := kmet_y2 (rt := 0) (by decide +kernel) yr208 zw208 rfl yw208 LAll_ok LAll_la yt6_ok gHo_ok rfl (fun G n Qf => List.forall_mem_cons.mpr ⟨⟨cq205, rfl, st208 l (by decide) (by decide)⟩, List.forall_mem_cons.mpr ⟨⟨cq203, rfl, st207 l (by decide) (by decide)⟩, List.forall_mem_cons.mpr ⟨⟨cq207, rfl, st210 l (by decide) (by decide)⟩, yA_n⟩⟩⟩) rfl (fun G n Rr => yA_n) rfl
/-! 209 Machine.setSpill (Z)V -/
def mt209 : yMt := ([(182, (219, 0))], ([], ([], [])))
theorem rc209 : yRc cq209 13438 1 = true := by decide +kernel
theorem yr209 : yRun gAll t209 b209 cq209 := yRun_z gAll_tag ruI2_RtI ruJ2_RtJ rqL_ok z209
theorem zw209 : zwid cq209.2.1.1 cq209.1 0 2 = true := by decide +kernel
set_option maxRecDepth 100000 in
theorem yw209 : yRows gAll LAll yt6 mt209 gHo 2 0 (zby cX5_setSpill) p209 b209 p209 = true := by decide +kernel
set_option maxRecDepth 100000 in
theorem m209 (l : Launch) : kMet gAll LAll vwCl rFo rZs rRs rNs rTs l yX5_setSpill cX5_setSpill 2 none 1 22 cq209 := kmet_y2 (rt := 0) (by decide +kernel) yr209 zw209 rfl yw209 LAll_ok LAll_la yt6_ok gHo_ok rfl (fun G n Qf => List.forall_mem_cons.mpr ⟨⟨cq203, rfl, st207 l (by decide) (by decide)⟩, yA_n⟩) rfl (fun G n Rr => yA_n) rfl
/-! 210 Machine.setSum (JJJI)V -/
def mt210 : yMt := ([(184, (223, 0)), (182, (219, 1)), (182, (231, 2))], ([], ([], [])))
theorem rc210 : yRc cq210 13438 4 = true := by decide +kernel
theorem yr210 : yRun gAll t210 b210 cq210 := yRun_z gAll_tag ruI2_RtI ruJ2_RtJ rqL_ok z210
theorem zw210 : zwid cq210.2.1.1 cq210.1 0 8 = true := by decide +kernel
set_option maxRecDepth 100000 in
theorem yw210 : yRows gAll LAll yt6 mt210 gHo 8 0 (zby cX5_setSum) p210 b210 p210 = true := by decide +kernel
set_option maxRecDepth 100000 in
theorem m210 (l : Launch) : kMet gAll LAll vwCl rFo rZs rRs rNs rTs l yX5_setSum cX5_setSum 8 none 2 45 cq210 := kmet_y2 (rt := 0) (by decide +kernel) yr210 zw210 rfl yw210 LAll_ok LAll_la yt6_ok gHo_ok rfl (fun G n Qf => List.forall_mem_cons.mpr ⟨⟨cq205, rfl, st208 l (by decide) (by decide)⟩, List.forall_mem_cons.mpr ⟨⟨cq203, rfl, st207 l (by decide) (by decide)⟩, List.forall_mem_cons.mpr ⟨⟨cq207, rfl, st210 l (by decide) (by decide)⟩, yA_n⟩⟩⟩) rfl (fun G n Rr => yA_n) rfl
/-! 211 Memory.number (JI)J -/
def mt211 : yMt := ([], ([], ([], [])))
theorem rc211 : yRc cq211 13439 2 = true := by decide +kernel
theorem yr211 : yRun gAll t211 b211 cq211 := yRun_p (cuts := u211) (fuel := 300) gAll_tag ruI2_RtI ruJ2_RtJ rqL_ok ⟨zsm_e _ z211_s, List.forall_mem_cons.mpr ⟨zsm_e _ z211_0, yA_n⟩⟩
theorem zw211 : zwid cq211.2.1.1 cq211.1 0 11 = true := by decide +kernel
set_option maxRecDepth 100000 in
theorem yw211 : yRows gAll LAll yt7 mt211 gHo 11 2 (zby cX6_number) p211 b211 p211 = true := by decide +kernel
set_option maxRecDepth 100000 in
theorem m211 (l : Launch) : kMet gAll LAll vwCl rFo rZs rRs rNs rTs l yX6_number cX6_number 11 (some .long) 0 0 cq211 := kmet_y2 (rt := 2) (by decide +kernel) yr211 zw211 rfl yw211 LAll_ok LAll_la yt7_ok gHo_ok rfl (fun G n Qf => yA_n) rfl (fun G n Rr => yA_n) rfl
/-! 212 Machine.fetched (JI)J -/
theorem hdV_X6_number : yX6_number.cls = RX6 ∧ yX6_number.cls ≠ "java/lang/invoke/MethodHandle" ∧ yX6_number.cls ≠ "java/lang/invoke/VarHandle" ∧ (parseMethodDescriptor yX6_number.desc).map (fun d => d.parameters.length) = some 2 := by decide +kernel
theorem st211 (l : Launch) {G : rGm} {cc : ByteArray} {nL n fr lo : Nat} {ret : Option FieldType} {Qf : kQf} (hf : 1 ≤ fr) (hlo : 30 ≤ lo) : ySite gAll LAll vwCl rFo rZs rRs rNs rTs G l cc nL RX5 ret fr lo n Qf 182 202 cq211 := ys_V 2 13439 8 rc211 lo_13439 kc8 (m211 l) kGood kw1884 kw1885 kw1886 kw224 kw2006 hdV_X6_number hf hlo
def mt212 : yMt := ([(182, (198, 0)), (182, (98, 1)), (182, (202, 2))], ([], ([], [])))
theorem rc212 : yRc cq212 13438 2 = true := by decide +kernel
theorem yr212 : yRun gAll t212 b212 cq212 := yRun_z gAll_tag ruI2_RtI ruJ2_RtJ rqL_ok z212
theorem zw212 : zwid cq212.2.1.1 cq212.1 0 4 = true := by decide +kernel
set_option maxRecDepth 100000 in
theorem yw212 : yRows gAll LAll yt6 mt212 gHo 4 2 (zby cX5_fetched) p212 b212 p212 = true := by decide +kernel
set_option maxRecDepth 100000 in
theorem m212 (l : Launch) : kMet gAll LAll vwCl rFo rZs rRs rNs rTs l yX5_fetched cX5_fetched 4 (some .long) 1 32 cq212 := kmet_y2 (rt := 2) (by decide +kernel) yr212 zw212 rfl yw212 LAll_ok LAll_la yt6_ok gHo_ok rfl (fun G n Qf => List.forall_mem_cons.mpr ⟨⟨cq200, rfl, st201 l (by decide) (by decide)⟩, List.forall_mem_cons.mpr ⟨⟨cq198, rfl, st202 l (by decide) (by decide)⟩, List.forall_mem_cons.mpr ⟨⟨cq211, rfl, st211 l (by decide) (by decide)⟩, yA_n⟩⟩⟩) rfl (fun G n Rr => yA_n) rfl
/-! 213 Machine.value (II)J -/
theorem hdV_X5_fetched : yX5_fetched.cls = RX5 ∧ yX5_fetched.cls ≠ "java/lang/invoke/MethodHandle" ∧ yX5_fetched.cls ≠ "java/lang/invoke/VarHandle" ∧ (parseMethodDescriptor yX5_fetched.desc).map (fun d => d.parameters.length) = some 2 := by decide +kernel
theorem st212 (l : Launch) {G : rGm} {cc : ByteArray} {nL n fr lo : Nat} {ret : Option FieldType} {Qf : kQf} (hf : 2 ≤ fr) (hlo : 55 ≤ lo) : ySite gAll LAll vwCl rFo rZs rRs rNs rTs G l cc nL RX5 ret fr lo n Qf 182 189 cq212 := ys_V 2 13438 7 rc212 lo_13438 kc7 (m212 l) kGood kw1825 kw1826 kw1827 kw263 kw1882 hdV_X5_fetched hf hlo
set_option maxRecDepth 100000 in
theorem w213_0 : decode cX5_value 9 = .ok (.tableswitch 72 1 4 #[31, 51, 72, 61], 31) := by decide +kernel
def mt213 : yMt := ([(184, (185, 0)), (182, (189, 1))], ([], ([(9, (3, (0, (4, (0, [(1, 1), (2, 2), (3, 4), (4, 3)])))))], [])))
theorem rc213 : yRc cq213 13438 2 = true := by decide +kernel
theorem yr213 : yRun gAll t213 b213 cq213 := yRun_z gAll_tag ruI2_RtI ruJ2_RtJ rqL_ok z213
theorem zw213 : zwid cq213.2.1.1 cq213.1 0 3 = true := by decide +kernel
set_option maxRecDepth 100000 in
theorem yw213 : yRows gAll LAll yt6 mt213 gHo 3 2 (zby cX5_value) p213 b213 p213 = true := by decide +kernel
set_option maxRecDepth 100000 in
theorem m213 (l : Launch) : kMet gAll LAll vwCl rFo rZs rRs rNs rTs l yX5_value cX5_value 3 (some .long) 2 55 cq213 := kmet_y2 (rt := 2) (by decide +kernel) yr213 zw213 rfl yw213 LAll_ok LAll_la yt6_ok gHo_ok rfl (fun G n Qf => List.forall_mem_cons.mpr ⟨⟨cq204, rfl, st206 l (by decide) (by decide)⟩, List.forall_mem_cons.mpr ⟨⟨cq212, rfl, st212 l (by decide) (by decide)⟩, yA_n⟩⟩) rfl (fun G n Rr => List.forall_mem_cons.mpr ⟨k_table _ p213 (fun b t hb ls st s h => kV_at hb h) w213_0 (by decide +kernel) (by decide +kernel) rfl rfl, yA_n⟩) rfl
/-! 214 Machine.arithmetic (I)V -/
theorem hdV_X5_value : yX5_value.cls = RX5 ∧ yX5_value.cls ≠ "java/lang/invoke/MethodHandle" ∧ yX5_value.cls ≠ "java/lang/invoke/VarHandle" ∧ (parseMethodDescriptor yX5_value.desc).map (fun d => d.parameters.length) = some 2 := by decide +kernel
theorem st213 (l : Launch) {G : rGm} {cc : ByteArray} {nL n fr lo : Nat} {ret : Option FieldType} {Qf : kQf} (hf : 3 ≤ fr) (hlo : 77 ≤ lo) : ySite gAll LAll vwCl rFo rZs rRs rNs rTs G l cc nL RX5 ret fr lo n Qf 182 238 cq213 := ys_V 2 13438 7 rc213 lo_13438 kc7 (m213 l) kGood kw1762 kw1763 kw1764 kw263 kw1974 hdV_X5_value hf hlo
theorem hdV_X5_has : yX5_has.cls = RX5 ∧ yX5_has.cls ≠ "java/lang/invoke/MethodHandle" ∧ yX5_has.cls ≠ "java/lang/invoke/VarHandle" ∧ (parseMethodDescriptor yX5_has.desc).map (fun d => d.parameters.length) = some 1 := by decide +kernel
theorem st214 (l : Launch) {G : rGm} {cc : ByteArray} {nL n fr lo : Nat} {ret : Option FieldType} {Qf : kQf} (hf : 1 ≤ fr) (hlo : 21 ≤ lo) : ySite gAll LAll vwCl rFo rZs rRs rNs rTs G l cc nL RX5 ret fr lo n Qf 182 242 cq196 := ys_V 1 13438 7 rc196 lo_13438 kc7 (m196 l) kGood kw1766 kw1767 kw1768 kw263 kw1902 hdV_X5_has hf hlo
theorem hdV_X5_put : yX5_put.cls = RX5 ∧ yX5_put.cls ≠ "java/lang/invoke/MethodHandle" ∧ yX5_put.cls ≠ "java/lang/invoke/VarHandle" ∧ (parseMethodDescriptor yX5_put.desc).map (fun d => d.parameters.length) = some 3 := by decide +kernel
theorem st215 (l : Launch) {G : rGm} {cc : ByteArray} {nL n fr lo : Nat} {ret : Option FieldType} {Qf : kQf} (hf : 3 ≤ fr) (hlo : 81 ≤ lo) : ySite gAll LAll vwCl rFo rZs rRs rNs rTs G l cc nL RX5 ret fr lo n Qf 182 246 cq202 := ys_V 3 13438 7 rc202 lo_13438 kc7 (m202 l) kGood kw1769 kw1770 kw1771 kw263 kw1922 hdV_X5_put hf hlo
theorem hdV_X5_setSum : yX5_setSum.cls = RX5 ∧ yX5_setSum.cls ≠ "java/lang/invoke/MethodHandle" ∧ yX5_setSum.cls ≠ "java/lang/invoke/VarHandle" ∧ (parseMethodDescriptor yX5_setSum.desc).map (fun d => d.parameters.length) = some 4 := by decide +kernel
theorem st216 (l : Launch) {G : rGm} {cc : ByteArray} {nL n fr lo : Nat} {ret : Option FieldType} {Qf : kQf} (hf : 3 ≤ fr) (hlo : 72 ≤ lo) : ySite gAll LAll vwCl rFo rZs rRs rNs rTs G l cc nL RX5 ret fr lo n Qf 182 250 cq210 := ys_V 4 13438 7 rc210 lo_13438 kc7 (m210 l) kGood kw1772 kw1773 kw1774 kw263 kw1952 hdV_X5_setSum hf hlo
theorem hdV_X5_setDifference : yX5_setDifference.cls = RX5 ∧ yX5_setDifference.cls ≠ "java/lang/invoke/MethodHandle" ∧ yX5_setDifference.cls ≠ "java/lang/invoke/VarHandle" ∧ (parseMethodDescriptor yX5_setDifference.desc).map (fun d => d.parameters.length) = some 4 := by decide +kernel
theorem st217 (l : Launch) {G : rGm} {cc : ByteArray} {nL n fr lo : Nat} {ret : Option FieldType} {Qf : kQf} (hf : 3 ≤ fr) (hlo : 72 ≤ lo) : ySite gAll LAll vwCl rFo rZs rRs rNs rTs G l cc nL RX5 ret fr lo n Qf 182 254 cq208 := ys_V 4 13438 7 rc208 lo_13438 kc7 (m208 l) kGood kw1775 kw1776 kw1777 kw263 kw1945 hdV_X5_setDifference hf hlo
theorem hdV_X5_setSpill : yX5_setSpill.cls = RX5 ∧ yX5_setSpill.cls ≠ "java/lang/invoke/MethodHandle" ∧ yX5_setSpill.cls ≠ "java/lang/invoke/VarHandle" ∧ (parseMethodDescriptor yX5_setSpill.desc).map (fun d => d.parameters.length) = some 1 := by decide +kernel
theorem st218 (l : Launch) {G : rGm} {cc : ByteArray} {nL n fr lo : Nat} {ret : Option FieldType} {Qf : kQf} (hf : 2 ≤ fr) (hlo : 43 ≤ lo) : ySite gAll LAll vwCl rFo rZs rRs rNs rTs G l cc nL RX5 ret fr lo n Qf 182 257 cq209 := ys_V 1 13438 7 rc209 lo_13438 kc7 (m209 l) kGood kw1778 kw1779 kw1780 kw263 kw1951 hdV_X5_setSpill hf hlo
def mt214 : yMt := ([(182, (238, 0)), (182, (242, 1)), (182, (246, 2)), (182, (250, 3)), (182, (254, 4)), (182, (257, 5)), (182, (231, 6))], ([], ([], [])))
theorem rc214 : yRc cq214 13438 1 = true := by decide +kernel
theorem yr214 : yRun gAll t214 b214 cq214 := yRun_p (cuts := u214) (fuel := 300) gAll_tag ruI2_RtI ruJ2_RtJ rqL_ok ⟨zsm_e _ z214_s, List.forall_mem_cons.mpr ⟨zsm_e _ z214_0, List.forall_mem_cons.mpr ⟨zsm_e _ z214_1, List.forall_mem_cons.mpr ⟨zsm_e _ z214_2, yA_n⟩⟩⟩⟩
theorem zw214 : zwid cq214.2.1.1 cq214.1 0 13 = true := by decide +kernel
set_option maxRecDepth 100000 in
theorem yw214 : yRows gAll LAll yt6 mt214 gHo 13 0 (zby cX5_arithmetic) p214 b214 p214 = true := by decide +kernel
set_option maxRecDepth 100000 in
theorem m214 (l : Launch) : kMet gAll LAll vwCl rFo rZs rRs rNs rTs l yX5_arithmetic cX5_arithmetic 13 none 3 81 cq214 := kmet_y2 (rt := 0) (by decide +kernel) yr214 zw214 rfl yw214 LAll_ok LAll_la yt6_ok gHo_ok rfl (fun G n Qf => List.forall_mem_cons.mpr ⟨⟨cq213, rfl, st213 l (by decide) (by decide)⟩, List.forall_mem_cons.mpr ⟨⟨cq196, rfl, st214 l (by decide) (by decide)⟩, List.forall_mem_cons.mpr ⟨⟨cq202, rfl, st215 l (by decide) (by decide)⟩, List.forall_mem_cons.mpr ⟨⟨cq210, rfl, st216 l (by decide) (by decide)⟩, List.forall_mem_cons.mpr ⟨⟨cq208, rfl, st217 l (by decide) (by decide)⟩, List.forall_mem_cons.mpr ⟨⟨cq209, rfl, st218 l (by decide) (by decide)⟩, List.forall_mem_cons.mpr ⟨⟨cq207, rfl, st210 l (by decide) (by decide)⟩, yA_n⟩⟩⟩⟩⟩⟩⟩) rfl (fun G n Rr => yA_n) rfl
/-! 215 Machine.below (JJ)Z -/
def mt215 : yMt := ([], ([], ([], [])))
theorem yr215 : yRun gAll t215 b215 cq215 := yRun_z gAll_tag ruI2_RtI ruJ2_RtJ rqL_ok z215
theorem zw215 : zwid cq215.2.1.1 cq215.1 0 4 = true := by decide +kernel
set_option maxRecDepth 100000 in
theorem yw215 : yRows gAll LAll yt6 mt215 gHo 4 3 (zby cX5_below) p215 b215 p215 = true := by decide +kernel
set_option maxRecDepth 100000 in
theorem m215 (l : Launch) : kMet gAll LAll vwCl rFo rZs rRs rNs rTs l yX5_below cX5_below 4 (some .boolean) 0 0 cq215 := kmet_y2 (rt := 3) (by decide +kernel) yr215 zw215 rfl yw215 LAll_ok LAll_la yt6_ok gHo_ok rfl (fun G n Qf => yA_n) rfl (fun G n Rr => yA_n) rfl
/-! 216 Machine.highest (J)I -/
def mt216 : yMt := ([], ([], ([], [])))
theorem yr216 : yRun gAll t216 b216 cq216 := yRun_p (cuts := u216) (fuel := 300) gAll_tag ruI2_RtI ruJ2_RtJ rqL_ok ⟨zsm_e _ z216_s, List.forall_mem_cons.mpr ⟨zsm_e _ z216_0, yA_n⟩⟩
theorem zw216 : zwid cq216.2.1.1 cq216.1 0 3 = true := by decide +kernel
set_option maxRecDepth 100000 in
theorem yw216 : yRows gAll LAll yt6 mt216 gHo 3 1 (zby cX5_highest) p216 b216 p216 = true := by decide +kernel
set_option maxRecDepth 100000 in
theorem m216 (l : Launch) : kMet gAll LAll vwCl rFo rZs rRs rNs rTs l yX5_highest cX5_highest 3 (some .int) 0 0 cq216 := kmet_y2 (rt := 1) (by decide +kernel) yr216 zw216 rfl yw216 LAll_ok LAll_la yt6_ok gHo_ok rfl (fun G n Qf => yA_n) rfl (fun G n Rr => yA_n) rfl
/-! 217 Machine.lowest (J)I -/
def mt217 : yMt := ([], ([], ([], [])))
theorem yr217 : yRun gAll t217 b217 cq217 := yRun_p (cuts := u217) (fuel := 300) gAll_tag ruI2_RtI ruJ2_RtJ rqL_ok ⟨zsm_e _ z217_s, List.forall_mem_cons.mpr ⟨zsm_e _ z217_0, yA_n⟩⟩
theorem zw217 : zwid cq217.2.1.1 cq217.1 0 3 = true := by decide +kernel
set_option maxRecDepth 100000 in
theorem yw217 : yRows gAll LAll yt6 mt217 gHo 3 1 (zby cX5_lowest) p217 b217 p217 = true := by decide +kernel
set_option maxRecDepth 100000 in
theorem m217 (l : Launch) : kMet gAll LAll vwCl rFo rZs rRs rNs rTs l yX5_lowest cX5_lowest 3 (some .int) 0 0 cq217 := kmet_y2 (rt := 1) (by decide +kernel) yr217 zw217 rfl yw217 LAll_ok LAll_la yt6_ok gHo_ok rfl (fun G n Qf => yA_n) rfl (fun G n Rr => yA_n) rfl
/-! 218 Machine.reversed (JI)J -/
def mt218 : yMt := ([], ([], ([], [])))
theorem yr218 : yRun gAll t218 b218 cq218 := yRun_p (cuts := u218) (fuel := 300) gAll_tag ruI2_RtI ruJ2_RtJ rqL_ok ⟨zsm_e _ z218_s, List.forall_mem_cons.mpr ⟨zsm_e _ z218_0, yA_n⟩⟩
theorem zw218 : zwid cq218.2.1.1 cq218.1 0 6 = true := by decide +kernel
set_option maxRecDepth 100000 in
theorem yw218 : yRows gAll LAll yt6 mt218 gHo 6 2 (zby cX5_reversed) p218 b218 p218 = true := by decide +kernel
set_option maxRecDepth 100000 in
theorem m218 (l : Launch) : kMet gAll LAll vwCl rFo rZs rRs rNs rTs l yX5_reversed cX5_reversed 6 (some .long) 0 0 cq218 := kmet_y2 (rt := 2) (by decide +kernel) yr218 zw218 rfl yw218 LAll_ok LAll_la yt6_ok gHo_ok rfl (fun G n Qf => yA_n) rfl (fun G n Rr => yA_n) rfl
/-! 219 Machine.bits (I)V -/
theorem hdS_X5_lowest : yX5_lowest.cls ≠ "java/lang/invoke/MethodHandle" ∧ yX5_lowest.cls ≠ "java/lang/invoke/VarHandle" ∧ (parseMethodDescriptor yX5_lowest.desc).map (fun d => d.parameters.length) = some 1 := by decide +kernel
theorem st219 (l : Launch) {G : rGm} {cc : ByteArray} {nL n fr lo : Nat} {ret : Option FieldType} {Qf : kQf} (hf : 1 ≤ fr) (hlo : 22 ≤ lo) : ySite gAll LAll vwCl rFo rZs rRs rNs rTs G l cc nL RX5 ret fr lo n Qf 184 341 cq217 := ys_S 1 rfl (m217 l) kGood kw1790 kw1791 kw263 kw1792 hdS_X5_lowest hf hlo
theorem hdS_X5_highest : yX5_highest.cls ≠ "java/lang/invoke/MethodHandle" ∧ yX5_highest.cls ≠ "java/lang/invoke/VarHandle" ∧ (parseMethodDescriptor yX5_highest.desc).map (fun d => d.parameters.length) = some 1 := by decide +kernel
theorem st220 (l : Launch) {G : rGm} {cc : ByteArray} {nL n fr lo : Nat} {ret : Option FieldType} {Qf : kQf} (hf : 1 ≤ fr) (hlo : 22 ≤ lo) : ySite gAll LAll vwCl rFo rZs rRs rNs rTs G l cc nL RX5 ret fr lo n Qf 184 344 cq216 := ys_S 1 rfl (m216 l) kGood kw1793 kw1794 kw263 kw1795 hdS_X5_highest hf hlo
theorem hdS_X5_reversed : yX5_reversed.cls ≠ "java/lang/invoke/MethodHandle" ∧ yX5_reversed.cls ≠ "java/lang/invoke/VarHandle" ∧ (parseMethodDescriptor yX5_reversed.desc).map (fun d => d.parameters.length) = some 2 := by decide +kernel
theorem st221 (l : Launch) {G : rGm} {cc : ByteArray} {nL n fr lo : Nat} {ret : Option FieldType} {Qf : kQf} (hf : 1 ≤ fr) (hlo : 25 ≤ lo) : ySite gAll LAll vwCl rFo rZs rRs rNs rTs G l cc nL RX5 ret fr lo n Qf 184 347 cq218 := ys_S 2 rfl (m218 l) kGood kw1797 kw1798 kw263 kw1799 hdS_X5_reversed hf hlo
def mt219 : yMt := ([(182, (238, 0)), (182, (219, 1)), (184, (341, 2)), (184, (344, 3)), (182, (246, 4)), (184, (347, 5)), (182, (250, 6)), (184, (185, 7)), (182, (204, 8)), (182, (254, 9))], ([], ([], [])))
theorem rc219 : yRc cq219 13438 1 = true := by decide +kernel
theorem yr219 : yRun gAll t219 b219 cq219 := yRun_p (cuts := u219) (fuel := 300) gAll_tag ruI2_RtI ruJ2_RtJ rqL_ok ⟨zsm_e _ z219_s, List.forall_mem_cons.mpr ⟨zsm_e _ z219_0, yA_n⟩⟩
theorem zw219 : zwid cq219.2.1.1 cq219.1 0 9 = true := by decide +kernel
set_option maxRecDepth 100000 in
theorem yw219 : yRows gAll LAll yt6 mt219 gHo 9 0 (zby cX5_bits) p219 b219 p219 = true := by decide +kernel
set_option maxRecDepth 100000 in
theorem m219 (l : Launch) : kMet gAll LAll vwCl rFo rZs rRs rNs rTs l yX5_bits cX5_bits 9 none 3 81 cq219 := kmet_y2 (rt := 0) (by decide +kernel) yr219 zw219 rfl yw219 LAll_ok LAll_la yt6_ok gHo_ok rfl (fun G n Qf => List.forall_mem_cons.mpr ⟨⟨cq213, rfl, st213 l (by decide) (by decide)⟩, List.forall_mem_cons.mpr ⟨⟨cq203, rfl, st207 l (by decide) (by decide)⟩, List.forall_mem_cons.mpr ⟨⟨cq217, rfl, st219 l (by decide) (by decide)⟩, List.forall_mem_cons.mpr ⟨⟨cq216, rfl, st220 l (by decide) (by decide)⟩, List.forall_mem_cons.mpr ⟨⟨cq202, rfl, st215 l (by decide) (by decide)⟩, List.forall_mem_cons.mpr ⟨⟨cq218, rfl, st221 l (by decide) (by decide)⟩, List.forall_mem_cons.mpr ⟨⟨cq210, rfl, st216 l (by decide) (by decide)⟩, List.forall_mem_cons.mpr ⟨⟨cq204, rfl, st206 l (by decide) (by decide)⟩, List.forall_mem_cons.mpr ⟨⟨cq197, rfl, st204 l (by decide) (by decide)⟩, List.forall_mem_cons.mpr ⟨⟨cq208, rfl, st217 l (by decide) (by decide)⟩, yA_n⟩⟩⟩⟩⟩⟩⟩⟩⟩⟩) rfl (fun G n Rr => yA_n) rfl
/-! 220 java/lang/Math.max (JJ)J -/
def mt220 : yMt := ([], ([], ([], [])))
theorem yr220 : yRun gAll t220 b220 cq220 := yRun_z gAll_tag ruI2_RtI ruJ2_RtJ rqL_ok z220
theorem zw220 : zwid cq220.2.1.1 cq220.1 0 4 = true := by decide +kernel
set_option maxRecDepth 100000 in
theorem yw220 : yRows gAll LAll yt16 mt220 gHo 4 2 (zby cJ9_max_f86c9) p220 b220 p220 = true := by decide +kernel
set_option maxRecDepth 100000 in
theorem m220 (l : Launch) : kMet gAll LAll vwCl rFo rZs rRs rNs rTs l yJ9_max_f86c9 cJ9_max_f86c9 4 (some .long) 0 0 cq220 := kmet_y2 (rt := 2) (by decide +kernel) yr220 zw220 rfl yw220 LAll_ok LAll_la yt16_ok gHo_ok rfl (fun G n Qf => yA_n) rfl (fun G n Rr => yA_n) rfl
/-! 221 java/util/Arrays.fill/stack ([BB)V -/
def mt221 : yMt := ([], ([], ([], [])))
theorem yr221 : yRun gAll t221 b221 cq221 := yRun_p (cuts := u221) (fuel := 300) gAll_tag ruI2_RtI ruJ2_RtJ rqL_ok ⟨zsm_e _ z221_s, List.forall_mem_cons.mpr ⟨zsm_e _ z221_0, yA_n⟩⟩
theorem zw221 : zwid cq221.2.1.1 cq221.1 0 4 = true := by decide +kernel
set_option maxRecDepth 100000 in
theorem yw221 : yRows gAll LAll yt17 mt221 gHo 4 0 (zby cJ7_fill_031fb) p221 b221 p221 = true := by decide +kernel
set_option maxRecDepth 100000 in
theorem m221 (l : Launch) : kMet gAll LAll vwCl rFo rZs rRs rNs rTs l yJ7_fill_031fb cJ7_fill_031fb 4 none 0 0 cq221 := kmet_y2 (rt := 0) (by decide +kernel) yr221 zw221 rfl yw221 LAll_ok LAll_la yt17_ok gHo_ok rfl (fun G n Qf => yA_n) rfl (fun G n Rr => yA_n) rfl
/-! 222 java/util/Arrays.fill/low ([BIIB)V -/
def mt222 : yMt := ([(184, (13, 0))], ([], ([], [])))
theorem yr222 : yRun gAll t222 b222 cq222 := yRun_p (cuts := u222) (fuel := 300) gAll_tag ruI2_RtI ruJ2_RtJ rqL_ok ⟨zsm_e _ z222_s, List.forall_mem_cons.mpr ⟨zsm_e _ z222_0, yA_n⟩⟩
theorem zw222 : zwid cq222.2.1.1 cq222.1 0 5 = true := by decide +kernel
set_option maxRecDepth 100000 in
theorem yw222 : yRows gAll LAll yt17 mt222 gHo 5 0 (zby cJ7_fill_eb02e) p222 b222 p222 = true := by decide +kernel
set_option maxRecDepth 100000 in
theorem m222 (l : Launch) : kMet gAll LAll vwCl rFo rZs rRs rNs rTs l yJ7_fill_eb02e cJ7_fill_eb02e 5 none 1 22 cq222 := kmet_y2 (rt := 0) (by decide +kernel) yr222 zw222 rfl yw222 LAll_ok LAll_la yt17_ok gHo_ok rfl (fun G n Qf => List.forall_mem_cons.mpr ⟨⟨cq40, rfl, st41 l (by decide) (by decide)⟩, yA_n⟩) rfl (fun G n Rr => yA_n) rfl
/-! 223 Memory.fill/linker (LNativeWorks$Linker;)V -/
theorem cA10_e : cA10 = cpC 26859 1 131072 (2 * ((13440 : Nat) : Int) + 1) 1 196608 161 := by rfl
theorem sA10 {own : String} {ix : Nat} (l : Launch) {G : rGm} {cc : ByteArray} {nL n fr lo : Nat} {ret : Option FieldType} {Qf : kQf} (w1 : Cond.methodLink own ix arraycopyName ∈ rTs) (hf : 1 ≤ fr) (hlo : 26 ≤ lo) : ySite gAll LAll vwCl rFo rZs rRs rNs rTs G l cc nL own ret fr lo n Qf 184 ix cA10 := by
  rw [cA10_e]
  exact ys_A (t := 2) (c1 := ((-128), 127)) (c2 := ((-128), 127)) LAll_ok (Or.inl ⟨13429, _, List.mem_of_getElem? (i := 72) rfl, rfl⟩) rfl (List.mem_of_getElem? (i := 80) rfl) rfl (by decide) (fun z h1 h2 => y_fb ⟨Int.le_trans (by decide) h1, Int.le_trans h2 (by decide)⟩) w1 kw62 kw63 kw64 hf (Nat.le_trans (by decide +kernel) hlo)
theorem st222 (l : Launch) {G : rGm} {cc : ByteArray} {nL n fr lo : Nat} {ret : Option FieldType} {Qf : kQf} (hf : 2 ≤ fr) (hlo : 46 ≤ lo) : ySite gAll LAll vwCl rFo rZs rRs rNs rTs G l cc nL RX6 ret fr lo n Qf 184 40 cq222 := ys_S 4 rfl (m222 l) kGood kw1982 kw650 kw13 kw648 hdS_J7_fill_eb02e hf hlo
theorem hdS_J7_fill_031fb : yJ7_fill_031fb.cls ≠ "java/lang/invoke/MethodHandle" ∧ yJ7_fill_031fb.cls ≠ "java/lang/invoke/VarHandle" ∧ (parseMethodDescriptor yJ7_fill_031fb.desc).map (fun d => d.parameters.length) = some 2 := by decide +kernel
theorem st223 (l : Launch) {G : rGm} {cc : ByteArray} {nL n fr lo : Nat} {ret : Option FieldType} {Qf : kQf} (hf : 1 ≤ fr) (hlo : 23 ≤ lo) : ySite gAll LAll vwCl rFo rZs rRs rNs rTs G l cc nL RX6 ret fr lo n Qf 184 46 cq221 := ys_S 2 rfl (m221 l) kGood kw1983 kw1984 kw13 kw1985 hdS_J7_fill_031fb hf hlo
theorem hdS_J9_max_f86c9 : yJ9_max_f86c9.cls ≠ "java/lang/invoke/MethodHandle" ∧ yJ9_max_f86c9.cls ≠ "java/lang/invoke/VarHandle" ∧ (parseMethodDescriptor yJ9_max_f86c9.desc).map (fun d => d.parameters.length) = some 2 := by decide +kernel
theorem st224 (l : Launch) {G : rGm} {cc : ByteArray} {nL n fr lo : Nat} {ret : Option FieldType} {Qf : kQf} (hf : 1 ≤ fr) (hlo : 23 ≤ lo) : ySite gAll LAll vwCl rFo rZs rRs rNs rTs G l cc nL RX6 ret fr lo n Qf 184 62 cq220 := ys_S 2 rfl (m220 l) kGood kw1989 kw1990 kw286 kw1991 hdS_J9_max_f86c9 hf hlo
theorem st225 (l : Launch) {G : rGm} {cc : ByteArray} {nL n fr lo : Nat} {ret : Option FieldType} {Qf : kQf} (hf : 1 ≤ fr) (hlo : 21 ≤ lo) : ySite gAll LAll vwCl rFo rZs rRs rNs rTs G l cc nL RX6 ret fr lo n Qf 184 93 cq105 := ys_S 2 rfl (m105 l) kGood kw2000 kw602 kw286 kw603 hdS_J9_max_7cf53 hf hlo
def mt223 : yMt := ([(184, (40, 0)), (184, (46, 1)), (184, (62, 2)), (184, (93, 3)), (184, (56, 4))], ([], ([], [])))
theorem rc223 : yRc cq223 13439 1 = true := by decide +kernel
theorem yr223 : yRun gAll t223 b223 cq223 := yRun_p (cuts := u223) (fuel := 300) gAll_tag ruI2_RtI ruJ2_RtJ rqL_ok ⟨zsm_e _ z223_s, List.forall_mem_cons.mpr ⟨zsm_e _ z223_0, yA_n⟩⟩
theorem zw223 : zwid cq223.2.1.1 cq223.1 0 5 = true := by decide +kernel
set_option maxRecDepth 100000 in
theorem yw223 : yRows gAll LAll yt7 mt223 gHo 5 0 (zby cX6_fill) p223 b223 p223 = true := by decide +kernel
set_option maxRecDepth 100000 in
theorem m223 (l : Launch) : kMet gAll LAll vwCl rFo rZs rRs rNs rTs l yX6_fill cX6_fill 5 none 2 46 cq223 := kmet_y2 (rt := 0) (by decide +kernel) yr223 zw223 rfl yw223 LAll_ok LAll_la yt7_ok gHo_ok rfl (fun G n Qf => List.forall_mem_cons.mpr ⟨⟨cq222, rfl, st222 l (by decide) (by decide)⟩, List.forall_mem_cons.mpr ⟨⟨cq221, rfl, st223 l (by decide) (by decide)⟩, List.forall_mem_cons.mpr ⟨⟨cq220, rfl, st224 l (by decide) (by decide)⟩, List.forall_mem_cons.mpr ⟨⟨cq105, rfl, st225 l (by decide) (by decide)⟩, List.forall_mem_cons.mpr ⟨⟨cA10, rfl, sA10 l kw1988 (by decide) (by decide)⟩, yA_n⟩⟩⟩⟩⟩) rfl (fun G n Rr => yA_n) rfl
/-! 224 java/util/Arrays.fill/r ([JJ)V -/
def mt224 : yMt := ([], ([], ([], [])))
theorem yr224 : yRun gAll t224 b224 cq224 := yRun_p (cuts := u224) (fuel := 300) gAll_tag ruI2_RtI ruJ2_RtJ rqL_ok ⟨zsm_e _ z224_s, List.forall_mem_cons.mpr ⟨zsm_e _ z224_0, yA_n⟩⟩
theorem zw224 : zwid cq224.2.1.1 cq224.1 0 5 = true := by decide +kernel
set_option maxRecDepth 100000 in
theorem yw224 : yRows gAll LAll yt17 mt224 gHo 5 0 (zby cJ7_fill_d0a16) p224 b224 p224 = true := by decide +kernel
set_option maxRecDepth 100000 in
theorem m224 (l : Launch) : kMet gAll LAll vwCl rFo rZs rRs rNs rTs l yJ7_fill_d0a16 cJ7_fill_d0a16 5 none 0 0 cq224 := kmet_y2 (rt := 0) (by decide +kernel) yr224 zw224 rfl yw224 LAll_ok LAll_la yt17_ok gHo_ok rfl (fun G n Qf => yA_n) rfl (fun G n Rr => yA_n) rfl
