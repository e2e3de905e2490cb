/-! METHODS, CALLEES FIRST (written by wip/p2/genmeth.py) -/
/-! 269 NW.run (I)I -/
theorem hdV_X5_go : yX5_go.cls = RX5 ∧ yX5_go.cls ≠ "java/lang/invoke/MethodHandle" ∧ yX5_go.cls ≠ "java/lang/invoke/VarHandle" ∧ (parseMethodDescriptor yX5_go.desc).map (fun d => d.parameters.length) = some 1 := by decide +kernel
theorem st273 (l : Launch) {G : rGm} {cc : ByteArray} {nL n fr lo : Nat} {ret : Option FieldType} {Qf : kQf} (hf : 7 ≤ fr) (hlo : 181 ≤ lo) : ySite gAll LAll vwCl rFo rZs rRs rNs rTs G l cc nL RX11 ret fr lo n Qf 182 170 cq250 := ys_V 1 13438 7 rc250 lo_13438 kc7 (m250 l) kGood kw2884 kw2885 kw2886 kw263 kw1897 hdV_X5_go hf hlo
def mt269 : yMt := ([(182, (170, 0))], ([], ([], [12, 46])))
theorem rc269 : yRc cq269 0 1 = true := by decide +kernel
theorem yr269 : yRun gAll t269 b269 cq269 := yRun_z gAll_tag ruI2_RtI ruJ2_RtJ rqL_ok z269
theorem zw269 : zwid cq269.2.1.1 cq269.1 0 2 = true := by decide +kernel
set_option maxRecDepth 100000 in
theorem yw269 : yRows gAll LAll yt0 mt269 gHo 2 1 (zby cX11_run) p269 b269 p269 = true := by decide +kernel
theorem dx269_12 : decode cX11_run 12 = .ok (.new 74, 3) := by decide +kernel
theorem dx269_15 : decode cX11_run 15 = .ok (.dup, 1) := by decide +kernel
theorem dx269_16 : decode cX11_run 16 = .ok (.ldc 154, 2) := by decide +kernel
theorem dx269_18 : decode cX11_run 18 = .ok (.invokespecial 78, 3) := by decide +kernel
theorem dx269_21 : decode cX11_run 21 = .ok (.athrow, 1) := by decide +kernel
theorem dx269_46 : decode cX11_run 46 = .ok (.new 109, 3) := by decide +kernel
theorem dx269_49 : decode cX11_run 49 = .ok (.dup, 1) := by decide +kernel
theorem dx269_50 : decode cX11_run 50 = .ok (.ldc 168, 2) := by decide +kernel
theorem dx269_52 : decode cX11_run 52 = .ok (.invokespecial 113, 3) := by decide +kernel
theorem dx269_55 : decode cX11_run 55 = .ok (.athrow, 1) := by decide +kernel
theorem xt269_0 (l : Launch) (hl : l.stackTraces = false) (G : rGm) (n : Nat) (Rr : List qV → qSg → Prop) : ∀ ls st s, (st = [] ∧ Rr [] s) → kW gAll LAll vwCl rFo rZs rRs rNs rTs G l cX11_run 2 "NativeWorks" (some .int) 14 381 n (kXQ gAll LAll vwCl rFo rZs rRs rNs G n (fun res s2 => (∃ v, res = [v]) ∧ Rr res s2) (fun E s2 => (fun E => E = "java/lang/IllegalArgumentException" ∨ E = "java/lang/IllegalStateException") E ∧ Rr [] s2)) 12 ls st s := kx_thr (i := 10004) ["java/lang/RuntimeException", "java/lang/Exception"] hl (by decide) (by decide +kernel) (List.all_eq_true.mp (by decide +kernel)) kw758 kw759 kr95 hat2 (xgood2 74) dx269_12 dx269_15 dx269_16 dx269_18 dx269_21 (by decide) (by decide) (fun s h => ⟨Or.inl rfl, h⟩)
theorem xt269_1 (l : Launch) (hl : l.stackTraces = false) (G : rGm) (n : Nat) (Rr : List qV → qSg → Prop) : ∀ ls st s, (st = [] ∧ Rr [] s) → kW gAll LAll vwCl rFo rZs rRs rNs rTs G l cX11_run 2 "NativeWorks" (some .int) 14 381 n (kXQ gAll LAll vwCl rFo rZs rRs rNs G n (fun res s2 => (∃ v, res = [v]) ∧ Rr res s2) (fun E s2 => (fun E => E = "java/lang/IllegalArgumentException" ∨ E = "java/lang/IllegalStateException") E ∧ Rr [] s2)) 46 ls st s := kx_thr (i := 10005) ["java/lang/RuntimeException", "java/lang/Exception"] hl (by decide) (by decide +kernel) (List.all_eq_true.mp (by decide +kernel)) kw743 kw744 kr96 hat0 (xgood0 109) dx269_46 dx269_49 dx269_50 dx269_52 dx269_55 (by decide) (by decide) (fun s h => ⟨Or.inr rfl, h⟩)
set_option maxRecDepth 100000 in
theorem m269 (l : Launch) (hl : l.stackTraces = false) : kMetX gAll LAll vwCl rFo rZs rRs rNs rTs l yX11_run cX11_run 2 (some .int) 14 381 cq269 (fun E => E = "java/lang/IllegalArgumentException" ∨ E = "java/lang/IllegalStateException") := kmetx_y (rt := 1) (by decide +kernel) yr269 zw269 rfl yw269 LAll_ok LAll_la yt0_ok gHo_ok rfl (by decide) (fun G n Qf => List.forall_mem_cons.mpr ⟨⟨cq250, rfl, st273 l (by decide) (by decide)⟩, yA_n⟩) rfl rfl (fun G n Rr => List.forall_mem_cons.mpr ⟨xt269_0 l hl G n Rr, List.forall_mem_cons.mpr ⟨xt269_1 l hl G n Rr, yA_n⟩⟩)
/-! 270 NW.set (IJ)Z -/
def mt270 : yMt := ([], ([], ([], [])))
theorem rc270 : yRc cq270 0 2 = true := by decide +kernel
theorem yr270 : yRun gAll t270 b270 cq270 := yRun_z gAll_tag ruI2_RtI ruJ2_RtJ rqL_ok z270
theorem zw270 : zwid cq270.2.1.1 cq270.1 0 4 = true := by decide +kernel
set_option maxRecDepth 100000 in
theorem yw270 : yRows gAll LAll yt0 mt270 gHo 4 3 (zby cX11_set) p270 b270 p270 = true := by decide +kernel
set_option maxRecDepth 100000 in
theorem m270 (l : Launch) : kMet gAll LAll vwCl rFo rZs rRs rNs rTs l yX11_set cX11_set 4 (some .boolean) 0 0 cq270 := kmet_y2 (rt := 3) (by decide +kernel) yr270 zw270 rfl yw270 LAll_ok LAll_la yt0_ok gHo_ok rfl (fun G n Qf => yA_n) rfl (fun G n Rr => yA_n) rfl
/-! 271 NW.size (II)I -/
def mt271 : yMt := ([(182, (91, 0))], ([], ([], [])))
theorem rc271 : yRc cq271 0 2 = true := by decide +kernel
theorem yr271 : yRun gAll t271 b271 cq271 := yRun_z gAll_tag ruI2_RtI ruJ2_RtJ rqL_ok z271
theorem zw271 : zwid cq271.2.1.1 cq271.1 0 3 = true := by decide +kernel
set_option maxRecDepth 100000 in
theorem yw271 : yRows gAll LAll yt0 mt271 gHo 3 1 (zby cX11_size) p271 b271 p271 = true := by decide +kernel
set_option maxRecDepth 100000 in
theorem m271 (l : Launch) : kMet gAll LAll vwCl rFo rZs rRs rNs rTs l yX11_size cX11_size 3 (some .int) 1 22 cq271 := kmet_y2 (rt := 1) (by decide +kernel) yr271 zw271 rfl yw271 LAll_ok LAll_la yt0_ok gHo_ok rfl (fun G n Qf => List.forall_mem_cons.mpr ⟨⟨cq254, rfl, st268 l (by decide) (by decide)⟩, yA_n⟩) rfl (fun G n Rr => yA_n) rfl
/-! 272 NW.stop (I)J -/
def mt272 : yMt := ([], ([], ([], [])))
theorem rc272 : yRc cq272 0 1 = true := by decide +kernel
theorem yr272 : yRun gAll t272 b272 cq272 := yRun_z gAll_tag ruI2_RtI ruJ2_RtJ rqL_ok z272
theorem zw272 : zwid cq272.2.1.1 cq272.1 0 2 = true := by decide +kernel
set_option maxRecDepth 100000 in
theorem yw272 : yRows gAll LAll yt0 mt272 gHo 2 2 (zby cX11_stop) p272 b272 p272 = true := by decide +kernel
set_option maxRecDepth 100000 in
theorem m272 (l : Launch) : kMet gAll LAll vwCl rFo rZs rRs rNs rTs l yX11_stop cX11_stop 2 (some .long) 0 0 cq272 := kmet_y2 (rt := 2) (by decide +kernel) yr272 zw272 rfl yw272 LAll_ok LAll_la yt0_ok gHo_ok rfl (fun G n Qf => yA_n) rfl (fun G n Rr => yA_n) rfl
/-! 273 NW.stopAt (JZ)Z -/
theorem hdV_X5_addPlace : yX5_addPlace.cls = RX5 ∧ yX5_addPlace.cls ≠ "java/lang/invoke/MethodHandle" ∧ yX5_addPlace.cls ≠ "java/lang/invoke/VarHandle" ∧ (parseMethodDescriptor yX5_addPlace.desc).map (fun d => d.parameters.length) = some 1 := by decide +kernel
theorem st274 (l : Launch) {G : rGm} {cc : ByteArray} {nL n fr lo : Nat} {ret : Option FieldType} {Qf : kQf} (hf : 2 ≤ fr) (hlo : 45 ≤ lo) : ySite gAll LAll vwCl rFo rZs rRs rNs rTs G l cc nL RX11 ret fr lo n Qf 182 205 cq194 := ys_V 1 13438 7 rc194 lo_13438 kc7 (m194 l) kGood kw783 kw784 kw785 kw263 kw782 hdV_X5_addPlace hf hlo
theorem hdV_X5_dropPlace : yX5_dropPlace.cls = RX5 ∧ yX5_dropPlace.cls ≠ "java/lang/invoke/MethodHandle" ∧ yX5_dropPlace.cls ≠ "java/lang/invoke/VarHandle" ∧ (parseMethodDescriptor yX5_dropPlace.desc).map (fun d => d.parameters.length) = some 1 := by decide +kernel
theorem st275 (l : Launch) {G : rGm} {cc : ByteArray} {nL n fr lo : Nat} {ret : Option FieldType} {Qf : kQf} (hf : 2 ≤ fr) (hlo : 46 ≤ lo) : ySite gAll LAll vwCl rFo rZs rRs rNs rTs G l cc nL RX11 ret fr lo n Qf 182 209 cq230 := ys_V 1 13438 7 rc230 lo_13438 kc7 (m230 l) kGood kw787 kw788 kw789 kw263 kw786 hdV_X5_dropPlace hf hlo
def mt273 : yMt := ([(182, (205, 0)), (182, (209, 1))], ([], ([], [])))
theorem rc273 : yRc cq273 0 2 = true := by decide +kernel
theorem yr273 : yRun gAll t273 b273 cq273 := yRun_z gAll_tag ruI2_RtI ruJ2_RtJ rqL_ok z273
theorem zw273 : zwid cq273.2.1.1 cq273.1 0 4 = true := by decide +kernel
set_option maxRecDepth 100000 in
theorem yw273 : yRows gAll LAll yt0 mt273 gHo 4 3 (zby cX11_stopAt) p273 b273 p273 = true := by decide +kernel
set_option maxRecDepth 100000 in
theorem m273 (l : Launch) : kMet gAll LAll vwCl rFo rZs rRs rNs rTs l yX11_stopAt cX11_stopAt 4 (some .boolean) 2 46 cq273 := kmet_y2 (rt := 3) (by decide +kernel) yr273 zw273 rfl yw273 LAll_ok LAll_la yt0_ok gHo_ok rfl (fun G n Qf => List.forall_mem_cons.mpr ⟨⟨cq194, rfl, st274 l (by decide) (by decide)⟩, List.forall_mem_cons.mpr ⟨⟨cq230, rfl, st275 l (by decide) (by decide)⟩, yA_n⟩⟩) rfl (fun G n Rr => yA_n) rfl
/-! 274 NW.symbol (I)J -/
theorem st276 (l : Launch) {G : rGm} {cc : ByteArray} {nL n fr lo : Nat} {ret : Option FieldType} {Qf : kQf} (hf : 1 ≤ fr) (hlo : 28 ≤ lo) : ySite gAll LAll vwCl rFo rZs rRs rNs rTs G l cc nL RX11 ret fr lo n Qf 182 124 cq252 := ys_V 4 13431 9 rc252 lo_13431 kc9 (m252 l) kGood kw747 kw734 kw735 kw18 kw732 hdV_X7_find hf hlo
def mt274 : yMt := ([(182, (63, 0)), (182, (124, 1))], ([], ([], [38])))
theorem rc274 : yRc cq274 0 1 = true := by decide +kernel
theorem yr274 : yRun gAll t274 b274 cq274 := yRun_z gAll_tag ruI2_RtI ruJ2_RtJ rqL_ok z274
theorem zw274 : zwid cq274.2.1.1 cq274.1 0 4 = true := by decide +kernel
set_option maxRecDepth 100000 in
theorem yw274 : yRows gAll LAll yt0 mt274 gHo 4 2 (zby cX11_symbol) p274 b274 p274 = true := by decide +kernel
theorem dx274_38 : decode cX11_symbol 38 = .ok (.new 128, 3) := by decide +kernel
theorem dx274_41 : decode cX11_symbol 41 = .ok (.dup, 1) := by decide +kernel
theorem dx274_42 : decode cX11_symbol 42 = .ok (.ldc 130, 2) := by decide +kernel
theorem dx274_44 : decode cX11_symbol 44 = .ok (.invokespecial 132, 3) := by decide +kernel
theorem dx274_47 : decode cX11_symbol 47 = .ok (.athrow, 1) := by decide +kernel
theorem xt274_0 (l : Launch) (hl : l.stackTraces = false) (G : rGm) (n : Nat) (Rr : List qV → qSg → Prop) : ∀ ls st s, (st = [] ∧ Rr [] s) → kW gAll LAll vwCl rFo rZs rRs rNs rTs G l cX11_symbol 4 "NativeWorks" (some .long) 9 243 n (kXQ gAll LAll vwCl rFo rZs rRs rNs G n (fun res s2 => (∃ v, res = [v]) ∧ Rr res s2) (fun E s2 => (fun E => E = "java/util/NoSuchElementException") E ∧ Rr [] s2)) 38 ls st s := kx_thrN (i := 10002) hl (by decide) kw748 kw749 kr93 hat1 (xgood1 128) dx274_38 dx274_41 dx274_42 dx274_44 dx274_47 (by decide) (by decide) (fun s h => ⟨rfl, h⟩)
set_option maxRecDepth 100000 in
theorem m274 (l : Launch) (hl : l.stackTraces = false) : kMetX gAll LAll vwCl rFo rZs rRs rNs rTs l yX11_symbol cX11_symbol 4 (some .long) 9 243 cq274 (fun E => E = "java/util/NoSuchElementException") := kmetx_y (rt := 2) (by decide +kernel) yr274 zw274 rfl yw274 LAll_ok LAll_la yt0_ok gHo_ok rfl (by decide) (fun G n Qf => List.forall_mem_cons.mpr ⟨⟨cq257, rfl, st263 l (by decide) (by decide)⟩, List.forall_mem_cons.mpr ⟨⟨cq252, rfl, st276 l (by decide) (by decide)⟩, yA_n⟩⟩) rfl rfl (fun G n Rr => List.forall_mem_cons.mpr ⟨xt274_0 l hl G n Rr, yA_n⟩)
/-! 275 NW.unit (IZ)I -/
theorem hdV_X0_assemble : yX0_assemble.cls = RX0 ∧ yX0_assemble.cls ≠ "java/lang/invoke/MethodHandle" ∧ yX0_assemble.cls ≠ "java/lang/invoke/VarHandle" ∧ (parseMethodDescriptor yX0_assemble.desc).map (fun d => d.parameters.length) = some 2 := by decide +kernel
theorem st277 (l : Launch) {G : rGm} {cc : ByteArray} {nL n fr lo : Nat} {ret : Option FieldType} {Qf : kQf} (hf : 8 ≤ fr) (hlo : 194 ≤ lo) : ySite gAll LAll vwCl rFo rZs rRs rNs rTs G l cc nL RX11 ret fr lo n Qf 182 81 cq153 := ys_V 2 13364 2 rc153 lo_13364 kc2 (m153 l) kGood kw700 kw701 kw702 kw249 kw699 hdV_X0_assemble hf hlo
def mt275 : yMt := ([(182, (63, 0)), (182, (70, 1)), (182, (81, 2))], ([], ([], [30, 71])))
theorem rc275 : yRc cq275 0 2 = true := by decide +kernel
theorem yr275 : yRun gAll t275 b275 cq275 := yRun_z gAll_tag ruI2_RtI ruJ2_RtJ rqL_ok z275
theorem zw275 : zwid cq275.2.1.1 cq275.1 0 6 = true := by decide +kernel
set_option maxRecDepth 100000 in
theorem yw275 : yRows gAll LAll yt0 mt275 gHo 6 1 (zby cX11_unit) p275 b275 p275 = true := by decide +kernel
theorem dx275_30 : decode cX11_unit 30 = .ok (.new 74, 3) := by decide +kernel
theorem dx275_33 : decode cX11_unit 33 = .ok (.dup, 1) := by decide +kernel
theorem dx275_34 : decode cX11_unit 34 = .ok (.ldc 76, 2) := by decide +kernel
theorem dx275_36 : decode cX11_unit 36 = .ok (.invokespecial 78, 3) := by decide +kernel
theorem dx275_39 : decode cX11_unit 39 = .ok (.athrow, 1) := by decide +kernel
theorem dx275_71 : decode cX11_unit 71 = .ok (.new 74, 3) := by decide +kernel
theorem dx275_74 : decode cX11_unit 74 = .ok (.dup, 1) := by decide +kernel
theorem dx275_75 : decode cX11_unit 75 = .ok (.ldc 86, 2) := by decide +kernel
theorem dx275_77 : decode cX11_unit 77 = .ok (.invokespecial 78, 3) := by decide +kernel
theorem dx275_80 : decode cX11_unit 80 = .ok (.athrow, 1) := by decide +kernel
theorem xt275_0 (l : Launch) (hl : l.stackTraces = false) (G : rGm) (n : Nat) (Rr : List qV → qSg → Prop) : ∀ ls st s, (st = [] ∧ Rr [] s) → kW gAll LAll vwCl rFo rZs rRs rNs rTs G l cX11_unit 6 "NativeWorks" (some .int) 15 394 n (kXQ gAll LAll vwCl rFo rZs rRs rNs G n (fun res s2 => (∃ v, res = [v]) ∧ Rr res s2) (fun E s2 => (fun E => E = "java/lang/IllegalArgumentException") E ∧ Rr [] s2)) 30 ls st s := kx_thr (i := 10006) ["java/lang/RuntimeException", "java/lang/Exception"] hl (by decide) (by decide +kernel) (List.all_eq_true.mp (by decide +kernel)) kw758 kw759 kr97 hat2 (xgood2 74) dx275_30 dx275_33 dx275_34 dx275_36 dx275_39 (by decide) (by decide) (fun s h => ⟨rfl, h⟩)
theorem xt275_1 (l : Launch) (hl : l.stackTraces = false) (G : rGm) (n : Nat) (Rr : List qV → qSg → Prop) : ∀ ls st s, (st = [] ∧ Rr [] s) → kW gAll LAll vwCl rFo rZs rRs rNs rTs G l cX11_unit 6 "NativeWorks" (some .int) 15 394 n (kXQ gAll LAll vwCl rFo rZs rRs rNs G n (fun res s2 => (∃ v, res = [v]) ∧ Rr res s2) (fun E s2 => (fun E => E = "java/lang/IllegalArgumentException") E ∧ Rr [] s2)) 71 ls st s := kx_thr (i := 10007) ["java/lang/RuntimeException", "java/lang/Exception"] hl (by decide) (by decide +kernel) (List.all_eq_true.mp (by decide +kernel)) kw758 kw759 kr98 hat2 (xgood2 74) dx275_71 dx275_74 dx275_75 dx275_77 dx275_80 (by decide) (by decide) (fun s h => ⟨rfl, h⟩)
set_option maxRecDepth 100000 in
theorem m275 (l : Launch) (hl : l.stackTraces = false) : kMetX gAll LAll vwCl rFo rZs rRs rNs rTs l yX11_unit cX11_unit 6 (some .int) 15 394 cq275 (fun E => E = "java/lang/IllegalArgumentException") := kmetx_y (rt := 1) (by decide +kernel) yr275 zw275 rfl yw275 LAll_ok LAll_la yt0_ok gHo_ok rfl (by decide) (fun G n Qf => List.forall_mem_cons.mpr ⟨⟨cq257, rfl, st263 l (by decide) (by decide)⟩, List.forall_mem_cons.mpr ⟨⟨cq261, rfl, st266 l (by decide) (by decide)⟩, List.forall_mem_cons.mpr ⟨⟨cq153, rfl, st277 l (by decide) (by decide)⟩, yA_n⟩⟩⟩) rfl rfl (fun G n Rr => List.forall_mem_cons.mpr ⟨xt275_0 l hl G n Rr, List.forall_mem_cons.mpr ⟨xt275_1 l hl G n Rr, yA_n⟩⟩)
/-! 276 NW.where (J)I -/
def mt276 : yMt := ([], ([], ([], [])))
theorem rc276 : yRc cq276 0 1 = true := by decide +kernel
theorem yr276 : yRun gAll t276 b276 cq276 := yRun_z gAll_tag ruI2_RtI ruJ2_RtJ rqL_ok z276
theorem zw276 : zwid cq276.2.1.1 cq276.1 0 5 = true := by decide +kernel
set_option maxRecDepth 100000 in
theorem yw276 : yRows gAll LAll yt0 mt276 gHo 5 1 (zby cX11_where) p276 b276 p276 = true := by decide +kernel
set_option maxRecDepth 100000 in
theorem m276 (l : Launch) : kMet gAll LAll vwCl rFo rZs rRs rNs rTs l yX11_where cX11_where 5 (some .int) 0 0 cq276 := kmet_y2 (rt := 1) (by decide +kernel) yr276 zw276 rfl yw276 LAll_ok LAll_la yt0_ok gHo_ok rfl (fun G n Qf => yA_n) rfl (fun G n Rr => yA_n) rfl
/-! 277 Model$Code.at@m.code (J)I -/
def mt277 : yMt := ([], ([], ([], [])))
theorem rc277 : yRc cq277 13592 1 = true := by decide +kernel
theorem yr277 : yRun gAll t277 b277 cq277 := yRun_p (cuts := u277) (fuel := 300) gAll_tag ruI2_RtI ruJ2_RtJ rqL_ok ⟨zsm_e _ z277_s, List.forall_mem_cons.mpr ⟨zsm_e _ z277_0, yA_n⟩⟩
theorem zw277 : zwid cq277.2.1.1 cq277.1 0 6 = true := by decide +kernel
set_option maxRecDepth 100000 in
theorem yw277 : yRows gAll LAll yt13 mt277 gHo 6 1 (zby cX12_at) p277 b277 p277 = true := by decide +kernel
set_option maxRecDepth 100000 in
theorem m277 (l : Launch) : kMet gAll LAll vwCl rFo rZs rRs rNs rTs l yX12_at cX12_at 6 (some .int) 0 0 cq277 := kmet_y2 (rt := 1) (by decide +kernel) yr277 zw277 rfl yw277 LAll_ok LAll_la yt13_ok gHo_ok rfl (fun G n Qf => yA_n) rfl (fun G n Rr => yA_n) rfl
/-! 278 Model$Code.at@m.image (J)I -/
def mt278 : yMt := ([], ([], ([], [])))
theorem rc278 : yRc cq278 13586 1 = true := by decide +kernel
theorem yr278 : yRun gAll t278 b278 cq278 := yRun_p (cuts := u278) (fuel := 300) gAll_tag ruI2_RtI ruJ2_RtJ rqL_ok ⟨zsm_e _ z278_s, List.forall_mem_cons.mpr ⟨zsm_e _ z278_0, yA_n⟩⟩
theorem zw278 : zwid cq278.2.1.1 cq278.1 0 6 = true := by decide +kernel
set_option maxRecDepth 100000 in
theorem yw278 : yRows gAll LAll yt13 mt278 gHo 6 1 (zby cX12_at) p278 b278 p278 = true := by decide +kernel
set_option maxRecDepth 100000 in
theorem m278 (l : Launch) : kMet gAll LAll vwCl rFo rZs rRs rNs rTs l yX12_at cX12_at 6 (some .int) 0 0 cq278 := kmet_y2 (rt := 1) (by decide +kernel) yr278 zw278 rfl yw278 LAll_ok LAll_la yt13_ok gHo_ok rfl (fun G n Qf => yA_n) rfl (fun G n Rr => yA_n) rfl
/-! 279 Model$Code.copy/image@m.code (LNativeWorksModel$Code;)V -/
def mt279 : yMt := ([], ([], ([], [])))
theorem rc279 : yRc cq279 13592 1 = true := by decide +kernel
theorem yr279 : yRun gAll t279 b279 cq279 := yRun_p (cuts := u279) (fuel := 300) gAll_tag ruI2_RtI ruJ2_RtJ rqL_ok ⟨zsm_e _ z279_s, List.forall_mem_cons.mpr ⟨zsm_e _ z279_0, yA_n⟩⟩
theorem zw279 : zwid cq279.2.1.1 cq279.1 0 3 = true := by decide +kernel
set_option maxRecDepth 100000 in
theorem yw279 : yRows gAll LAll yt13 mt279 gHo 3 0 (zby cX12_copy) p279 b279 p279 = true := by decide +kernel
set_option maxRecDepth 100000 in
theorem m279 (l : Launch) : kMet gAll LAll vwCl rFo rZs rRs rNs rTs l yX12_copy cX12_copy 3 none 0 0 cq279 := kmet_y2 (rt := 0) (by decide +kernel) yr279 zw279 rfl yw279 LAll_ok LAll_la yt13_ok gHo_ok rfl (fun G n Qf => yA_n) rfl (fun G n Rr => yA_n) rfl
/-! 280 Model.enter (III)V -/
def mt280 : yMt := ([], ([], ([], [])))
theorem rc280 : yRc cq280 13454 3 = true := by decide +kernel
theorem yr280 : yRun gAll t280 b280 cq280 := yRun_z gAll_tag ruI2_RtI ruJ2_RtJ rqL_ok z280
theorem zw280 : zwid cq280.2.1.1 cq280.1 0 5 = true := by decide +kernel
set_option maxRecDepth 100000 in
theorem yw280 : yRows gAll LAll yt12 mt280 gHo 5 0 (zby cX13_enter) p280 b280 p280 = true := by decide +kernel
set_option maxRecDepth 100000 in
theorem m280 (l : Launch) : kMet gAll LAll vwCl rFo rZs rRs rNs rTs l yX13_enter cX13_enter 5 none 0 0 cq280 := kmet_y2 (rt := 0) (by decide +kernel) yr280 zw280 rfl yw280 LAll_ok LAll_la yt12_ok gHo_ok rfl (fun G n Qf => yA_n) rfl (fun G n Rr => yA_n) rfl
/-! 281 Model.call (I)V -/
theorem hdV_X13_enter : yX13_enter.cls = RX13 ∧ yX13_enter.cls ≠ "java/lang/invoke/MethodHandle" ∧ yX13_enter.cls ≠ "java/lang/invoke/VarHandle" ∧ (parseMethodDescriptor yX13_enter.desc).map (fun d => d.parameters.length) = some 3 := by decide +kernel
theorem st278 (l : Launch) {G : rGm} {cc : ByteArray} {nL n fr lo : Nat} {ret : Option FieldType} {Qf : kQf} (hf : 1 ≤ fr) (hlo : 24 ≤ lo) : ySite gAll LAll vwCl rFo rZs rRs rNs rTs G l cc nL RX13 ret fr lo n Qf 182 964 cq280 := ys_V 3 13454 15 rc280 lo_13454 kc15 (m280 l) kGood kw2324 kw2325 kw2326 kw315 kw2408 hdV_X13_enter hf hlo
def mt281 : yMt := ([(182, (964, 0))], ([], ([], [])))
theorem rc281 : yRc cq281 13454 1 = true := by decide +kernel
theorem yr281 : yRun gAll t281 b281 cq281 := yRun_z gAll_tag ruI2_RtI ruJ2_RtJ rqL_ok z281
theorem zw281 : zwid cq281.2.1.1 cq281.1 0 3 = true := by decide +kernel
set_option maxRecDepth 100000 in
theorem yw281 : yRows gAll LAll yt12 mt281 gHo 3 0 (zby cX13_call) p281 b281 p281 = true := by decide +kernel
set_option maxRecDepth 100000 in
theorem m281 (l : Launch) : kMet gAll LAll vwCl rFo rZs rRs rNs rTs l yX13_call cX13_call 3 none 1 24 cq281 := kmet_y2 (rt := 0) (by decide +kernel) yr281 zw281 rfl yw281 LAll_ok LAll_la yt12_ok gHo_ok rfl (fun G n Qf => List.forall_mem_cons.mpr ⟨⟨cq280, rfl, st278 l (by decide) (by decide)⟩, yA_n⟩) rfl (fun G n Rr => yA_n) rfl
/-! 282 Model.isCalled (I)Z -/
def mt282 : yMt := ([], ([], ([], [])))
theorem rc282 : yRc cq282 13454 1 = true := by decide +kernel
theorem yr282 : yRun gAll t282 b282 cq282 := yRun_p (cuts := u282) (fuel := 300) gAll_tag ruI2_RtI ruJ2_RtJ rqL_ok ⟨zsm_e _ z282_s, List.forall_mem_cons.mpr ⟨zsm_e _ z282_0, yA_n⟩⟩
theorem zw282 : zwid cq282.2.1.1 cq282.1 0 4 = true := by decide +kernel
set_option maxRecDepth 100000 in
theorem yw282 : yRows gAll LAll yt12 mt282 gHo 4 3 (zby cX13_isCalled) p282 b282 p282 = true := by decide +kernel
set_option maxRecDepth 100000 in
theorem m282 (l : Launch) : kMet gAll LAll vwCl rFo rZs rRs rNs rTs l yX13_isCalled cX13_isCalled 4 (some .boolean) 0 0 cq282 := kmet_y2 (rt := 3) (by decide +kernel) yr282 zw282 rfl yw282 LAll_ok LAll_la yt12_ok gHo_ok rfl (fun G n Qf => yA_n) rfl (fun G n Rr => yA_n) rfl
/-! 283 Model.symbolNamed ()I -/
theorem hdV_X13_isCalled : yX13_isCalled.cls = RX13 ∧ yX13_isCalled.cls ≠ "java/lang/invoke/MethodHandle" ∧ yX13_isCalled.cls ≠ "java/lang/invoke/VarHandle" ∧ (parseMethodDescriptor yX13_isCalled.desc).map (fun d => d.parameters.length) = some 1 := by decide +kernel
theorem st279 (l : Launch) {G : rGm} {cc : ByteArray} {nL n fr lo : Nat} {ret : Option FieldType} {Qf : kQf} (hf : 1 ≤ fr) (hlo : 23 ≤ lo) : ySite gAll LAll vwCl rFo rZs rRs rNs rTs G l cc nL RX13 ret fr lo n Qf 182 745 cq282 := ys_V 1 13454 15 rc282 lo_13454 kc15 (m282 l) kGood kw2816 kw2817 kw2818 kw315 kw2544 hdV_X13_isCalled hf hlo
def mt283 : yMt := ([(182, (745, 0))], ([], ([], [])))
theorem rc283 : yRc cq283 13454 0 = true := by decide +kernel
theorem yr283 : yRun gAll t283 b283 cq283 := yRun_p (cuts := u283) (fuel := 300) gAll_tag ruI2_RtI ruJ2_RtJ rqL_ok ⟨zsm_e _ z283_s, List.forall_mem_cons.mpr ⟨zsm_e _ z283_0, yA_n⟩⟩
theorem zw283 : zwid cq283.2.1.1 cq283.1 0 2 = true := by decide +kernel
set_option maxRecDepth 100000 in
theorem yw283 : yRows gAll LAll yt12 mt283 gHo 2 1 (zby cX13_symbolNamed) p283 b283 p283 = true := by decide +kernel
set_option maxRecDepth 100000 in
theorem m283 (l : Launch) : kMet gAll LAll vwCl rFo rZs rRs rNs rTs l yX13_symbolNamed cX13_symbolNamed 2 (some .int) 1 23 cq283 := kmet_y2 (rt := 1) (by decide +kernel) yr283 zw283 rfl yw283 LAll_ok LAll_la yt12_ok gHo_ok rfl (fun G n Qf => List.forall_mem_cons.mpr ⟨⟨cq282, rfl, st279 l (by decide) (by decide)⟩, yA_n⟩) rfl (fun G n Rr => yA_n) rfl
/-! 284 Model.symbolFor ()I -/
theorem hdV_X13_symbolNamed : yX13_symbolNamed.cls = RX13 ∧ yX13_symbolNamed.cls ≠ "java/lang/invoke/MethodHandle" ∧ yX13_symbolNamed.cls ≠ "java/lang/invoke/VarHandle" ∧ (parseMethodDescriptor yX13_symbolNamed.desc).map (fun d => d.parameters.length) = some 0 := by decide +kernel
theorem st280 (l : Launch) {G : rGm} {cc : ByteArray} {nL n fr lo : Nat} {ret : Option FieldType} {Qf : kQf} (hf : 2 ≤ fr) (hlo : 44 ≤ lo) : ySite gAll LAll vwCl rFo rZs rRs rNs rTs G l cc nL RX13 ret fr lo n Qf 182 748 cq283 := ys_V 0 13454 15 rc283 lo_13454 kc15 (m283 l) kGood kw2550 kw2551 kw2552 kw315 kw2843 hdV_X13_symbolNamed hf hlo
def mt284 : yMt := ([(182, (748, 0))], ([], ([], [])))
theorem rc284 : yRc cq284 13454 0 = true := by decide +kernel
theorem yr284 : yRun gAll t284 b284 cq284 := yRun_p (cuts := u284) (fuel := 300) gAll_tag ruI2_RtI ruJ2_RtJ rqL_ok ⟨zsm_e _ z284_s, List.forall_mem_cons.mpr ⟨zsm_e _ z284_0, yA_n⟩⟩
theorem zw284 : zwid cq284.2.1.1 cq284.1 0 5 = true := by decide +kernel
set_option maxRecDepth 100000 in
theorem yw284 : yRows gAll LAll yt12 mt284 gHo 5 1 (zby cX13_symbolFor) p284 b284 p284 = true := by decide +kernel
set_option maxRecDepth 100000 in
theorem m284 (l : Launch) : kMet gAll LAll vwCl rFo rZs rRs rNs rTs l yX13_symbolFor cX13_symbolFor 5 (some .int) 2 44 cq284 := kmet_y2 (rt := 1) (by decide +kernel) yr284 zw284 rfl yw284 LAll_ok LAll_la yt12_ok gHo_ok rfl (fun G n Qf => List.forall_mem_cons.mpr ⟨⟨cq283, rfl, st280 l (by decide) (by decide)⟩, yA_n⟩) rfl (fun G n Rr => yA_n) rfl
/-! 285 Model.takeName (I)V -/
def mt285 : yMt := ([], ([], ([], [])))
theorem rc285 : yRc cq285 13454 1 = true := by decide +kernel
theorem yr285 : yRun gAll t285 b285 cq285 := yRun_p (cuts := u285) (fuel := 300) gAll_tag ruI2_RtI ruJ2_RtJ rqL_ok ⟨zsm_e _ z285_s, List.forall_mem_cons.mpr ⟨zsm_e _ z285_0, List.forall_mem_cons.mpr ⟨zsm_e _ z285_1, yA_n⟩⟩⟩
theorem zw285 : zwid cq285.2.1.1 cq285.1 0 4 = true := by decide +kernel
set_option maxRecDepth 100000 in
theorem yw285 : yRows gAll LAll yt12 mt285 gHo 4 0 (zby cX13_takeName) p285 b285 p285 = true := by decide +kernel
set_option maxRecDepth 100000 in
theorem m285 (l : Launch) : kMet gAll LAll vwCl rFo rZs rRs rNs rTs l yX13_takeName cX13_takeName 4 none 0 0 cq285 := kmet_y2 (rt := 0) (by decide +kernel) yr285 zw285 rfl yw285 LAll_ok LAll_la yt12_ok gHo_ok rfl (fun G n Qf => yA_n) rfl (fun G n Rr => yA_n) rfl
/-! 286 Model.valueOf (JII)V -/
def mt286 : yMt := ([], ([], ([], [])))
theorem rc286 : yRc cq286 13454 3 = true := by decide +kernel
theorem yr286 : yRun gAll t286 b286 cq286 := yRun_z gAll_tag ruI2_RtI ruJ2_RtJ rqL_ok z286
theorem zw286 : zwid cq286.2.1.1 cq286.1 0 5 = true := by decide +kernel
set_option maxRecDepth 100000 in
theorem yw286 : yRows gAll LAll yt12 mt286 gHo 5 0 (zby cX13_valueOf) p286 b286 p286 = true := by decide +kernel
set_option maxRecDepth 100000 in
theorem m286 (l : Launch) : kMet gAll LAll vwCl rFo rZs rRs rNs rTs l yX13_valueOf cX13_valueOf 5 none 0 0 cq286 := kmet_y2 (rt := 0) (by decide +kernel) yr286 zw286 rfl yw286 LAll_ok LAll_la yt12_ok gHo_ok rfl (fun G n Qf => yA_n) rfl (fun G n Rr => yA_n) rfl
/-! 287 Model.leaf (III)V -/
theorem hdV_X13_valueOf : yX13_valueOf.cls = RX13 ∧ yX13_valueOf.cls ≠ "java/lang/invoke/MethodHandle" ∧ yX13_valueOf.cls ≠ "java/lang/invoke/VarHandle" ∧ (parseMethodDescriptor yX13_valueOf.desc).map (fun d => d.parameters.length) = some 3 := by decide +kernel
theorem st281 (l : Launch) {G : rGm} {cc : ByteArray} {nL n fr lo : Nat} {ret : Option FieldType} {Qf : kQf} (hf : 1 ≤ fr) (hlo : 24 ≤ lo) : ySite gAll LAll vwCl rFo rZs rRs rNs rTs G l cc nL RX13 ret fr lo n Qf 182 832 cq286 := ys_V 3 13454 15 rc286 lo_13454 kc15 (m286 l) kGood kw2605 kw2606 kw2607 kw315 kw2867 hdV_X13_valueOf hf hlo
theorem hdV_X13_takeName : yX13_takeName.cls = RX13 ∧ yX13_takeName.cls ≠ "java/lang/invoke/MethodHandle" ∧ yX13_takeName.cls ≠ "java/lang/invoke/VarHandle" ∧ (parseMethodDescriptor yX13_takeName.desc).map (fun d => d.parameters.length) = some 1 := by decide +kernel
theorem st282 (l : Launch) {G : rGm} {cc : ByteArray} {nL n fr lo : Nat} {ret : Option FieldType} {Qf : kQf} (hf : 1 ≤ fr) (hlo : 23 ≤ lo) : ySite gAll LAll vwCl rFo rZs rRs rNs rTs G l cc nL RX13 ret fr lo n Qf 182 772 cq285 := ys_V 1 13454 15 rc285 lo_13454 kc15 (m285 l) kGood kw2366 kw2367 kw2368 kw315 kw2844 hdV_X13_takeName hf hlo
theorem hdV_X13_symbolFor : yX13_symbolFor.cls = RX13 ∧ yX13_symbolFor.cls ≠ "java/lang/invoke/MethodHandle" ∧ yX13_symbolFor.cls ≠ "java/lang/invoke/VarHandle" ∧ (parseMethodDescriptor yX13_symbolFor.desc).map (fun d => d.parameters.length) = some 0 := by decide +kernel
theorem st283 (l : Launch) {G : rGm} {cc : ByteArray} {nL n fr lo : Nat} {ret : Option FieldType} {Qf : kQf} (hf : 3 ≤ fr) (hlo : 68 ≤ lo) : ySite gAll LAll vwCl rFo rZs rRs rNs rTs G l cc nL RX13 ret fr lo n Qf 182 788 cq284 := ys_V 0 13454 15 rc284 lo_13454 kc15 (m284 l) kGood kw2369 kw2370 kw2371 kw315 kw2841 hdV_X13_symbolFor hf hlo
def mt287 : yMt := ([(182, (832, 0)), (182, (772, 1)), (182, (788, 2))], ([], ([], [])))
theorem rc287 : yRc cq287 13454 3 = true := by decide +kernel
theorem yr287 : yRun gAll t287 b287 cq287 := yRun_z gAll_tag ruI2_RtI ruJ2_RtJ rqL_ok z287
theorem zw287 : zwid cq287.2.1.1 cq287.1 0 6 = true := by decide +kernel
set_option maxRecDepth 100000 in
theorem yw287 : yRows gAll LAll yt12 mt287 gHo 6 0 (zby cX13_leaf) p287 b287 p287 = true := by decide +kernel
set_option maxRecDepth 100000 in
theorem m287 (l : Launch) : kMet gAll LAll vwCl rFo rZs rRs rNs rTs l yX13_leaf cX13_leaf 6 none 3 68 cq287 := kmet_y2 (rt := 0) (by decide +kernel) yr287 zw287 rfl yw287 LAll_ok LAll_la yt12_ok gHo_ok rfl (fun G n Qf => List.forall_mem_cons.mpr ⟨⟨cq286, rfl, st281 l (by decide) (by decide)⟩, List.forall_mem_cons.mpr ⟨⟨cq285, rfl, st282 l (by decide) (by decide)⟩, List.forall_mem_cons.mpr ⟨⟨cq284, rfl, st283 l (by decide) (by decide)⟩, yA_n⟩⟩⟩) rfl (fun G n Rr => yA_n) rfl
/-! 288 Model.reduce ()V -/
def mt288 : yMt := ([], ([], ([], [])))
theorem rc288 : yRc cq288 13454 0 = true := by decide +kernel
theorem yr288 : yRun gAll t288 b288 cq288 := yRun_p (cuts := u288) (fuel := 300) gAll_tag ruI2_RtI ruJ2_RtJ rqL_ok ⟨zsm_e _ z288_s, List.forall_mem_cons.mpr ⟨zsm_e _ z288_0, List.forall_mem_cons.mpr ⟨zsm_e _ z288_1, List.forall_mem_cons.mpr ⟨zsm_e _ z288_2, List.forall_mem_cons.mpr ⟨zsm_e _ z288_3, List.forall_mem_cons.mpr ⟨zsm_e _ z288_4, yA_n⟩⟩⟩⟩⟩⟩
theorem zw288 : zwid cq288.2.1.1 cq288.1 0 10 = true := by decide +kernel
set_option maxRecDepth 100000 in
theorem yw288 : yRows gAll LAll yt12 mt288 gHo 10 0 (zby cX13_reduce) p288 b288 p288 = true := by decide +kernel
set_option maxRecDepth 100000 in
theorem m288 (l : Launch) : kMet gAll LAll vwCl rFo rZs rRs rNs rTs l yX13_reduce cX13_reduce 10 none 0 0 cq288 := kmet_y2 (rt := 0) (by decide +kernel) yr288 zw288 rfl yw288 LAll_ok LAll_la yt12_ok gHo_ok rfl (fun G n Qf => yA_n) rfl (fun G n Rr => yA_n) rfl
/-! 289 Model.strength (I)I -/
def mt289 : yMt := ([], ([], ([], [])))
def fp_Model_strength : List Nat := []
theorem ag_Model_strength {s s' : qSg} (hB : ∀ b ∈ fp_Model_strength, AgB gDet s s' b) (as : List qV) : dm_Model_strength as s = dm_Model_strength as s' := by
  unfold dm_Model_strength
  show zRun gDet (dk_Model_strength s') s dc_Model_strength as = zRun gDet (dk_Model_strength s') s' dc_Model_strength as
  exact zRun_ag gd_ok.P hB (show dc_Model_strength.all (fun x => x.1.all (okF gDet fp_Model_strength)) = true by decide +kernel) as
set_option maxHeartbeats 4000000 in
theorem he_Model_strength (s : qSg) : ∀ as r a v, CtBeg gAll d289 as s r a → Typed gAll s → dm_Model_strength (as.map cnV) s = some v → dEv 1169 (([] : List Nat).map a) (([(0, [(0, 1)])] : List qL).map (qe r)) = some v.2 := by
  intro as r a v hB hT e
  obtain ⟨hlen, ls, hsub, hsat⟩ := hB
  obtain ⟨hls, -, hsc, hav, -⟩ := hsat.now
  have hlen : as.length = 1 := hlen
  match as, hlen with
  | [w0], _ =>
    have x0 := hsub (0, ((0 : Nat), qe r ((0, [(0, 1)]) : qL))) (by rw [hls]; exact List.mem_cons_self)
    cases lsArgs_hd (x0)
    have e1 : dm_Model_strength [((0 : Nat), qe r ((0, [(0, 1)]) : qL))] s = some v := by
      unfold dm_Model_strength at e ⊢
      rw [zRun_cn (map_cn _)] at e
      exact e
    have e2 := ag_Model_strength (s := s) (s' := dSto [] []) (fun b hb => by
      cases hb) [((0 : Nat), qe r ((0, [(0, 1)]) : qL))]
    rw [e2] at e1
    exact congrArg (fun o => o.map (fun v => v.2)) e1
theorem hd_Model_strength : ∀ s, Typed gAll s → HC gAll t289 (dk_Model_strength s) s := by
  intro s hT j C hC
  match j, hC with
  | j + 0, hC => cases (show none = some C from hC)
set_option maxHeartbeats 4000000 in
theorem dC_Model_strength (s : qSg) (hT : Typed gAll s) : DetC gAll cq289 s (fun as => dm_Model_strength as s) := detC_of (p := 1169) (t := 0) (vs := []) (zi := [(0, [(0, 1)])]) (Cd := d289) rfl rfl rfl (⟨⟨_, rfl, ⟨_, rfl, (fun z hz => by
    rcases List.mem_cons.mp hz with rfl | hz
    · exact Or.inr rfl
    cases hz), List.mem_cons_self⟩, Nat.le_of_ble_eq_true rfl, Nat.le_of_ble_eq_true rfl⟩, ⟨⟨_, rfl, ⟨_, rfl, (fun z hz => by
    rcases List.mem_cons.mp hz with rfl | hz
    · exact Or.inr rfl
    rcases List.mem_cons.mp hz with rfl | hz
    · exact Or.inl (List.mem_cons_self)
    cases hz), List.mem_cons_self⟩, Nat.le_of_ble_eq_true rfl, Nat.le_of_ble_eq_true rfl⟩, trivial⟩⟩) (by decide) (by decide +kernel) (by decide +kernel)
  (fun fs zs z h1 h2 => by
    rw [PQ_c (show fTab[1169]? = none by decide +kernel)]
    match fs, zs, h1, h2 with
    | [], [z0], _, _ => exact Iff.rfl) (yDet_b gAll_tag z289 gd_ok (by decide +kernel) (eqCd_ok (by decide +kernel)) hd_Model_strength s) (he_Model_strength s)
theorem yr289 : yRun gAll t289 b289 cq289 := yRun_d (dc := dc_Model_strength) (cl := dk_Model_strength) gAll_tag z289 gd_ok (by decide +kernel) (eqCd_ok (by decide +kernel)) hd_Model_strength rfl rfl (fun s hT => dC_Model_strength s hT)
theorem zw289 : zwid cq289.2.1.1 cq289.1 0 1 = true := by decide +kernel
set_option maxRecDepth 100000 in
theorem yw289 : yRows gAll LAll yt12 mt289 gHo 1 1 (zby cX13_strength) p289 b289 p289 = true := by decide +kernel
set_option maxRecDepth 100000 in
theorem m289 (l : Launch) : kMet gAll LAll vwCl rFo rZs rRs rNs rTs l yX13_strength cX13_strength 1 (some .int) 0 0 cq289 := kmet_y2 (rt := 1) (by decide +kernel) yr289 zw289 rfl yw289 LAll_ok LAll_la yt12_ok gHo_ok rfl (fun G n Qf => yA_n) rfl (fun G n Rr => yA_n) rfl
/-! 290 Model.evaluatePieces (I)V -/
theorem hdV_X13_leaf : yX13_leaf.cls = RX13 ∧ yX13_leaf.cls ≠ "java/lang/invoke/MethodHandle" ∧ yX13_leaf.cls ≠ "java/lang/invoke/VarHandle" ∧ (parseMethodDescriptor yX13_leaf.desc).map (fun d => d.parameters.length) = some 3 := by decide +kernel
theorem st284 (l : Launch) {G : rGm} {cc : ByteArray} {nL n fr lo : Nat} {ret : Option FieldType} {Qf : kQf} (hf : 4 ≤ fr) (hlo : 93 ≤ lo) : ySite gAll LAll vwCl rFo rZs rRs rNs rTs G l cc nL RX13 ret fr lo n Qf 182 824 cq287 := ys_V 3 13454 15 rc287 lo_13454 kc15 (m287 l) kGood kw2417 kw2418 kw2419 kw315 kw2604 hdV_X13_leaf hf hlo
theorem hdV_X13_reduce : yX13_reduce.cls = RX13 ∧ yX13_reduce.cls ≠ "java/lang/invoke/MethodHandle" ∧ yX13_reduce.cls ≠ "java/lang/invoke/VarHandle" ∧ (parseMethodDescriptor yX13_reduce.desc).map (fun d => d.parameters.length) = some 0 := by decide +kernel
theorem st285 (l : Launch) {G : rGm} {cc : ByteArray} {nL n fr lo : Nat} {ret : Option FieldType} {Qf : kQf} (hf : 1 ≤ fr) (hlo : 29 ≤ lo) : ySite gAll LAll vwCl rFo rZs rRs rNs rTs G l cc nL RX13 ret fr lo n Qf 182 828 cq288 := ys_V 0 13454 15 rc288 lo_13454 kc15 (m288 l) kGood kw2420 kw2421 kw2422 kw315 kw2785 hdV_X13_reduce hf hlo
theorem hdS_X13_strength : yX13_strength.cls ≠ "java/lang/invoke/MethodHandle" ∧ yX13_strength.cls ≠ "java/lang/invoke/VarHandle" ∧ (parseMethodDescriptor yX13_strength.desc).map (fun d => d.parameters.length) = some 1 := by decide +kernel
theorem st286 (l : Launch) {G : rGm} {cc : ByteArray} {nL n fr lo : Nat} {ret : Option FieldType} {Qf : kQf} (hf : 1 ≤ fr) (hlo : 20 ≤ lo) : ySite gAll LAll vwCl rFo rZs rRs rNs rTs G l cc nL RX13 ret fr lo n Qf 184 807 cq289 := ys_S 1 rfl (m289 l) kGood kw2423 kw2424 kw315 kw2425 hdS_X13_strength hf hlo
def mt290 : yMt := ([(182, (824, 0)), (182, (828, 1)), (184, (807, 2))], ([], ([], [])))
theorem rc290 : yRc cq290 13454 1 = true := by decide +kernel
theorem yr290 : yRun gAll t290 b290 cq290 := yRun_p (cuts := u290) (fuel := 300) gAll_tag ruI2_RtI ruJ2_RtJ rqL_ok ⟨zsm_e _ z290_s, List.forall_mem_cons.mpr ⟨zsm_e _ z290_0, List.forall_mem_cons.mpr ⟨zsm_e _ z290_1, List.forall_mem_cons.mpr ⟨zsm_e _ z290_2, List.forall_mem_cons.mpr ⟨zsm_e _ z290_3, List.forall_mem_cons.mpr ⟨zsm_e _ z290_4, List.forall_mem_cons.mpr ⟨zsm_e _ z290_5, yA_n⟩⟩⟩⟩⟩⟩⟩
theorem zw290 : zwid cq290.2.1.1 cq290.1 0 6 = true := by decide +kernel
set_option maxRecDepth 100000 in
theorem yw290 : yRows gAll LAll yt12 mt290 gHo 6 0 (zby cX13_evaluatePieces) p290 b290 p290 = true := by decide +kernel
set_option maxRecDepth 100000 in
theorem m290 (l : Launch) : kMet gAll LAll vwCl rFo rZs rRs rNs rTs l yX13_evaluatePieces cX13_evaluatePieces 6 none 4 93 cq290 := kmet_y2 (rt := 0) (by decide +kernel) yr290 zw290 rfl yw290 LAll_ok LAll_la yt12_ok gHo_ok rfl (fun G n Qf => List.forall_mem_cons.mpr ⟨⟨cq287, rfl, st284 l (by decide) (by decide)⟩, List.forall_mem_cons.mpr ⟨⟨cq288, rfl, st285 l (by decide) (by decide)⟩, List.forall_mem_cons.mpr ⟨⟨cq289, rfl, st286 l (by decide) (by decide)⟩, yA_n⟩⟩⟩) rfl (fun G n Rr => yA_n) rfl
/-! 291 Model.evaluate (II)V -/
theorem hdV_X13_evaluatePieces : yX13_evaluatePieces.cls = RX13 ∧ yX13_evaluatePieces.cls ≠ "java/lang/invoke/MethodHandle" ∧ yX13_evaluatePieces.cls ≠ "java/lang/invoke/VarHandle" ∧ (parseMethodDescriptor yX13_evaluatePieces.desc).map (fun d => d.parameters.length) = some 1 := by decide +kernel
theorem st287 (l : Launch) {G : rGm} {cc : ByteArray} {nL n fr lo : Nat} {ret : Option FieldType} {Qf : kQf} (hf : 5 ≤ fr) (hlo : 118 ≤ lo) : ySite gAll LAll vwCl rFo rZs rRs rNs rTs G l cc nL RX13 ret fr lo n Qf 182 836 cq290 := ys_V 1 13454 15 rc290 lo_13454 kc15 (m290 l) kGood kw2411 kw2412 kw2413 kw315 kw2414 hdV_X13_evaluatePieces hf hlo
def mt291 : yMt := ([(182, (836, 0))], ([], ([], [])))
theorem rc291 : yRc cq291 13454 2 = true := by decide +kernel
theorem yr291 : yRun gAll t291 b291 cq291 := yRun_p (cuts := u291) (fuel := 300) gAll_tag ruI2_RtI ruJ2_RtJ rqL_ok ⟨zsm_e _ z291_s, List.forall_mem_cons.mpr ⟨zsm_e _ z291_0, yA_n⟩⟩
theorem zw291 : zwid cq291.2.1.1 cq291.1 0 4 = true := by decide +kernel
set_option maxRecDepth 100000 in
theorem yw291 : yRows gAll LAll yt12 mt291 gHo 4 0 (zby cX13_evaluate) p291 b291 p291 = true := by decide +kernel
set_option maxRecDepth 100000 in
theorem m291 (l : Launch) : kMet gAll LAll vwCl rFo rZs rRs rNs rTs l yX13_evaluate cX13_evaluate 4 none 5 118 cq291 := kmet_y2 (rt := 0) (by decide +kernel) yr291 zw291 rfl yw291 LAll_ok LAll_la yt12_ok gHo_ok rfl (fun G n Qf => List.forall_mem_cons.mpr ⟨⟨cq290, rfl, st287 l (by decide) (by decide)⟩, yA_n⟩) rfl (fun G n Rr => yA_n) rfl
/-! 292 Model.evaluateAt (III)V -/
def mt292 : yMt := ([(182, (836, 0))], ([], ([], [])))
theorem rc292 : yRc cq292 13454 3 = true := by decide +kernel
theorem yr292 : yRun gAll t292 b292 cq292 := yRun_p (cuts := u292) (fuel := 300) gAll_tag ruI2_RtI ruJ2_RtJ rqL_ok ⟨zsm_e _ z292_s, List.forall_mem_cons.mpr ⟨zsm_e _ z292_0, yA_n⟩⟩
theorem zw292 : zwid cq292.2.1.1 cq292.1 0 5 = true := by decide +kernel
set_option maxRecDepth 100000 in
theorem yw292 : yRows gAll LAll yt12 mt292 gHo 5 0 (zby cX13_evaluateAt) p292 b292 p292 = true := by decide +kernel
set_option maxRecDepth 100000 in
theorem m292 (l : Launch) : kMet gAll LAll vwCl rFo rZs rRs rNs rTs l yX13_evaluateAt cX13_evaluateAt 5 none 5 118 cq292 := kmet_y2 (rt := 0) (by decide +kernel) yr292 zw292 rfl yw292 LAll_ok LAll_la yt12_ok gHo_ok rfl (fun G n Qf => List.forall_mem_cons.mpr ⟨⟨cq290, rfl, st287 l (by decide) (by decide)⟩, yA_n⟩) rfl (fun G n Rr => yA_n) rfl
/-! 293 Model.ownLine ()I -/
def mt293 : yMt := ([], ([], ([], [])))
theorem rc293 : yRc cq293 13454 0 = true := by decide +kernel
theorem yr293 : yRun gAll t293 b293 cq293 := yRun_p (cuts := u293) (fuel := 300) gAll_tag ruI2_RtI ruJ2_RtJ rqL_ok ⟨zsm_e _ z293_s, List.forall_mem_cons.mpr ⟨zsm_e _ z293_0, yA_n⟩⟩
theorem zw293 : zwid cq293.2.1.1 cq293.1 0 3 = true := by decide +kernel
set_option maxRecDepth 100000 in
theorem yw293 : yRows gAll LAll yt12 mt293 gHo 3 1 (zby cX13_ownLine) p293 b293 p293 = true := by decide +kernel
set_option maxRecDepth 100000 in
theorem m293 (l : Launch) : kMet gAll LAll vwCl rFo rZs rRs rNs rTs l yX13_ownLine cX13_ownLine 3 (some .int) 0 0 cq293 := kmet_y2 (rt := 1) (by decide +kernel) yr293 zw293 rfl yw293 LAll_ok LAll_la yt12_ok gHo_ok rfl (fun G n Qf => yA_n) rfl (fun G n Rr => yA_n) rfl
