/-! METHODS, CALLEES FIRST (written by wip/p2/genmeth.py) -/
/-! 467 Model.perform ()V -/
theorem hdV_X13_arithmetic : yX13_arithmetic.cls = RX13 ∧ yX13_arithmetic.cls ≠ "java/lang/invoke/MethodHandle" ∧ yX13_arithmetic.cls ≠ "java/lang/invoke/VarHandle" ∧ (parseMethodDescriptor yX13_arithmetic.desc).map (fun d => d.parameters.length) = some 2 := by decide +kernel
theorem st436 (l : Launch) {G : rGm} {cc : ByteArray} {nL n fr lo : Nat} {ret : Option FieldType} {Qf : kQf} (hf : 5 ≤ fr) (hlo : 127 ≤ lo) : ySite gAll LAll vwCl rFo rZs rRs rNs rTs G l cc nL RX13 ret fr lo n Qf 182 1492 cq374 := ys_V 2 13454 15 rc374 lo_13454 kc15 (m374 l) kGood kw2687 kw2688 kw2689 kw315 kw2204 hdV_X13_arithmetic hf hlo
theorem hdV_X13_moves : yX13_moves.cls = RX13 ∧ yX13_moves.cls ≠ "java/lang/invoke/MethodHandle" ∧ yX13_moves.cls ≠ "java/lang/invoke/VarHandle" ∧ (parseMethodDescriptor yX13_moves.desc).map (fun d => d.parameters.length) = some 2 := by decide +kernel
theorem st437 (l : Launch) {G : rGm} {cc : ByteArray} {nL n fr lo : Nat} {ret : Option FieldType} {Qf : kQf} (hf : 5 ≤ fr) (hlo : 125 ≤ lo) : ySite gAll LAll vwCl rFo rZs rRs rNs rTs G l cc nL RX13 ret fr lo n Qf 182 1495 cq448 := ys_V 2 13454 15 rc448 lo_13454 kc15 (m448 l) kGood kw2690 kw2691 kw2692 kw315 kw2646 hdV_X13_moves hf hlo
theorem hdV_X13_single : yX13_single.cls = RX13 ∧ yX13_single.cls ≠ "java/lang/invoke/MethodHandle" ∧ yX13_single.cls ≠ "java/lang/invoke/VarHandle" ∧ (parseMethodDescriptor yX13_single.desc).map (fun d => d.parameters.length) = some 2 := by decide +kernel
theorem st438 (l : Launch) {G : rGm} {cc : ByteArray} {nL n fr lo : Nat} {ret : Option FieldType} {Qf : kQf} (hf : 5 ≤ fr) (hlo : 126 ≤ lo) : ySite gAll LAll vwCl rFo rZs rRs rNs rTs G l cc nL RX13 ret fr lo n Qf 182 1498 cq463 := ys_V 2 13454 15 rc463 lo_13454 kc15 (m463 l) kGood kw2693 kw2694 kw2695 kw315 kw2812 hdV_X13_single hf hlo
theorem hdV_X13_multiply : yX13_multiply.cls = RX13 ∧ yX13_multiply.cls ≠ "java/lang/invoke/MethodHandle" ∧ yX13_multiply.cls ≠ "java/lang/invoke/VarHandle" ∧ (parseMethodDescriptor yX13_multiply.desc).map (fun d => d.parameters.length) = some 2 := by decide +kernel
theorem st439 (l : Launch) {G : rGm} {cc : ByteArray} {nL n fr lo : Nat} {ret : Option FieldType} {Qf : kQf} (hf : 5 ≤ fr) (hlo : 129 ≤ lo) : ySite gAll LAll vwCl rFo rZs rRs rNs rTs G l cc nL RX13 ret fr lo n Qf 182 1501 cq449 := ys_V 2 13454 15 rc449 lo_13454 kc15 (m449 l) kGood kw2696 kw2697 kw2698 kw315 kw2647 hdV_X13_multiply hf hlo
theorem hdV_X13_divide : yX13_divide.cls = RX13 ∧ yX13_divide.cls ≠ "java/lang/invoke/MethodHandle" ∧ yX13_divide.cls ≠ "java/lang/invoke/VarHandle" ∧ (parseMethodDescriptor yX13_divide.desc).map (fun d => d.parameters.length) = some 2 := by decide +kernel
theorem st440 (l : Launch) {G : rGm} {cc : ByteArray} {nL n fr lo : Nat} {ret : Option FieldType} {Qf : kQf} (hf : 5 ≤ fr) (hlo : 138 ≤ lo) : ySite gAll LAll vwCl rFo rZs rRs rNs rTs G l cc nL RX13 ret fr lo n Qf 182 1505 cq410 := ys_V 2 13454 15 rc410 lo_13454 kc15 (m410 l) kGood kw2699 kw2700 kw2701 kw315 kw2402 hdV_X13_divide hf hlo
theorem hdV_X13_product : yX13_product.cls = RX13 ∧ yX13_product.cls ≠ "java/lang/invoke/MethodHandle" ∧ yX13_product.cls ≠ "java/lang/invoke/VarHandle" ∧ (parseMethodDescriptor yX13_product.desc).map (fun d => d.parameters.length) = some 1 := by decide +kernel
theorem st441 (l : Launch) {G : rGm} {cc : ByteArray} {nL n fr lo : Nat} {ret : Option FieldType} {Qf : kQf} (hf : 5 ≤ fr) (hlo : 127 ≤ lo) : ySite gAll LAll vwCl rFo rZs rRs rNs rTs G l cc nL RX13 ret fr lo n Qf 182 1508 cq460 := ys_V 1 13454 15 rc460 lo_13454 kc15 (m460 l) kGood kw2702 kw2703 kw2704 kw315 kw2740 hdV_X13_product hf hlo
theorem hdV_X13_shift : yX13_shift.cls = RX13 ∧ yX13_shift.cls ≠ "java/lang/invoke/MethodHandle" ∧ yX13_shift.cls ≠ "java/lang/invoke/VarHandle" ∧ (parseMethodDescriptor yX13_shift.desc).map (fun d => d.parameters.length) = some 2 := by decide +kernel
theorem st442 (l : Launch) {G : rGm} {cc : ByteArray} {nL n fr lo : Nat} {ret : Option FieldType} {Qf : kQf} (hf : 5 ≤ fr) (hlo : 133 ≤ lo) : ySite gAll LAll vwCl rFo rZs rRs rNs rTs G l cc nL RX13 ret fr lo n Qf 182 1511 cq462 := ys_V 2 13454 15 rc462 lo_13454 kc15 (m462 l) kGood kw2705 kw2706 kw2707 kw315 kw2806 hdV_X13_shift hf hlo
theorem hdV_X13_goes : yX13_goes.cls = RX13 ∧ yX13_goes.cls ≠ "java/lang/invoke/MethodHandle" ∧ yX13_goes.cls ≠ "java/lang/invoke/VarHandle" ∧ (parseMethodDescriptor yX13_goes.desc).map (fun d => d.parameters.length) = some 1 := by decide +kernel
theorem st443 (l : Launch) {G : rGm} {cc : ByteArray} {nL n fr lo : Nat} {ret : Option FieldType} {Qf : kQf} (hf : 5 ≤ fr) (hlo : 122 ≤ lo) : ySite gAll LAll vwCl rFo rZs rRs rNs rTs G l cc nL RX13 ret fr lo n Qf 182 1514 cq428 := ys_V 1 13454 15 rc428 lo_13454 kc15 (m428 l) kGood kw2708 kw2709 kw2710 kw315 kw2506 hdV_X13_goes hf hlo
theorem hdV_X13_choose : yX13_choose.cls = RX13 ∧ yX13_choose.cls ≠ "java/lang/invoke/MethodHandle" ∧ yX13_choose.cls ≠ "java/lang/invoke/VarHandle" ∧ (parseMethodDescriptor yX13_choose.desc).map (fun d => d.parameters.length) = some 1 := by decide +kernel
theorem st444 (l : Launch) {G : rGm} {cc : ByteArray} {nL n fr lo : Nat} {ret : Option FieldType} {Qf : kQf} (hf : 5 ≤ fr) (hlo : 124 ≤ lo) : ySite gAll LAll vwCl rFo rZs rRs rNs rTs G l cc nL RX13 ret fr lo n Qf 182 1517 cq402 := ys_V 1 13454 15 rc402 lo_13454 kc15 (m402 l) kGood kw2711 kw2712 kw2713 kw315 kw2329 hdV_X13_choose hf hlo
theorem hdV_X13_spread : yX13_spread.cls = RX13 ∧ yX13_spread.cls ≠ "java/lang/invoke/MethodHandle" ∧ yX13_spread.cls ≠ "java/lang/invoke/VarHandle" ∧ (parseMethodDescriptor yX13_spread.desc).map (fun d => d.parameters.length) = some 2 := by decide +kernel
theorem st445 (l : Launch) {G : rGm} {cc : ByteArray} {nL n fr lo : Nat} {ret : Option FieldType} {Qf : kQf} (hf : 2 ≤ fr) (hlo : 48 ≤ lo) : ySite gAll LAll vwCl rFo rZs rRs rNs rTs G l cc nL RX13 ret fr lo n Qf 182 1520 cq464 := ys_V 2 13454 15 rc464 lo_13454 kc15 (m464 l) kGood kw2714 kw2715 kw2716 kw315 kw2814 hdV_X13_spread hf hlo
theorem hdV_X13_service : yX13_service.cls = RX13 ∧ yX13_service.cls ≠ "java/lang/invoke/MethodHandle" ∧ yX13_service.cls ≠ "java/lang/invoke/VarHandle" ∧ (parseMethodDescriptor yX13_service.desc).map (fun d => d.parameters.length) = some 0 := by decide +kernel
theorem st446 (l : Launch) {G : rGm} {cc : ByteArray} {nL n fr lo : Nat} {ret : Option FieldType} {Qf : kQf} (hf : 4 ≤ fr) (hlo : 107 ≤ lo) : ySite gAll LAll vwCl rFo rZs rRs rNs rTs G l cc nL RX13 ret fr lo n Qf 182 1523 cq461 := ys_V 0 13454 15 rc461 lo_13454 kc15 (m461 l) kGood kw2717 kw2718 kw2719 kw315 kw2793 hdV_X13_service hf hlo
theorem hdV_X13_bits : yX13_bits.cls = RX13 ∧ yX13_bits.cls ≠ "java/lang/invoke/MethodHandle" ∧ yX13_bits.cls ≠ "java/lang/invoke/VarHandle" ∧ (parseMethodDescriptor yX13_bits.desc).map (fun d => d.parameters.length) = some 2 := by decide +kernel
theorem st447 (l : Launch) {G : rGm} {cc : ByteArray} {nL n fr lo : Nat} {ret : Option FieldType} {Qf : kQf} (hf : 5 ≤ fr) (hlo : 125 ≤ lo) : ySite gAll LAll vwCl rFo rZs rRs rNs rTs G l cc nL RX13 ret fr lo n Qf 182 1526 cq381 := ys_V 2 13454 15 rc381 lo_13454 kc15 (m381 l) kGood kw2720 kw2721 kw2722 kw315 kw2266 hdV_X13_bits hf hlo
theorem hdV_X13_together : yX13_together.cls = RX13 ∧ yX13_together.cls ≠ "java/lang/invoke/MethodHandle" ∧ yX13_together.cls ≠ "java/lang/invoke/VarHandle" ∧ (parseMethodDescriptor yX13_together.desc).map (fun d => d.parameters.length) = some 2 := by decide +kernel
theorem st448 (l : Launch) {G : rGm} {cc : ByteArray} {nL n fr lo : Nat} {ret : Option FieldType} {Qf : kQf} (hf : 5 ≤ fr) (hlo : 127 ≤ lo) : ySite gAll LAll vwCl rFo rZs rRs rNs rTs G l cc nL RX13 ret fr lo n Qf 182 1529 cq466 := ys_V 2 13454 15 rc466 lo_13454 kc15 (m466 l) kGood kw2723 kw2724 kw2725 kw315 kw2851 hdV_X13_together hf hlo
theorem hdV_X13_strings : yX13_strings.cls = RX13 ∧ yX13_strings.cls ≠ "java/lang/invoke/MethodHandle" ∧ yX13_strings.cls ≠ "java/lang/invoke/VarHandle" ∧ (parseMethodDescriptor yX13_strings.desc).map (fun d => d.parameters.length) = some 2 := by decide +kernel
theorem st449 (l : Launch) {G : rGm} {cc : ByteArray} {nL n fr lo : Nat} {ret : Option FieldType} {Qf : kQf} (hf : 4 ≤ fr) (hlo : 102 ≤ lo) : ySite gAll LAll vwCl rFo rZs rRs rNs rTs G l cc nL RX13 ret fr lo n Qf 182 1532 cq465 := ys_V 2 13454 15 rc465 lo_13454 kc15 (m465 l) kGood kw2726 kw2727 kw2728 kw315 kw2829 hdV_X13_strings hf hlo
def mt467 : yMt := ([(184, (1150, 0)), (182, (1492, 1)), (182, (1495, 2)), (182, (1498, 3)), (182, (1501, 4)), (182, (1505, 5)), (182, (1508, 6)), (182, (1511, 7)), (182, (1514, 8)), (184, (1183, 9)), (182, (1447, 10)), (182, (1404, 11)), (182, (1517, 12)), (182, (1520, 13)), (182, (1325, 14)), (182, (1523, 15)), (182, (1441, 16)), (182, (1526, 17)), (182, (1529, 18)), (182, (1532, 19))], ([], ([], [])))
theorem rc467 : yRc cq467 13454 0 = true := by decide +kernel
theorem yr467 : yRun gAll t467 b467 cq467 := yRun_p (cuts := u467) (fuel := 300) gAll_tag ruI2_RtI ruJ2_RtJ rqL_ok ⟨zsm_e _ z467_s, List.forall_mem_cons.mpr ⟨zsm_e _ z467_0, yA_n⟩⟩
theorem zw467 : zwid cq467.2.1.1 cq467.1 0 3 = true := by decide +kernel
set_option maxRecDepth 100000 in
theorem yw467 : yRows gAll LAll yt12 mt467 gHo 3 0 (zby cX13_perform) p467 b467 p467 = true := by decide +kernel
set_option maxRecDepth 100000 in
theorem m467 (l : Launch) : kMet gAll LAll vwCl rFo rZs rRs rNs rTs l yX13_perform cX13_perform 3 none 5 138 cq467 := kmet_y2 (rt := 0) (by decide +kernel) yr467 zw467 rfl yw467 LAll_ok LAll_la yt12_ok gHo_ok rfl (fun G n Qf => List.forall_mem_cons.mpr ⟨⟨cq384, rfl, st376 l (by decide) (by decide)⟩, List.forall_mem_cons.mpr ⟨⟨cq374, rfl, st436 l (by decide) (by decide)⟩, List.forall_mem_cons.mpr ⟨⟨cq448, rfl, st437 l (by decide) (by decide)⟩, List.forall_mem_cons.mpr ⟨⟨cq463, rfl, st438 l (by decide) (by decide)⟩, List.forall_mem_cons.mpr ⟨⟨cq449, rfl, st439 l (by decide) (by decide)⟩, List.forall_mem_cons.mpr ⟨⟨cq410, rfl, st440 l (by decide) (by decide)⟩, List.forall_mem_cons.mpr ⟨⟨cq460, rfl, st441 l (by decide) (by decide)⟩, List.forall_mem_cons.mpr ⟨⟨cq462, rfl, st442 l (by decide) (by decide)⟩, List.forall_mem_cons.mpr ⟨⟨cq428, rfl, st443 l (by decide) (by decide)⟩, List.forall_mem_cons.mpr ⟨⟨cq382, rfl, st377 l (by decide) (by decide)⟩, List.forall_mem_cons.mpr ⟨⟨cq401, rfl, st394 l (by decide) (by decide)⟩, List.forall_mem_cons.mpr ⟨⟨cq369, rfl, st369 l (by decide) (by decide)⟩, List.forall_mem_cons.mpr ⟨⟨cq402, rfl, st444 l (by decide) (by decide)⟩, List.forall_mem_cons.mpr ⟨⟨cq464, rfl, st445 l (by decide) (by decide)⟩, List.forall_mem_cons.mpr ⟨⟨cq367, rfl, st358 l (by decide) (by decide)⟩, List.forall_mem_cons.mpr ⟨⟨cq461, rfl, st446 l (by decide) (by decide)⟩, List.forall_mem_cons.mpr ⟨⟨cq426, rfl, st409 l (by decide) (by decide)⟩, List.forall_mem_cons.mpr ⟨⟨cq381, rfl, st447 l (by decide) (by decide)⟩, List.forall_mem_cons.mpr ⟨⟨cq466, rfl, st448 l (by decide) (by decide)⟩, List.forall_mem_cons.mpr ⟨⟨cq465, rfl, st449 l (by decide) (by decide)⟩, yA_n⟩⟩⟩⟩⟩⟩⟩⟩⟩⟩⟩⟩⟩⟩⟩⟩⟩⟩⟩⟩) rfl (fun G n Rr => yA_n) rfl
/-! 468 Model.poke (JI)Z -/
def mt468 : yMt := ([(182, (1321, 0)), (182, (1332, 1))], ([], ([], [])))
theorem rc468 : yRc cq468 13454 2 = true := by decide +kernel
theorem yr468 : yRun gAll t468 b468 cq468 := yRun_z gAll_tag ruI2_RtI ruJ2_RtJ rqL_ok z468
theorem zw468 : zwid cq468.2.1.1 cq468.1 0 5 = true := by decide +kernel
set_option maxRecDepth 100000 in
theorem yw468 : yRows gAll LAll yt12 mt468 gHo 5 3 (zby cX13_poke) p468 b468 p468 = true := by decide +kernel
set_option maxRecDepth 100000 in
theorem m468 (l : Launch) : kMet gAll LAll vwCl rFo rZs rRs rNs rTs l yX13_poke cX13_poke 5 (some .boolean) 2 49 cq468 := kmet_y2 (rt := 3) (by decide +kernel) yr468 zw468 rfl yw468 LAll_ok LAll_la yt12_ok gHo_ok rfl (fun G n Qf => List.forall_mem_cons.mpr ⟨⟨cq365, rfl, st357 l (by decide) (by decide)⟩, List.forall_mem_cons.mpr ⟨⟨cq366, rfl, st359 l (by decide) (by decide)⟩, yA_n⟩⟩) rfl (fun G n Rr => yA_n) rfl
/-! 469 Model.readToken (I)I -/
theorem hdV_X13_numberToken : yX13_numberToken.cls = RX13 ∧ yX13_numberToken.cls ≠ "java/lang/invoke/MethodHandle" ∧ yX13_numberToken.cls ≠ "java/lang/invoke/VarHandle" ∧ (parseMethodDescriptor yX13_numberToken.desc).map (fun d => d.parameters.length) = some 1 := by decide +kernel
theorem st450 (l : Launch) {G : rGm} {cc : ByteArray} {nL n fr lo : Nat} {ret : Option FieldType} {Qf : kQf} (hf : 3 ≤ fr) (hlo : 74 ≤ lo) : ySite gAll LAll vwCl rFo rZs rRs rNs rTs G l cc nL RX13 ret fr lo n Qf 182 720 cq455 := ys_V 1 13454 15 rc455 lo_13454 kc15 (m455 l) kGood kw2781 kw2782 kw2783 kw315 kw2658 hdV_X13_numberToken hf hlo
theorem st451 (l : Launch) {G : rGm} {cc : ByteArray} {nL n fr lo : Nat} {ret : Option FieldType} {Qf : kQf} (hf : 3 ≤ fr) (hlo : 66 ≤ lo) : ySite gAll LAll vwCl rFo rZs rRs rNs rTs G l cc nL RX13 ret fr lo n Qf 184 641 cq458 := ys_S 3 rfl (m458 l) kGood kw2483 kw2484 kw315 kw2485 hdS_X13_packed hf hlo
def mt469 : yMt := ([(184, (618, 0)), (182, (720, 1)), (184, (614, 2)), (184, (621, 3)), (184, (641, 4)), (182, (717, 5)), (182, (723, 6))], ([], ([], [])))
theorem rc469 : yRc cq469 13454 1 = true := by decide +kernel
theorem yr469 : yRun gAll t469 b469 cq469 := yRun_p (cuts := u469) (fuel := 300) gAll_tag ruI2_RtI ruJ2_RtJ rqL_ok ⟨zsm_e _ z469_s, List.forall_mem_cons.mpr ⟨zsm_e _ z469_0, List.forall_mem_cons.mpr ⟨zsm_e _ z469_1, List.forall_mem_cons.mpr ⟨zsm_e _ z469_2, List.forall_mem_cons.mpr ⟨zsm_e _ z469_3, yA_n⟩⟩⟩⟩⟩
theorem zw469 : zwid cq469.2.1.1 cq469.1 0 5 = true := by decide +kernel
set_option maxRecDepth 100000 in
theorem yw469 : yRows gAll LAll yt12 mt469 gHo 5 1 (zby cX13_readToken) p469 b469 p469 = true := by decide +kernel
set_option maxRecDepth 100000 in
theorem m469 (l : Launch) : kMet gAll LAll vwCl rFo rZs rRs rNs rTs l yX13_readToken cX13_readToken 5 (some .int) 3 74 cq469 := kmet_y2 (rt := 1) (by decide +kernel) yr469 zw469 rfl yw469 LAll_ok LAll_la yt12_ok gHo_ok rfl (fun G n Qf => List.forall_mem_cons.mpr ⟨⟨cq341, rfl, st333 l (by decide) (by decide)⟩, List.forall_mem_cons.mpr ⟨⟨cq455, rfl, st450 l (by decide) (by decide)⟩, List.forall_mem_cons.mpr ⟨⟨cq342, rfl, st332 l (by decide) (by decide)⟩, List.forall_mem_cons.mpr ⟨⟨cq343, rfl, st334 l (by decide) (by decide)⟩, List.forall_mem_cons.mpr ⟨⟨cq458, rfl, st451 l (by decide) (by decide)⟩, List.forall_mem_cons.mpr ⟨⟨cq454, rfl, st432 l (by decide) (by decide)⟩, List.forall_mem_cons.mpr ⟨⟨cq304, rfl, st295 l (by decide) (by decide)⟩, yA_n⟩⟩⟩⟩⟩⟩⟩) rfl (fun G n Rr => yA_n) rfl
/-! 470 Model.readTokens ()V -/
theorem hdV_X13_readToken : yX13_readToken.cls = RX13 ∧ yX13_readToken.cls ≠ "java/lang/invoke/MethodHandle" ∧ yX13_readToken.cls ≠ "java/lang/invoke/VarHandle" ∧ (parseMethodDescriptor yX13_readToken.desc).map (fun d => d.parameters.length) = some 1 := by decide +kernel
theorem st452 (l : Launch) {G : rGm} {cc : ByteArray} {nL n fr lo : Nat} {ret : Option FieldType} {Qf : kQf} (hf : 4 ≤ fr) (hlo : 98 ≤ lo) : ySite gAll LAll vwCl rFo rZs rRs rNs rTs G l cc nL RX13 ret fr lo n Qf 182 730 cq469 := ys_V 1 13454 15 rc469 lo_13454 kc15 (m469 l) kGood kw2777 kw2778 kw2779 kw315 kw2780 hdV_X13_readToken hf hlo
def mt470 : yMt := ([(182, (730, 0)), (182, (678, 1)), (182, (717, 2))], ([], ([], [])))
theorem rc470 : yRc cq470 13454 0 = true := by decide +kernel
theorem yr470 : yRun gAll t470 b470 cq470 := yRun_p (cuts := u470) (fuel := 300) gAll_tag ruI2_RtI ruJ2_RtJ rqL_ok ⟨zsm_e _ z470_s, List.forall_mem_cons.mpr ⟨zsm_e _ z470_0, yA_n⟩⟩
theorem zw470 : zwid cq470.2.1.1 cq470.1 0 3 = true := by decide +kernel
set_option maxRecDepth 100000 in
theorem yw470 : yRows gAll LAll yt12 mt470 gHo 3 0 (zby cX13_readTokens) p470 b470 p470 = true := by decide +kernel
set_option maxRecDepth 100000 in
theorem m470 (l : Launch) : kMet gAll LAll vwCl rFo rZs rRs rNs rTs l yX13_readTokens cX13_readTokens 3 none 4 98 cq470 := kmet_y2 (rt := 0) (by decide +kernel) yr470 zw470 rfl yw470 LAll_ok LAll_la yt12_ok gHo_ok rfl (fun G n Qf => List.forall_mem_cons.mpr ⟨⟨cq469, rfl, st452 l (by decide) (by decide)⟩, List.forall_mem_cons.mpr ⟨⟨cq294, rfl, st299 l (by decide) (by decide)⟩, List.forall_mem_cons.mpr ⟨⟨cq454, rfl, st432 l (by decide) (by decide)⟩, yA_n⟩⟩⟩) rfl (fun G n Rr => yA_n) rfl
/-! 471 Model.room ()V -/
def mt471 : yMt := ([(182, (678, 0))], ([], ([], [])))
theorem rc471 : yRc cq471 13454 0 = true := by decide +kernel
theorem yr471 : yRun gAll t471 b471 cq471 := yRun_z gAll_tag ruI2_RtI ruJ2_RtJ rqL_ok z471
theorem zw471 : zwid cq471.2.1.1 cq471.1 0 1 = true := by decide +kernel
set_option maxRecDepth 100000 in
theorem yw471 : yRows gAll LAll yt12 mt471 gHo 1 0 (zby cX13_room) p471 b471 p471 = true := by decide +kernel
set_option maxRecDepth 100000 in
theorem m471 (l : Launch) : kMet gAll LAll vwCl rFo rZs rRs rNs rTs l yX13_room cX13_room 1 none 2 43 cq471 := kmet_y2 (rt := 0) (by decide +kernel) yr471 zw471 rfl yw471 LAll_ok LAll_la yt12_ok gHo_ok rfl (fun G n Qf => List.forall_mem_cons.mpr ⟨⟨cq294, rfl, st299 l (by decide) (by decide)⟩, yA_n⟩) rfl (fun G n Rr => yA_n) rfl
/-! 472 Model.readLine ()V -/
theorem hdV_X13_expand : yX13_expand.cls = RX13 ∧ yX13_expand.cls ≠ "java/lang/invoke/MethodHandle" ∧ yX13_expand.cls ≠ "java/lang/invoke/VarHandle" ∧ (parseMethodDescriptor yX13_expand.desc).map (fun d => d.parameters.length) = some 0 := by decide +kernel
theorem st453 (l : Launch) {G : rGm} {cc : ByteArray} {nL n fr lo : Nat} {ret : Option FieldType} {Qf : kQf} (hf : 4 ≤ fr) (hlo : 95 ≤ lo) : ySite gAll LAll vwCl rFo rZs rRs rNs rTs G l cc nL RX13 ret fr lo n Qf 182 854 cq413 := ys_V 0 13454 15 rc413 lo_13454 kc15 (m413 l) kGood kw2757 kw2758 kw2759 kw315 kw2427 hdV_X13_expand hf hlo
theorem hdV_X13_readTokens : yX13_readTokens.cls = RX13 ∧ yX13_readTokens.cls ≠ "java/lang/invoke/MethodHandle" ∧ yX13_readTokens.cls ≠ "java/lang/invoke/VarHandle" ∧ (parseMethodDescriptor yX13_readTokens.desc).map (fun d => d.parameters.length) = some 0 := by decide +kernel
theorem st454 (l : Launch) {G : rGm} {cc : ByteArray} {nL n fr lo : Nat} {ret : Option FieldType} {Qf : kQf} (hf : 5 ≤ fr) (hlo : 120 ≤ lo) : ySite gAll LAll vwCl rFo rZs rRs rNs rTs G l cc nL RX13 ret fr lo n Qf 182 857 cq470 := ys_V 0 13454 15 rc470 lo_13454 kc15 (m470 l) kGood kw2760 kw2761 kw2762 kw315 kw2776 hdV_X13_readTokens hf hlo
theorem hdV_X13_nesting : yX13_nesting.cls = RX13 ∧ yX13_nesting.cls ≠ "java/lang/invoke/MethodHandle" ∧ yX13_nesting.cls ≠ "java/lang/invoke/VarHandle" ∧ (parseMethodDescriptor yX13_nesting.desc).map (fun d => d.parameters.length) = some 3 := by decide +kernel
theorem st455 (l : Launch) {G : rGm} {cc : ByteArray} {nL n fr lo : Nat} {ret : Option FieldType} {Qf : kQf} (hf : 6 ≤ fr) (hlo : 146 ≤ lo) : ySite gAll LAll vwCl rFo rZs rRs rNs rTs G l cc nL RX13 ret fr lo n Qf 182 867 cq452 := ys_V 3 13454 15 rc452 lo_13454 kc15 (m452 l) kGood kw2763 kw2764 kw2765 kw315 kw2651 hdV_X13_nesting hf hlo
theorem hdV_X13_labels : yX13_labels.cls = RX13 ∧ yX13_labels.cls ≠ "java/lang/invoke/MethodHandle" ∧ yX13_labels.cls ≠ "java/lang/invoke/VarHandle" ∧ (parseMethodDescriptor yX13_labels.desc).map (fun d => d.parameters.length) = some 2 := by decide +kernel
theorem st456 (l : Launch) {G : rGm} {cc : ByteArray} {nL n fr lo : Nat} {ret : Option FieldType} {Qf : kQf} (hf : 5 ≤ fr) (hlo : 114 ≤ lo) : ySite gAll LAll vwCl rFo rZs rRs rNs rTs G l cc nL RX13 ret fr lo n Qf 182 870 cq440 := ys_V 2 13454 15 rc440 lo_13454 kc15 (m440 l) kGood kw2766 kw2767 kw2768 kw315 kw2597 hdV_X13_labels hf hlo
theorem hdV_X13_act : yX13_act.cls = RX13 ∧ yX13_act.cls ≠ "java/lang/invoke/MethodHandle" ∧ yX13_act.cls ≠ "java/lang/invoke/VarHandle" ∧ (parseMethodDescriptor yX13_act.desc).map (fun d => d.parameters.length) = some 3 := by decide +kernel
theorem st457 (l : Launch) {G : rGm} {cc : ByteArray} {nL n fr lo : Nat} {ret : Option FieldType} {Qf : kQf} (hf : 9 ≤ fr) (hlo : 226 ≤ lo) : ySite gAll LAll vwCl rFo rZs rRs rNs rTs G l cc nL RX13 ret fr lo n Qf 182 874 cq351 := ys_V 3 13454 15 rc351 lo_13454 kc15 (m351 l) kGood kw2769 kw2770 kw2771 kw315 kw2151 hdV_X13_act hf hlo
theorem hdV_X13_room : yX13_room.cls = RX13 ∧ yX13_room.cls ≠ "java/lang/invoke/MethodHandle" ∧ yX13_room.cls ≠ "java/lang/invoke/VarHandle" ∧ (parseMethodDescriptor yX13_room.desc).map (fun d => d.parameters.length) = some 0 := by decide +kernel
theorem st458 (l : Launch) {G : rGm} {cc : ByteArray} {nL n fr lo : Nat} {ret : Option FieldType} {Qf : kQf} (hf : 3 ≤ fr) (hlo : 63 ≤ lo) : ySite gAll LAll vwCl rFo rZs rRs rNs rTs G l cc nL RX13 ret fr lo n Qf 182 877 cq471 := ys_V 0 13454 15 rc471 lo_13454 kc15 (m471 l) kGood kw2772 kw2773 kw2774 kw315 kw2789 hdV_X13_room hf hlo
def mt472 : yMt := ([(182, (678, 0)), (182, (854, 1)), (182, (857, 2)), (182, (860, 3)), (182, (797, 4)), (182, (863, 5)), (182, (645, 6)), (182, (769, 7)), (182, (760, 8)), (182, (867, 9)), (182, (870, 10)), (182, (874, 11)), (182, (877, 12))], ([], ([], [])))
theorem rc472 : yRc cq472 13454 0 = true := by decide +kernel
theorem yr472 : yRun gAll t472 b472 cq472 := yRun_p (cuts := u472) (fuel := 300) gAll_tag ruI2_RtI ruJ2_RtJ rqL_ok ⟨zsm_e _ z472_s, List.forall_mem_cons.mpr ⟨zsm_e _ z472_0, List.forall_mem_cons.mpr ⟨zsm_e _ z472_1, List.forall_mem_cons.mpr ⟨zsm_e _ z472_2, yA_n⟩⟩⟩⟩
theorem zw472 : zwid cq472.2.1.1 cq472.1 0 5 = true := by decide +kernel
set_option maxRecDepth 100000 in
theorem yw472 : yRows gAll LAll yt12 mt472 gHo 5 0 (zby cX13_readLine) p472 b472 p472 = true := by decide +kernel
set_option maxRecDepth 100000 in
theorem m472 (l : Launch) : kMet gAll LAll vwCl rFo rZs rRs rNs rTs l yX13_readLine cX13_readLine 5 none 9 226 cq472 := kmet_y2 (rt := 0) (by decide +kernel) yr472 zw472 rfl yw472 LAll_ok LAll_la yt12_ok gHo_ok rfl (fun G n Qf => List.forall_mem_cons.mpr ⟨⟨cq294, rfl, st299 l (by decide) (by decide)⟩, List.forall_mem_cons.mpr ⟨⟨cq413, rfl, st453 l (by decide) (by decide)⟩, List.forall_mem_cons.mpr ⟨⟨cq470, rfl, st454 l (by decide) (by decide)⟩, List.forall_mem_cons.mpr ⟨⟨cq330, rfl, st323 l (by decide) (by decide)⟩, List.forall_mem_cons.mpr ⟨⟨cq296, rfl, st289 l (by decide) (by decide)⟩, List.forall_mem_cons.mpr ⟨⟨cq331, rfl, st322 l (by decide) (by decide)⟩, List.forall_mem_cons.mpr ⟨⟨cq299, rfl, st290 l (by decide) (by decide)⟩, List.forall_mem_cons.mpr ⟨⟨cq436, rfl, st414 l (by decide) (by decide)⟩, List.forall_mem_cons.mpr ⟨⟨cq433, rfl, st413 l (by decide) (by decide)⟩, List.forall_mem_cons.mpr ⟨⟨cq452, rfl, st455 l (by decide) (by decide)⟩, List.forall_mem_cons.mpr ⟨⟨cq440, rfl, st456 l (by decide) (by decide)⟩, List.forall_mem_cons.mpr ⟨⟨cq351, rfl, st457 l (by decide) (by decide)⟩, List.forall_mem_cons.mpr ⟨⟨cq471, rfl, st458 l (by decide) (by decide)⟩, yA_n⟩⟩⟩⟩⟩⟩⟩⟩⟩⟩⟩⟩⟩) rfl (fun G n Rr => yA_n) rfl
/-! 473 Model.register (I)J -/
def mt473 : yMt := ([(182, (1469, 0)), (182, (1305, 1))], ([], ([], [])))
theorem rc473 : yRc cq473 13454 1 = true := by decide +kernel
theorem yr473 : yRun gAll t473 b473 cq473 := yRun_z gAll_tag ruI2_RtI ruJ2_RtJ rqL_ok z473
theorem zw473 : zwid cq473.2.1.1 cq473.1 0 2 = true := by decide +kernel
set_option maxRecDepth 100000 in
theorem yw473 : yRows gAll LAll yt12 mt473 gHo 2 2 (zby cX13_register) p473 b473 p473 = true := by decide +kernel
set_option maxRecDepth 100000 in
theorem m473 (l : Launch) : kMet gAll LAll vwCl rFo rZs rRs rNs rTs l yX13_register cX13_register 2 (some .long) 1 20 cq473 := kmet_y2 (rt := 2) (by decide +kernel) yr473 zw473 rfl yw473 LAll_ok LAll_la yt12_ok gHo_ok rfl (fun G n Qf => List.forall_mem_cons.mpr ⟨⟨cq425, rfl, st433 l (by decide) (by decide)⟩, List.forall_mem_cons.mpr ⟨⟨cq364, rfl, st356 l (by decide) (by decide)⟩, yA_n⟩⟩) rfl (fun G n Rr => yA_n) rfl
/-! 474 Model.step ()Z -/
theorem st459 (l : Launch) {G : rGm} {cc : ByteArray} {nL n fr lo : Nat} {ret : Option FieldType} {Qf : kQf} (hf : 1 ≤ fr) (hlo : 25 ≤ lo) : ySite gAll LAll vwCl rFo rZs rRs rNs rTs G l cc nL RX13 ret fr lo n Qf 182 1277 cq277 := ys_V 1 13592 14 rc277 lo_13592 kc14 (m277 l) kGood kw2297 kw2298 kw2299 kw536 kw2141 hdV_X12_at hf hlo
theorem hdV_X13_perform : yX13_perform.cls = RX13 ∧ yX13_perform.cls ≠ "java/lang/invoke/MethodHandle" ∧ yX13_perform.cls ≠ "java/lang/invoke/VarHandle" ∧ (parseMethodDescriptor yX13_perform.desc).map (fun d => d.parameters.length) = some 0 := by decide +kernel
theorem st460 (l : Launch) {G : rGm} {cc : ByteArray} {nL n fr lo : Nat} {ret : Option FieldType} {Qf : kQf} (hf : 6 ≤ fr) (hlo : 160 ≤ lo) : ySite gAll LAll vwCl rFo rZs rRs rNs rTs G l cc nL RX13 ret fr lo n Qf 182 1541 cq467 := ys_V 0 13454 15 rc467 lo_13454 kc15 (m467 l) kGood kw2824 kw2825 kw2826 kw315 kw2686 hdV_X13_perform hf hlo
def mt474 : yMt := ([(182, (1277, 0)), (182, (1469, 1)), (184, (1464, 2)), (182, (1406, 3)), (182, (1541, 4)), (182, (1547, 5))], ([], ([], [])))
theorem rc474 : yRc cq474 13454 0 = true := by decide +kernel
theorem yr474 : yRun gAll t474 b474 cq474 := yRun_p (cuts := u474) (fuel := 300) gAll_tag ruI2_RtI ruJ2_RtJ rqL_ok ⟨zsm_e _ z474_s, List.forall_mem_cons.mpr ⟨zsm_e _ z474_0, List.forall_mem_cons.mpr ⟨zsm_e _ z474_1, yA_n⟩⟩⟩
theorem zw474 : zwid cq474.2.1.1 cq474.1 0 6 = true := by decide +kernel
set_option maxRecDepth 100000 in
theorem yw474 : yRows gAll LAll yt12 mt474 gHo 6 3 (zby cX13_step) p474 b474 p474 = true := by decide +kernel
set_option maxRecDepth 100000 in
theorem m474 (l : Launch) : kMet gAll LAll vwCl rFo rZs rRs rNs rTs l yX13_step cX13_step 6 (some .boolean) 6 160 cq474 := kmet_y2 (rt := 3) (by decide +kernel) yr474 zw474 rfl yw474 LAll_ok LAll_la yt12_ok gHo_ok rfl (fun G n Qf => List.forall_mem_cons.mpr ⟨⟨cq277, rfl, st459 l (by decide) (by decide)⟩, List.forall_mem_cons.mpr ⟨⟨cq425, rfl, st433 l (by decide) (by decide)⟩, List.forall_mem_cons.mpr ⟨⟨cq400, rfl, st435 l (by decide) (by decide)⟩, List.forall_mem_cons.mpr ⟨⟨cq358, rfl, st410 l (by decide) (by decide)⟩, List.forall_mem_cons.mpr ⟨⟨cq467, rfl, st460 l (by decide) (by decide)⟩, List.forall_mem_cons.mpr ⟨⟨cq445, rfl, st427 l (by decide) (by decide)⟩, yA_n⟩⟩⟩⟩⟩⟩) rfl (fun G n Rr => yA_n) rfl
/-! 475 Model.run (I)I -/
theorem hdV_X13_isPlace : yX13_isPlace.cls = RX13 ∧ yX13_isPlace.cls ≠ "java/lang/invoke/MethodHandle" ∧ yX13_isPlace.cls ≠ "java/lang/invoke/VarHandle" ∧ (parseMethodDescriptor yX13_isPlace.desc).map (fun d => d.parameters.length) = some 1 := by decide +kernel
theorem st461 (l : Launch) {G : rGm} {cc : ByteArray} {nL n fr lo : Nat} {ret : Option FieldType} {Qf : kQf} (hf : 1 ≤ fr) (hlo : 23 ≤ lo) : ySite gAll LAll vwCl rFo rZs rRs rNs rTs G l cc nL RX13 ret fr lo n Qf 182 1559 cq438 := ys_V 1 13454 15 rc438 lo_13454 kc15 (m438 l) kGood kw890 kw891 kw892 kw315 kw889 hdV_X13_isPlace hf hlo
theorem hdV_X13_step : yX13_step.cls = RX13 ∧ yX13_step.cls ≠ "java/lang/invoke/MethodHandle" ∧ yX13_step.cls ≠ "java/lang/invoke/VarHandle" ∧ (parseMethodDescriptor yX13_step.desc).map (fun d => d.parameters.length) = some 0 := by decide +kernel
theorem st462 (l : Launch) {G : rGm} {cc : ByteArray} {nL n fr lo : Nat} {ret : Option FieldType} {Qf : kQf} (hf : 7 ≤ fr) (hlo : 185 ≤ lo) : ySite gAll LAll vwCl rFo rZs rRs rNs rTs G l cc nL RX13 ret fr lo n Qf 182 1563 cq474 := ys_V 0 13454 15 rc474 lo_13454 kc15 (m474 l) kGood kw2790 kw2791 kw2792 kw315 kw2820 hdV_X13_step hf hlo
def mt475 : yMt := ([(182, (1180, 0)), (182, (1559, 1)), (182, (1563, 2))], ([], ([], [])))
theorem rc475 : yRc cq475 13454 1 = true := by decide +kernel
theorem yr475 : yRun gAll t475 b475 cq475 := yRun_p (cuts := u475) (fuel := 300) gAll_tag ruI2_RtI ruJ2_RtJ rqL_ok ⟨zsm_e _ z475_s, List.forall_mem_cons.mpr ⟨zsm_e _ z475_0, yA_n⟩⟩
theorem zw475 : zwid cq475.2.1.1 cq475.1 0 3 = true := by decide +kernel
set_option maxRecDepth 100000 in
theorem yw475 : yRows gAll LAll yt12 mt475 gHo 3 1 (zby cX13_run) p475 b475 p475 = true := by decide +kernel
set_option maxRecDepth 100000 in
theorem m475 (l : Launch) : kMet gAll LAll vwCl rFo rZs rRs rNs rTs l yX13_run cX13_run 3 (some .int) 7 185 cq475 := kmet_y2 (rt := 1) (by decide +kernel) yr475 zw475 rfl yw475 LAll_ok LAll_la yt12_ok gHo_ok rfl (fun G n Qf => List.forall_mem_cons.mpr ⟨⟨cq414, rfl, st402 l (by decide) (by decide)⟩, List.forall_mem_cons.mpr ⟨⟨cq438, rfl, st461 l (by decide) (by decide)⟩, List.forall_mem_cons.mpr ⟨⟨cq474, rfl, st462 l (by decide) (by decide)⟩, yA_n⟩⟩⟩) rfl (fun G n Rr => yA_n) rfl
/-! 476 Model.set (IJ)Z -/
def mt476 : yMt := ([], ([], ([], [])))
theorem rc476 : yRc cq476 13454 2 = true := by decide +kernel
theorem yr476 : yRun gAll t476 b476 cq476 := yRun_z gAll_tag ruI2_RtI ruJ2_RtJ rqL_ok z476
theorem zw476 : zwid cq476.2.1.1 cq476.1 0 4 = true := by decide +kernel
set_option maxRecDepth 100000 in
theorem yw476 : yRows gAll LAll yt12 mt476 gHo 4 3 (zby cX13_set) p476 b476 p476 = true := by decide +kernel
set_option maxRecDepth 100000 in
theorem m476 (l : Launch) : kMet gAll LAll vwCl rFo rZs rRs rNs rTs l yX13_set cX13_set 4 (some .boolean) 0 0 cq476 := kmet_y2 (rt := 3) (by decide +kernel) yr476 zw476 rfl yw476 LAll_ok LAll_la yt12_ok gHo_ok rfl (fun G n Qf => yA_n) rfl (fun G n Rr => yA_n) rfl
/-! 477 Model.size (II)I -/
def mt477 : yMt := ([(182, (1180, 0))], ([], ([], [])))
theorem rc477 : yRc cq477 13454 2 = true := by decide +kernel
theorem yr477 : yRun gAll t477 b477 cq477 := yRun_z gAll_tag ruI2_RtI ruJ2_RtJ rqL_ok z477
theorem zw477 : zwid cq477.2.1.1 cq477.1 0 3 = true := by decide +kernel
set_option maxRecDepth 100000 in
theorem yw477 : yRows gAll LAll yt12 mt477 gHo 3 1 (zby cX13_size) p477 b477 p477 = true := by decide +kernel
set_option maxRecDepth 100000 in
theorem m477 (l : Launch) : kMet gAll LAll vwCl rFo rZs rRs rNs rTs l yX13_size cX13_size 3 (some .int) 1 22 cq477 := kmet_y2 (rt := 1) (by decide +kernel) yr477 zw477 rfl yw477 LAll_ok LAll_la yt12_ok gHo_ok rfl (fun G n Qf => List.forall_mem_cons.mpr ⟨⟨cq414, rfl, st402 l (by decide) (by decide)⟩, yA_n⟩) rfl (fun G n Rr => yA_n) rfl
/-! 478 Model.stop (I)J -/
def mt478 : yMt := ([], ([], ([], [])))
theorem rc478 : yRc cq478 13454 1 = true := by decide +kernel
theorem yr478 : yRun gAll t478 b478 cq478 := yRun_z gAll_tag ruI2_RtI ruJ2_RtJ rqL_ok z478
theorem zw478 : zwid cq478.2.1.1 cq478.1 0 2 = true := by decide +kernel
set_option maxRecDepth 100000 in
theorem yw478 : yRows gAll LAll yt12 mt478 gHo 2 2 (zby cX13_stop) p478 b478 p478 = true := by decide +kernel
set_option maxRecDepth 100000 in
theorem m478 (l : Launch) : kMet gAll LAll vwCl rFo rZs rRs rNs rTs l yX13_stop cX13_stop 2 (some .long) 0 0 cq478 := kmet_y2 (rt := 2) (by decide +kernel) yr478 zw478 rfl yw478 LAll_ok LAll_la yt12_ok gHo_ok rfl (fun G n Qf => yA_n) rfl (fun G n Rr => yA_n) rfl
/-! 479 Model.stopAt (JZ)Z -/
def mt479 : yMt := ([(182, (1559, 0))], ([], ([], [])))
theorem rc479 : yRc cq479 13454 2 = true := by decide +kernel
theorem yr479 : yRun gAll t479 b479 cq479 := yRun_p (cuts := u479) (fuel := 300) gAll_tag ruI2_RtI ruJ2_RtJ rqL_ok ⟨zsm_e _ z479_s, List.forall_mem_cons.mpr ⟨zsm_e _ z479_0, yA_n⟩⟩
theorem zw479 : zwid cq479.2.1.1 cq479.1 0 5 = true := by decide +kernel
set_option maxRecDepth 100000 in
theorem yw479 : yRows gAll LAll yt12 mt479 gHo 5 3 (zby cX13_stopAt) p479 b479 p479 = true := by decide +kernel
set_option maxRecDepth 100000 in
theorem m479 (l : Launch) : kMet gAll LAll vwCl rFo rZs rRs rNs rTs l yX13_stopAt cX13_stopAt 5 (some .boolean) 1 23 cq479 := kmet_y2 (rt := 3) (by decide +kernel) yr479 zw479 rfl yw479 LAll_ok LAll_la yt12_ok gHo_ok rfl (fun G n Qf => List.forall_mem_cons.mpr ⟨⟨cq438, rfl, st461 l (by decide) (by decide)⟩, yA_n⟩) rfl (fun G n Rr => yA_n) rfl
/-! 480 Model.symbol (I)J -/
def mt480 : yMt := ([(182, (1159, 0))], ([], ([], [])))
theorem rc480 : yRc cq480 13454 1 = true := by decide +kernel
theorem yr480 : yRun gAll t480 b480 cq480 := yRun_p (cuts := u480) (fuel := 300) gAll_tag ruI2_RtI ruJ2_RtJ rqL_ok ⟨zsm_e _ z480_s, List.forall_mem_cons.mpr ⟨zsm_e _ z480_0, List.forall_mem_cons.mpr ⟨zsm_e _ z480_1, yA_n⟩⟩⟩
theorem zw480 : zwid cq480.2.1.1 cq480.1 0 6 = true := by decide +kernel
set_option maxRecDepth 100000 in
theorem yw480 : yRows gAll LAll yt12 mt480 gHo 6 2 (zby cX13_symbol) p480 b480 p480 = true := by decide +kernel
set_option maxRecDepth 100000 in
theorem m480 (l : Launch) : kMet gAll LAll vwCl rFo rZs rRs rNs rTs l yX13_symbol cX13_symbol 6 (some .long) 1 21 cq480 := kmet_y2 (rt := 2) (by decide +kernel) yr480 zw480 rfl yw480 LAll_ok LAll_la yt12_ok gHo_ok rfl (fun G n Qf => List.forall_mem_cons.mpr ⟨⟨cq431, rfl, st412 l (by decide) (by decide)⟩, yA_n⟩) rfl (fun G n Rr => yA_n) rfl
/-! 481 Model.unit (IZ)I -/
theorem hdV_X13_nextLine : yX13_nextLine.cls = RX13 ∧ yX13_nextLine.cls ≠ "java/lang/invoke/MethodHandle" ∧ yX13_nextLine.cls ≠ "java/lang/invoke/VarHandle" ∧ (parseMethodDescriptor yX13_nextLine.desc).map (fun d => d.parameters.length) = some 0 := by decide +kernel
theorem st463 (l : Launch) {G : rGm} {cc : ByteArray} {nL n fr lo : Nat} {ret : Option FieldType} {Qf : kQf} (hf : 3 ≤ fr) (hlo : 64 ≤ lo) : ySite gAll LAll vwCl rFo rZs rRs rNs rTs G l cc nL RX13 ret fr lo n Qf 182 1165 cq453 := ys_V 0 13454 15 rc453 lo_13454 kc15 (m453 l) kGood kw834 kw835 kw836 kw315 kw833 hdV_X13_nextLine hf hlo
theorem hdV_X13_readLine : yX13_readLine.cls = RX13 ∧ yX13_readLine.cls ≠ "java/lang/invoke/MethodHandle" ∧ yX13_readLine.cls ≠ "java/lang/invoke/VarHandle" ∧ (parseMethodDescriptor yX13_readLine.desc).map (fun d => d.parameters.length) = some 0 := by decide +kernel
theorem st464 (l : Launch) {G : rGm} {cc : ByteArray} {nL n fr lo : Nat} {ret : Option FieldType} {Qf : kQf} (hf : 10 ≤ fr) (hlo : 250 ≤ lo) : ySite gAll LAll vwCl rFo rZs rRs rNs rTs G l cc nL RX13 ret fr lo n Qf 182 1168 cq472 := ys_V 0 13454 15 rc472 lo_13454 kc15 (m472 l) kGood kw2864 kw2865 kw2866 kw315 kw2756 hdV_X13_readLine hf hlo
theorem hdV_X13_finish : yX13_finish.cls = RX13 ∧ yX13_finish.cls ≠ "java/lang/invoke/MethodHandle" ∧ yX13_finish.cls ≠ "java/lang/invoke/VarHandle" ∧ (parseMethodDescriptor yX13_finish.desc).map (fun d => d.parameters.length) = some 0 := by decide +kernel
theorem st465 (l : Launch) {G : rGm} {cc : ByteArray} {nL n fr lo : Nat} {ret : Option FieldType} {Qf : kQf} (hf : 4 ≤ fr) (hlo : 92 ≤ lo) : ySite gAll LAll vwCl rFo rZs rRs rNs rTs G l cc nL RX13 ret fr lo n Qf 182 1171 cq424 := ys_V 0 13454 15 rc424 lo_13454 kc15 (m424 l) kGood kw838 kw839 kw840 kw315 kw837 hdV_X13_finish hf hlo
def mt481 : yMt := ([(182, (1159, 0)), (182, (1165, 1)), (182, (1168, 2)), (182, (1171, 3)), (182, (1180, 4))], ([], ([], [])))
theorem rc481 : yRc cq481 13454 2 = true := by decide +kernel
theorem yr481 : yRun gAll t481 b481 cq481 := yRun_p (cuts := u481) (fuel := 300) gAll_tag ruI2_RtI ruJ2_RtJ rqL_ok ⟨zsm_e _ z481_s, List.forall_mem_cons.mpr ⟨zsm_e _ z481_0, List.forall_mem_cons.mpr ⟨zsm_e _ z481_1, yA_n⟩⟩⟩
theorem zw481 : zwid cq481.2.1.1 cq481.1 0 11 = true := by decide +kernel
set_option maxRecDepth 100000 in
theorem yw481 : yRows gAll LAll yt12 mt481 gHo 11 1 (zby cX13_unit) p481 b481 p481 = true := by decide +kernel
set_option maxRecDepth 100000 in
theorem m481 (l : Launch) : kMet gAll LAll vwCl rFo rZs rRs rNs rTs l yX13_unit cX13_unit 11 (some .int) 10 250 cq481 := kmet_y2 (rt := 1) (by decide +kernel) yr481 zw481 rfl yw481 LAll_ok LAll_la yt12_ok gHo_ok rfl (fun G n Qf => List.forall_mem_cons.mpr ⟨⟨cq431, rfl, st412 l (by decide) (by decide)⟩, List.forall_mem_cons.mpr ⟨⟨cq453, rfl, st463 l (by decide) (by decide)⟩, List.forall_mem_cons.mpr ⟨⟨cq472, rfl, st464 l (by decide) (by decide)⟩, List.forall_mem_cons.mpr ⟨⟨cq424, rfl, st465 l (by decide) (by decide)⟩, List.forall_mem_cons.mpr ⟨⟨cq414, rfl, st402 l (by decide) (by decide)⟩, yA_n⟩⟩⟩⟩⟩) rfl (fun G n Rr => yA_n) rfl
/-! 482 Model.where (J)I -/
def mt482 : yMt := ([(182, (1277, 0))], ([], ([], [])))
theorem rc482 : yRc cq482 13454 1 = true := by decide +kernel
theorem yr482 : yRun gAll t482 b482 cq482 := yRun_z gAll_tag ruI2_RtI ruJ2_RtJ rqL_ok z482
theorem zw482 : zwid cq482.2.1.1 cq482.1 0 4 = true := by decide +kernel
set_option maxRecDepth 100000 in
theorem yw482 : yRows gAll LAll yt12 mt482 gHo 4 1 (zby cX13_where) p482 b482 p482 = true := by decide +kernel
set_option maxRecDepth 100000 in
theorem m482 (l : Launch) : kMet gAll LAll vwCl rFo rZs rRs rNs rTs l yX13_where cX13_where 4 (some .int) 1 25 cq482 := kmet_y2 (rt := 1) (by decide +kernel) yr482 zw482 rfl yw482 LAll_ok LAll_la yt12_ok gHo_ok rfl (fun G n Qf => List.forall_mem_cons.mpr ⟨⟨cq278, rfl, st392 l (by decide) (by decide)⟩, yA_n⟩) rfl (fun G n Rr => yA_n) rfl
