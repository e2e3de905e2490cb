/-! THE LAW'S WALK -/
section LAWW
variable {l : Launch} {G : rGm} {b : Nat} {xs : Nat → Int32}
set_option maxRecDepth 1000000 in
set_option maxHeartbeats 40000000 in
theorem lc_peek (hl : l.stackTraces = false) (hb : G.2.2.2.1 30000 = .ref b) {c : Nat} (hc : c + 6 ≤ 8873440) : LV l G b 6 xs oL 755 [(4, .inl 0), (3, .inr (.inr 28161)), (2, .inr (.inr 26909)), (1, .inr (.inr 1)), (0, .inr (.inr 60002))] [] wL 14081 c := by
  refine HS.seg (ls' := [(4, .inl 0), (3, .inr (.inr 28161)), (2, .inr (.inr 26909)), (1, .inr (.inr 1)), (0, .inr (.inr 60002))]) (st' := [.inr (.inl (rOL ((lN (rOL ((lN (rOL (nI (rOf (xs 1))).toInt64)) <<< ((nI 32).toInt64 &&& 63)))) ||| (lN (rOL ((lN (rOL (nI (rOf (xs 2))).toInt64)) &&& (lN 4294967295))))))), .inr (.inr 1)]) (w' := wL) (n' := 14081) (c' := c) (HS.comp (s_aload_n (k := 1) 1 rfl dL_law_755) <|
    HS.comp (s_aload_n (k := 0) 0 rfl dL_law_756) <|
    HS.comp (s_iload 4 dL_law_757) <|
    HS.comp (s_iconst 1 (by decide +kernel) dL_law_759) <|
    HS.comp (s_iadd dL_law_760) <|
    HS.comp (s_sld (by decide) hb dL_law_761) <|
    HS.comp (s_i2lZ dL_law_762) <|
    HS.comp (s_bipush 32 (by decide +kernel) dL_law_763) <|
    HS.comp (s_lshlZ dL_law_765) <|
    HS.comp (s_aload_n (k := 0) 0 rfl dL_law_766) <|
    HS.comp (s_iload 4 dL_law_767) <|
    HS.comp (s_iconst 2 (by decide +kernel) dL_law_769) <|
    HS.comp (s_iadd dL_law_770) <|
    HS.comp (s_sld (by decide) hb dL_law_771) <|
    HS.comp (s_i2lZ dL_law_772) <|
    HS.comp (s_ldc2 4294967295 kw1095 dL_law_773) <|
    HS.comp (s_landZ dL_law_776) <|
    s_lorZ dL_law_777) rfl (by show _ ≤ 76266; omega) (by show _ ≤ 8873440; omega) ?_
  obtain ⟨w1, hF1, hw1⟩ := f_peek (rOL ((lN (rOL ((lN (rOL (nI (rOf (xs 1))).toInt64)) <<< ((nI 32).toInt64 &&& 63)))) ||| (lN (rOL ((lN (rOL (nI (rOf (xs 2))).toInt64)) &&& (lN 4294967295)))))) 14081
  refine HS.callE (as := [.inr (.inr 1), .inr (.inl (rOL ((lN (rOL ((lN (rOL (nI (rOf (xs 1))).toInt64)) <<< ((nI 32).toInt64 &&& 63)))) ||| (lN (rOL ((lN (rOL (nI (rOf (xs 2))).toInt64)) &&& (lN 4294967295)))))))]) (st := []) (s_callV 1 13 kc13 (ok_X11_peek l) kGood kw1104 kw1105 kw1107 kw599 kw1106 (by decide +kernel) (by decide) (by decide) dL_law_778) (fun h hv => rW.less h hv) hF1 rfl (Nat.le_of_ble_eq_true rfl) rfl hw1 (by show _ ≤ 76266; omega) (by show _ ≤ 8873440; omega) ?_
  refine HS.seg (ls' := [(4, .inl 0), (3, .inr (.inr 28161)), (2, .inr (.inr 26909)), (1, .inr (.inr 1)), (0, .inr (.inr 60002))]) (st' := [.inr (.inl (rOL ((lN (rOL ((lN (rOL (nI (rOf (xs 1))).toInt64)) <<< ((nI 32).toInt64 &&& 63)))) ||| (lN (rOL ((lN (rOL (nI (rOf (xs 2))).toInt64)) &&& (lN 4294967295))))))), .inr (.inr 26909), .inl 4294967295]) (w' := wM) (n' := 14081) (c' := c + 0) (HS.comp (s_aload_n (k := 2) 2 rfl dL_law_781) <|
    HS.comp (s_aload_n (k := 0) 0 rfl dL_law_782) <|
    HS.comp (s_iload 4 dL_law_783) <|
    HS.comp (s_iconst 1 (by decide +kernel) dL_law_785) <|
    HS.comp (s_iadd dL_law_786) <|
    HS.comp (s_sld (by decide) hb dL_law_787) <|
    HS.comp (s_i2lZ dL_law_788) <|
    HS.comp (s_bipush 32 (by decide +kernel) dL_law_789) <|
    HS.comp (s_lshlZ dL_law_791) <|
    HS.comp (s_aload_n (k := 0) 0 rfl dL_law_792) <|
    HS.comp (s_iload 4 dL_law_793) <|
    HS.comp (s_iconst 2 (by decide +kernel) dL_law_795) <|
    HS.comp (s_iadd dL_law_796) <|
    HS.comp (s_sld (by decide) hb dL_law_797) <|
    HS.comp (s_i2lZ dL_law_798) <|
    HS.comp (s_ldc2 4294967295 kw1095 dL_law_799) <|
    HS.comp (s_landZ dL_law_802) <|
    s_lorZ dL_law_803) rfl (by show _ ≤ 76266; omega) (by show _ ≤ 8873440; omega) ?_
  obtain ⟨w2, hF2, hw2⟩ := f_mpeek (rOL ((lN (rOL ((lN (rOL (nI (rOf (xs 1))).toInt64)) <<< ((nI 32).toInt64 &&& 63)))) ||| (lN (rOL ((lN (rOL (nI (rOf (xs 2))).toInt64)) &&& (lN 4294967295)))))) 14081
  refine HS.callE (as := [.inr (.inr 26909), .inr (.inl (rOL ((lN (rOL ((lN (rOL (nI (rOf (xs 1))).toInt64)) <<< ((nI 32).toInt64 &&& 63)))) ||| (lN (rOL ((lN (rOL (nI (rOf (xs 2))).toInt64)) &&& (lN 4294967295)))))))]) (st := [.inl 4294967295]) (s_callV 1 15 kc15 (ok_X13_peek l) kGood kw1108 kw1109 kw1111 kw315 kw1110 (by decide +kernel) (by decide) (by decide) dL_law_804) (fun h hv => rW.less h hv) hF2 rfl (Nat.le_of_ble_eq_true rfl) rfl hw2 (by show _ ≤ 76266; omega) (by show _ ≤ 8873440; omega) ?_
  refine V_icT (pcs := [1048, 810]) (s_icmp_eq (b1 := 0) (b2 := 1) (tgt := 1048) rfl rfl (by decide) dL_law_807) rfl (rEq_r _) (by show _ ≤ 76266; omega) (by show _ ≤ 8873440; omega) ?_
  exact lv_tail hb (by show _ ≤ 76266; omega) (by show _ ≤ 8873440; omega) (by simp) (by simp)
set_option maxRecDepth 1000000 in
set_option maxHeartbeats 40000000 in
theorem lc_poke (hl : l.stackTraces = false) (hb : G.2.2.2.1 30000 = .ref b) {c : Nat} (hc : c + 6 ≤ 8873440) : LV l G b 6 xs oL 812 [(4, .inl 0), (3, .inr (.inr 28161)), (2, .inr (.inr 26909)), (1, .inr (.inr 1)), (0, .inr (.inr 60002))] [] wL 14081 c := by
  refine HS.seg (ls' := [(4, .inl 0), (3, .inr (.inr 28161)), (2, .inr (.inr 26909)), (1, .inr (.inr 1)), (0, .inr (.inr 60002))]) (st' := [.inl (rOf (xs 3)), .inr (.inl (rOL ((lN (rOL ((lN (rOL (nI (rOf (xs 1))).toInt64)) <<< ((nI 32).toInt64 &&& 63)))) ||| (lN (rOL ((lN (rOL (nI (rOf (xs 2))).toInt64)) &&& (lN 4294967295))))))), .inr (.inr 1)]) (w' := wL) (n' := 14081) (c' := c) (HS.comp (s_aload_n (k := 1) 1 rfl dL_law_812) <|
    HS.comp (s_aload_n (k := 0) 0 rfl dL_law_813) <|
    HS.comp (s_iload 4 dL_law_814) <|
    HS.comp (s_iconst 1 (by decide +kernel) dL_law_816) <|
    HS.comp (s_iadd dL_law_817) <|
    HS.comp (s_sld (by decide) hb dL_law_818) <|
    HS.comp (s_i2lZ dL_law_819) <|
    HS.comp (s_bipush 32 (by decide +kernel) dL_law_820) <|
    HS.comp (s_lshlZ dL_law_822) <|
    HS.comp (s_aload_n (k := 0) 0 rfl dL_law_823) <|
    HS.comp (s_iload 4 dL_law_824) <|
    HS.comp (s_iconst 2 (by decide +kernel) dL_law_826) <|
    HS.comp (s_iadd dL_law_827) <|
    HS.comp (s_sld (by decide) hb dL_law_828) <|
    HS.comp (s_i2lZ dL_law_829) <|
    HS.comp (s_ldc2 4294967295 kw1095 dL_law_830) <|
    HS.comp (s_landZ dL_law_833) <|
    HS.comp (s_lorZ dL_law_834) <|
    HS.comp (s_aload_n (k := 0) 0 rfl dL_law_835) <|
    HS.comp (s_iload 4 dL_law_836) <|
    HS.comp (s_iconst 3 (by decide +kernel) dL_law_838) <|
    HS.comp (s_iadd dL_law_839) <|
    s_sld (by decide) hb dL_law_840) rfl (by show _ ≤ 76266; omega) (by show _ ≤ 8873440; omega) ?_
  obtain ⟨w1, hF1, hw1⟩ := f_poke (rOL ((lN (rOL ((lN (rOL (nI (rOf (xs 1))).toInt64)) <<< ((nI 32).toInt64 &&& 63)))) ||| (lN (rOL ((lN (rOL (nI (rOf (xs 2))).toInt64)) &&& (lN 4294967295)))))) (rOf (xs 3)) 14081
  refine HS.callE (as := [.inr (.inr 1), .inr (.inl (rOL ((lN (rOL ((lN (rOL (nI (rOf (xs 1))).toInt64)) <<< ((nI 32).toInt64 &&& 63)))) ||| (lN (rOL ((lN (rOL (nI (rOf (xs 2))).toInt64)) &&& (lN 4294967295))))))), .inl (rOf (xs 3))]) (st := []) (s_callV 2 13 kc13 (ok_X11_poke l) kGood kw1112 kw1113 kw1115 kw599 kw1114 (by decide +kernel) (by decide) (by decide) dL_law_841) (fun h hv => rW.less h hv) hF1 rfl (Nat.le_of_ble_eq_true rfl) rfl hw1 (by show _ ≤ 76266; omega) (by show _ ≤ 8873440; omega) ?_
  refine HS.seg (ls' := [(4, .inl 0), (3, .inr (.inr 28161)), (2, .inr (.inr 26909)), (1, .inr (.inr 1)), (0, .inr (.inr 60002))]) (st' := [.inl (rOf (xs 3)), .inr (.inl (rOL ((lN (rOL ((lN (rOL (nI (rOf (xs 1))).toInt64)) <<< ((nI 32).toInt64 &&& 63)))) ||| (lN (rOL ((lN (rOL (nI (rOf (xs 2))).toInt64)) &&& (lN 4294967295))))))), .inr (.inr 26909), .inl 0]) (w' := wM) (n' := 14081) (c' := c + 0) (HS.comp (s_aload_n (k := 2) 2 rfl dL_law_844) <|
    HS.comp (s_aload_n (k := 0) 0 rfl dL_law_845) <|
    HS.comp (s_iload 4 dL_law_846) <|
    HS.comp (s_iconst 1 (by decide +kernel) dL_law_848) <|
    HS.comp (s_iadd dL_law_849) <|
    HS.comp (s_sld (by decide) hb dL_law_850) <|
    HS.comp (s_i2lZ dL_law_851) <|
    HS.comp (s_bipush 32 (by decide +kernel) dL_law_852) <|
    HS.comp (s_lshlZ dL_law_854) <|
    HS.comp (s_aload_n (k := 0) 0 rfl dL_law_855) <|
    HS.comp (s_iload 4 dL_law_856) <|
    HS.comp (s_iconst 2 (by decide +kernel) dL_law_858) <|
    HS.comp (s_iadd dL_law_859) <|
    HS.comp (s_sld (by decide) hb dL_law_860) <|
    HS.comp (s_i2lZ dL_law_861) <|
    HS.comp (s_ldc2 4294967295 kw1095 dL_law_862) <|
    HS.comp (s_landZ dL_law_865) <|
    HS.comp (s_lorZ dL_law_866) <|
    HS.comp (s_aload_n (k := 0) 0 rfl dL_law_867) <|
    HS.comp (s_iload 4 dL_law_868) <|
    HS.comp (s_iconst 3 (by decide +kernel) dL_law_870) <|
    HS.comp (s_iadd dL_law_871) <|
    s_sld (by decide) hb dL_law_872) rfl (by show _ ≤ 76266; omega) (by show _ ≤ 8873440; omega) ?_
  obtain ⟨w2, hF2, hw2⟩ := f_mpoke (rOL ((lN (rOL ((lN (rOL (nI (rOf (xs 1))).toInt64)) <<< ((nI 32).toInt64 &&& 63)))) ||| (lN (rOL ((lN (rOL (nI (rOf (xs 2))).toInt64)) &&& (lN 4294967295)))))) (rOf (xs 3)) 14081
  refine HS.callE (as := [.inr (.inr 26909), .inr (.inl (rOL ((lN (rOL ((lN (rOL (nI (rOf (xs 1))).toInt64)) <<< ((nI 32).toInt64 &&& 63)))) ||| (lN (rOL ((lN (rOL (nI (rOf (xs 2))).toInt64)) &&& (lN 4294967295))))))), .inl (rOf (xs 3))]) (st := [.inl 0]) (s_callV 2 15 kc15 (ok_X13_poke l) kGood kw1116 kw1117 kw1119 kw315 kw1118 (by decide +kernel) (by decide) (by decide) dL_law_873) (fun h hv => rW.less h hv) hF2 rfl (Nat.le_of_ble_eq_true rfl) rfl hw2 (by show _ ≤ 76266; omega) (by show _ ≤ 8873440; omega) ?_
  refine V_icT (pcs := [1048, 879]) (s_icmp_eq (b1 := 0) (b2 := 1) (tgt := 1048) rfl rfl (by decide) dL_law_876) rfl (rEq_r _) (by show _ ≤ 76266; omega) (by show _ ≤ 8873440; omega) ?_
  exact lv_tail hb (by show _ ≤ 76266; omega) (by show _ ≤ 8873440; omega) (by simp) (by simp)
set_option maxRecDepth 1000000 in
set_option maxHeartbeats 40000000 in
theorem lc_stopAt0 (hl : l.stackTraces = false) (hb : G.2.2.2.1 30000 = .ref b) {c : Nat} (hc : c + 6 ≤ 8873440) (h3 : rEq (rOf (xs 3)) 0 = true) : LV l G b 6 xs oL 881 [(4, .inl 0), (3, .inr (.inr 28161)), (2, .inr (.inr 26909)), (1, .inr (.inr 1)), (0, .inr (.inr 60002))] [] wL 14081 c := by
  refine HS.seg (ls' := [(4, .inl 0), (3, .inr (.inr 28161)), (2, .inr (.inr 26909)), (1, .inr (.inr 1)), (0, .inr (.inr 60002))]) (st' := [.inl (rOf (xs 3)), .inr (.inl (rOL ((lN (rOL ((lN (rOL (nI (rOf (xs 1))).toInt64)) <<< ((nI 32).toInt64 &&& 63)))) ||| (lN (rOL ((lN (rOL (nI (rOf (xs 2))).toInt64)) &&& (lN 4294967295))))))), .inr (.inr 1)]) (w' := wL) (n' := 14081) (c' := c) (HS.comp (s_aload_n (k := 1) 1 rfl dL_law_881) <|
    HS.comp (s_aload_n (k := 0) 0 rfl dL_law_882) <|
    HS.comp (s_iload 4 dL_law_883) <|
    HS.comp (s_iconst 1 (by decide +kernel) dL_law_885) <|
    HS.comp (s_iadd dL_law_886) <|
    HS.comp (s_sld (by decide) hb dL_law_887) <|
    HS.comp (s_i2lZ dL_law_888) <|
    HS.comp (s_bipush 32 (by decide +kernel) dL_law_889) <|
    HS.comp (s_lshlZ dL_law_891) <|
    HS.comp (s_aload_n (k := 0) 0 rfl dL_law_892) <|
    HS.comp (s_iload 4 dL_law_893) <|
    HS.comp (s_iconst 2 (by decide +kernel) dL_law_895) <|
    HS.comp (s_iadd dL_law_896) <|
    HS.comp (s_sld (by decide) hb dL_law_897) <|
    HS.comp (s_i2lZ dL_law_898) <|
    HS.comp (s_ldc2 4294967295 kw1095 dL_law_899) <|
    HS.comp (s_landZ dL_law_902) <|
    HS.comp (s_lorZ dL_law_903) <|
    HS.comp (s_aload_n (k := 0) 0 rfl dL_law_904) <|
    HS.comp (s_iload 4 dL_law_905) <|
    HS.comp (s_iconst 3 (by decide +kernel) dL_law_907) <|
    HS.comp (s_iadd dL_law_908) <|
    s_sld (by decide) hb dL_law_909) rfl (by show _ ≤ 76266; omega) (by show _ ≤ 8873440; omega) ?_
  refine V_ifT (pcs := [917, 913]) (s_if_eq (b1 := 0) (b2 := 1) (tgt := 917) rfl rfl (by decide) dL_law_910) rfl h3 (by show _ ≤ 76266; omega) (by show _ ≤ 8873440; omega) ?_
  refine HS.seg (ls' := [(4, .inl 0), (3, .inr (.inr 28161)), (2, .inr (.inr 26909)), (1, .inr (.inr 1)), (0, .inr (.inr 60002))]) (st' := [.inl 0, .inr (.inl (rOL ((lN (rOL ((lN (rOL (nI (rOf (xs 1))).toInt64)) <<< ((nI 32).toInt64 &&& 63)))) ||| (lN (rOL ((lN (rOL (nI (rOf (xs 2))).toInt64)) &&& (lN 4294967295))))))), .inr (.inr 1)]) (w' := wL) (n' := 14081) (c' := c) (s_iconst 0 (by decide +kernel) dL_law_917) rfl (by show _ ≤ 76266; omega) (by show _ ≤ 8873440; omega) ?_
  obtain ⟨w1, hF1, hw1⟩ := f_stopAt0 (rOL ((lN (rOL ((lN (rOL (nI (rOf (xs 1))).toInt64)) <<< ((nI 32).toInt64 &&& 63)))) ||| (lN (rOL ((lN (rOL (nI (rOf (xs 2))).toInt64)) &&& (lN 4294967295)))))) 14081
  refine HS.callE (as := [.inr (.inr 1), .inr (.inl (rOL ((lN (rOL ((lN (rOL (nI (rOf (xs 1))).toInt64)) <<< ((nI 32).toInt64 &&& 63)))) ||| (lN (rOL ((lN (rOL (nI (rOf (xs 2))).toInt64)) &&& (lN 4294967295))))))), .inl 0]) (st := []) (s_callV 2 13 kc13 (ok_X11_stopAt l) kGood kw1120 kw1121 kw1123 kw599 kw1122 (by decide +kernel) (by decide) (by decide) dL_law_918) (fun h hv => rW.less h hv) hF1 rfl (Nat.le_of_ble_eq_true rfl) rfl hw1 (by show _ ≤ 76266; omega) (by show _ ≤ 8873440; omega) ?_
  refine HS.seg (ls' := [(4, .inl 0), (3, .inr (.inr 28161)), (2, .inr (.inr 26909)), (1, .inr (.inr 1)), (0, .inr (.inr 60002))]) (st' := [.inl (rOf (xs 3)), .inr (.inl (rOL ((lN (rOL ((lN (rOL (nI (rOf (xs 1))).toInt64)) <<< ((nI 32).toInt64 &&& 63)))) ||| (lN (rOL ((lN (rOL (nI (rOf (xs 2))).toInt64)) &&& (lN 4294967295))))))), .inr (.inr 26909), .inl 0]) (w' := wM) (n' := 14081) (c' := c + 0) (HS.comp (s_aload_n (k := 2) 2 rfl dL_law_921) <|
    HS.comp (s_aload_n (k := 0) 0 rfl dL_law_922) <|
    HS.comp (s_iload 4 dL_law_923) <|
    HS.comp (s_iconst 1 (by decide +kernel) dL_law_925) <|
    HS.comp (s_iadd dL_law_926) <|
    HS.comp (s_sld (by decide) hb dL_law_927) <|
    HS.comp (s_i2lZ dL_law_928) <|
    HS.comp (s_bipush 32 (by decide +kernel) dL_law_929) <|
    HS.comp (s_lshlZ dL_law_931) <|
    HS.comp (s_aload_n (k := 0) 0 rfl dL_law_932) <|
    HS.comp (s_iload 4 dL_law_933) <|
    HS.comp (s_iconst 2 (by decide +kernel) dL_law_935) <|
    HS.comp (s_iadd dL_law_936) <|
    HS.comp (s_sld (by decide) hb dL_law_937) <|
    HS.comp (s_i2lZ dL_law_938) <|
    HS.comp (s_ldc2 4294967295 kw1095 dL_law_939) <|
    HS.comp (s_landZ dL_law_942) <|
    HS.comp (s_lorZ dL_law_943) <|
    HS.comp (s_aload_n (k := 0) 0 rfl dL_law_944) <|
    HS.comp (s_iload 4 dL_law_945) <|
    HS.comp (s_iconst 3 (by decide +kernel) dL_law_947) <|
    HS.comp (s_iadd dL_law_948) <|
    s_sld (by decide) hb dL_law_949) rfl (by show _ ≤ 76266; omega) (by show _ ≤ 8873440; omega) ?_
  refine V_ifT (pcs := [957, 953]) (s_if_eq (b1 := 0) (b2 := 1) (tgt := 957) rfl rfl (by decide) dL_law_950) rfl h3 (by show _ ≤ 76266; omega) (by show _ ≤ 8873440; omega) ?_
  refine HS.seg (ls' := [(4, .inl 0), (3, .inr (.inr 28161)), (2, .inr (.inr 26909)), (1, .inr (.inr 1)), (0, .inr (.inr 60002))]) (st' := [.inl 0, .inr (.inl (rOL ((lN (rOL ((lN (rOL (nI (rOf (xs 1))).toInt64)) <<< ((nI 32).toInt64 &&& 63)))) ||| (lN (rOL ((lN (rOL (nI (rOf (xs 2))).toInt64)) &&& (lN 4294967295))))))), .inr (.inr 26909), .inl 0]) (w' := wM) (n' := 14081) (c' := c + 0) (s_iconst 0 (by decide +kernel) dL_law_957) rfl (by show _ ≤ 76266; omega) (by show _ ≤ 8873440; omega) ?_
  obtain ⟨w2, hF2, hw2⟩ := f_mstopAt0 (rOL ((lN (rOL ((lN (rOL (nI (rOf (xs 1))).toInt64)) <<< ((nI 32).toInt64 &&& 63)))) ||| (lN (rOL ((lN (rOL (nI (rOf (xs 2))).toInt64)) &&& (lN 4294967295)))))) 14081
  refine HS.callE (as := [.inr (.inr 26909), .inr (.inl (rOL ((lN (rOL ((lN (rOL (nI (rOf (xs 1))).toInt64)) <<< ((nI 32).toInt64 &&& 63)))) ||| (lN (rOL ((lN (rOL (nI (rOf (xs 2))).toInt64)) &&& (lN 4294967295))))))), .inl 0]) (st := [.inl 0]) (s_callV 2 15 kc15 (ok_X13_stopAt l) kGood kw1124 kw1125 kw1127 kw315 kw1126 (by decide +kernel) (by decide) (by decide) dL_law_958) (fun h hv => rW.less h hv) hF2 rfl (Nat.le_of_ble_eq_true rfl) rfl hw2 (by show _ ≤ 76266; omega) (by show _ ≤ 8873440; omega) ?_
  refine V_icT (pcs := [1048, 964]) (s_icmp_eq (b1 := 0) (b2 := 1) (tgt := 1048) rfl rfl (by decide) dL_law_961) rfl (rEq_r _) (by show _ ≤ 76266; omega) (by show _ ≤ 8873440; omega) ?_
  exact lv_tail hb (by show _ ≤ 76266; omega) (by show _ ≤ 8873440; omega) (by simp) (by simp)
set_option maxRecDepth 1000000 in
set_option maxHeartbeats 40000000 in
theorem lc_stopAt1 (hl : l.stackTraces = false) (hb : G.2.2.2.1 30000 = .ref b) {c : Nat} (hc : c + 6 ≤ 8873440) (h3 : rEq (rOf (xs 3)) 0 = false) : LV l G b 6 xs oL 881 [(4, .inl 0), (3, .inr (.inr 28161)), (2, .inr (.inr 26909)), (1, .inr (.inr 1)), (0, .inr (.inr 60002))] [] wL 14081 c := by
  refine HS.seg (ls' := [(4, .inl 0), (3, .inr (.inr 28161)), (2, .inr (.inr 26909)), (1, .inr (.inr 1)), (0, .inr (.inr 60002))]) (st' := [.inl (rOf (xs 3)), .inr (.inl (rOL ((lN (rOL ((lN (rOL (nI (rOf (xs 1))).toInt64)) <<< ((nI 32).toInt64 &&& 63)))) ||| (lN (rOL ((lN (rOL (nI (rOf (xs 2))).toInt64)) &&& (lN 4294967295))))))), .inr (.inr 1)]) (w' := wL) (n' := 14081) (c' := c) (HS.comp (s_aload_n (k := 1) 1 rfl dL_law_881) <|
    HS.comp (s_aload_n (k := 0) 0 rfl dL_law_882) <|
    HS.comp (s_iload 4 dL_law_883) <|
    HS.comp (s_iconst 1 (by decide +kernel) dL_law_885) <|
    HS.comp (s_iadd dL_law_886) <|
    HS.comp (s_sld (by decide) hb dL_law_887) <|
    HS.comp (s_i2lZ dL_law_888) <|
    HS.comp (s_bipush 32 (by decide +kernel) dL_law_889) <|
    HS.comp (s_lshlZ dL_law_891) <|
    HS.comp (s_aload_n (k := 0) 0 rfl dL_law_892) <|
    HS.comp (s_iload 4 dL_law_893) <|
    HS.comp (s_iconst 2 (by decide +kernel) dL_law_895) <|
    HS.comp (s_iadd dL_law_896) <|
    HS.comp (s_sld (by decide) hb dL_law_897) <|
    HS.comp (s_i2lZ dL_law_898) <|
    HS.comp (s_ldc2 4294967295 kw1095 dL_law_899) <|
    HS.comp (s_landZ dL_law_902) <|
    HS.comp (s_lorZ dL_law_903) <|
    HS.comp (s_aload_n (k := 0) 0 rfl dL_law_904) <|
    HS.comp (s_iload 4 dL_law_905) <|
    HS.comp (s_iconst 3 (by decide +kernel) dL_law_907) <|
    HS.comp (s_iadd dL_law_908) <|
    s_sld (by decide) hb dL_law_909) rfl (by show _ ≤ 76266; omega) (by show _ ≤ 8873440; omega) ?_
  refine V_ifF (pcs := [917, 913]) (s_if_eq (b1 := 0) (b2 := 1) (tgt := 917) rfl rfl (by decide) dL_law_910) rfl h3 (by show _ ≤ 76266; omega) (by show _ ≤ 8873440; omega) ?_
  refine HS.seg (ls' := [(4, .inl 0), (3, .inr (.inr 28161)), (2, .inr (.inr 26909)), (1, .inr (.inr 1)), (0, .inr (.inr 60002))]) (st' := [.inl 1, .inr (.inl (rOL ((lN (rOL ((lN (rOL (nI (rOf (xs 1))).toInt64)) <<< ((nI 32).toInt64 &&& 63)))) ||| (lN (rOL ((lN (rOL (nI (rOf (xs 2))).toInt64)) &&& (lN 4294967295))))))), .inr (.inr 1)]) (w' := wL) (n' := 14081) (c' := c) (s_iconst 1 (by decide +kernel) dL_law_913) rfl (by show _ ≤ 76266; omega) (by show _ ≤ 8873440; omega) ?_
  refine V_go (pcs := [918]) (s_goto (b := 0) (tgt := 918) rfl (by decide) dL_law_914) rfl (by show _ ≤ 76266; omega) (by show _ ≤ 8873440; omega) ?_
  obtain ⟨w1, hF1, hw1⟩ := f_stopAt1 (rOL ((lN (rOL ((lN (rOL (nI (rOf (xs 1))).toInt64)) <<< ((nI 32).toInt64 &&& 63)))) ||| (lN (rOL ((lN (rOL (nI (rOf (xs 2))).toInt64)) &&& (lN 4294967295)))))) 14081
  refine HS.callE (as := [.inr (.inr 1), .inr (.inl (rOL ((lN (rOL ((lN (rOL (nI (rOf (xs 1))).toInt64)) <<< ((nI 32).toInt64 &&& 63)))) ||| (lN (rOL ((lN (rOL (nI (rOf (xs 2))).toInt64)) &&& (lN 4294967295))))))), .inl 1]) (st := []) (s_callV 2 13 kc13 (ok_X11_stopAt l) kGood kw1120 kw1121 kw1123 kw599 kw1122 (by decide +kernel) (by decide) (by decide) dL_law_918) (fun h hv => rW.less h hv) hF1 rfl (Nat.le_of_ble_eq_true rfl) rfl hw1 (by show _ ≤ 76266; omega) (by show _ ≤ 8873440; omega) ?_
  refine HS.seg (ls' := [(4, .inl 0), (3, .inr (.inr 28161)), (2, .inr (.inr 26909)), (1, .inr (.inr 1)), (0, .inr (.inr 60002))]) (st' := [.inl (rOf (xs 3)), .inr (.inl (rOL ((lN (rOL ((lN (rOL (nI (rOf (xs 1))).toInt64)) <<< ((nI 32).toInt64 &&& 63)))) ||| (lN (rOL ((lN (rOL (nI (rOf (xs 2))).toInt64)) &&& (lN 4294967295))))))), .inr (.inr 26909), .inl 1]) (w' := wM) (n' := 14081) (c' := c + 0) (HS.comp (s_aload_n (k := 2) 2 rfl dL_law_921) <|
    HS.comp (s_aload_n (k := 0) 0 rfl dL_law_922) <|
    HS.comp (s_iload 4 dL_law_923) <|
    HS.comp (s_iconst 1 (by decide +kernel) dL_law_925) <|
    HS.comp (s_iadd dL_law_926) <|
    HS.comp (s_sld (by decide) hb dL_law_927) <|
    HS.comp (s_i2lZ dL_law_928) <|
    HS.comp (s_bipush 32 (by decide +kernel) dL_law_929) <|
    HS.comp (s_lshlZ dL_law_931) <|
    HS.comp (s_aload_n (k := 0) 0 rfl dL_law_932) <|
    HS.comp (s_iload 4 dL_law_933) <|
    HS.comp (s_iconst 2 (by decide +kernel) dL_law_935) <|
    HS.comp (s_iadd dL_law_936) <|
    HS.comp (s_sld (by decide) hb dL_law_937) <|
    HS.comp (s_i2lZ dL_law_938) <|
    HS.comp (s_ldc2 4294967295 kw1095 dL_law_939) <|
    HS.comp (s_landZ dL_law_942) <|
    HS.comp (s_lorZ dL_law_943) <|
    HS.comp (s_aload_n (k := 0) 0 rfl dL_law_944) <|
    HS.comp (s_iload 4 dL_law_945) <|
    HS.comp (s_iconst 3 (by decide +kernel) dL_law_947) <|
    HS.comp (s_iadd dL_law_948) <|
    s_sld (by decide) hb dL_law_949) rfl (by show _ ≤ 76266; omega) (by show _ ≤ 8873440; omega) ?_
  refine V_ifF (pcs := [957, 953]) (s_if_eq (b1 := 0) (b2 := 1) (tgt := 957) rfl rfl (by decide) dL_law_950) rfl h3 (by show _ ≤ 76266; omega) (by show _ ≤ 8873440; omega) ?_
  refine HS.seg (ls' := [(4, .inl 0), (3, .inr (.inr 28161)), (2, .inr (.inr 26909)), (1, .inr (.inr 1)), (0, .inr (.inr 60002))]) (st' := [.inl 1, .inr (.inl (rOL ((lN (rOL ((lN (rOL (nI (rOf (xs 1))).toInt64)) <<< ((nI 32).toInt64 &&& 63)))) ||| (lN (rOL ((lN (rOL (nI (rOf (xs 2))).toInt64)) &&& (lN 4294967295))))))), .inr (.inr 26909), .inl 1]) (w' := wM) (n' := 14081) (c' := c + 0) (s_iconst 1 (by decide +kernel) dL_law_953) rfl (by show _ ≤ 76266; omega) (by show _ ≤ 8873440; omega) ?_
  refine V_go (pcs := [958]) (s_goto (b := 0) (tgt := 958) rfl (by decide) dL_law_954) rfl (by show _ ≤ 76266; omega) (by show _ ≤ 8873440; omega) ?_
  obtain ⟨w2, hF2, hw2⟩ := f_mstopAt1 (rOL ((lN (rOL ((lN (rOL (nI (rOf (xs 1))).toInt64)) <<< ((nI 32).toInt64 &&& 63)))) ||| (lN (rOL ((lN (rOL (nI (rOf (xs 2))).toInt64)) &&& (lN 4294967295)))))) 14081
  refine HS.callE (as := [.inr (.inr 26909), .inr (.inl (rOL ((lN (rOL ((lN (rOL (nI (rOf (xs 1))).toInt64)) <<< ((nI 32).toInt64 &&& 63)))) ||| (lN (rOL ((lN (rOL (nI (rOf (xs 2))).toInt64)) &&& (lN 4294967295))))))), .inl 1]) (st := [.inl 1]) (s_callV 2 15 kc15 (ok_X13_stopAt l) kGood kw1124 kw1125 kw1127 kw315 kw1126 (by decide +kernel) (by decide) (by decide) dL_law_958) (fun h hv => rW.less h hv) hF2 rfl (Nat.le_of_ble_eq_true rfl) rfl hw2 (by show _ ≤ 76266; omega) (by show _ ≤ 8873440; omega) ?_
  refine V_icT (pcs := [1048, 964]) (s_icmp_eq (b1 := 0) (b2 := 1) (tgt := 1048) rfl rfl (by decide) dL_law_961) rfl (rEq_r _) (by show _ ≤ 76266; omega) (by show _ ≤ 8873440; omega) ?_
  exact lv_tail hb (by show _ ≤ 76266; omega) (by show _ ≤ 8873440; omega) (by simp) (by simp)
set_option maxRecDepth 1000000 in
set_option maxHeartbeats 40000000 in
theorem lc_output (hl : l.stackTraces = false) (hb : G.2.2.2.1 30000 = .ref b) {c : Nat} (hc : c + 6 ≤ 8873440) : LV l G b 6 xs oL 966 [(4, .inl 0), (3, .inr (.inr 28161)), (2, .inr (.inr 26909)), (1, .inr (.inr 1)), (0, .inr (.inr 60002))] [] wL 14081 c := by
  refine HS.seg (ls' := [(4, .inl 0), (3, .inr (.inr 28161)), (2, .inr (.inr 26909)), (1, .inr (.inr 1)), (0, .inr (.inr 60002))]) (st' := [.inl (rOf (xs 1)), .inr (.inr 1)]) (w' := wL) (n' := 14081) (c' := c) (HS.comp (s_aload_n (k := 1) 1 rfl dL_law_966) <|
    HS.comp (s_aload_n (k := 0) 0 rfl dL_law_967) <|
    HS.comp (s_iload 4 dL_law_968) <|
    HS.comp (s_iconst 1 (by decide +kernel) dL_law_970) <|
    HS.comp (s_iadd dL_law_971) <|
    s_sld (by decide) hb dL_law_972) rfl (by show _ ≤ 76266; omega) (by show _ ≤ 8873440; omega) ?_
  obtain ⟨w1, hF1, hw1⟩ := f_output (rOf (xs 1)) 14081
  refine HS.callE (as := [.inr (.inr 1), .inl (rOf (xs 1))]) (st := []) (s_callV 1 13 kc13 (ok_X11_output l) kGood kw1128 kw1129 kw1131 kw599 kw1130 (by decide +kernel) (by decide) (by decide) dL_law_973) (fun h hv => rW.less h hv) hF1 rfl (Nat.le_of_ble_eq_true rfl) rfl hw1 (by show _ ≤ 76266; omega) (by show _ ≤ 8873440; omega) ?_
  refine HS.seg (ls' := [(4, .inl 0), (3, .inr (.inr 28161)), (2, .inr (.inr 26909)), (1, .inr (.inr 1)), (0, .inr (.inr 60002))]) (st' := [.inl (rOf (xs 1)), .inr (.inr 26909), .inl (rB (rNot (rEq (rOf (xs 1)) 4294967295)) (4294967295) (0))]) (w' := wM) (n' := 14081) (c' := c + 0) (HS.comp (s_aload_n (k := 2) 2 rfl dL_law_976) <|
    HS.comp (s_aload_n (k := 0) 0 rfl dL_law_977) <|
    HS.comp (s_iload 4 dL_law_978) <|
    HS.comp (s_iconst 1 (by decide +kernel) dL_law_980) <|
    HS.comp (s_iadd dL_law_981) <|
    s_sld (by decide) hb dL_law_982) rfl (by show _ ≤ 76266; omega) (by show _ ≤ 8873440; omega) ?_
  obtain ⟨w2, hF2, hw2⟩ := f_moutput (rOf (xs 1)) 14081
  refine HS.callE (as := [.inr (.inr 26909), .inl (rOf (xs 1))]) (st := [.inl (rB (rNot (rEq (rOf (xs 1)) 4294967295)) (4294967295) (0))]) (s_callV 1 15 kc15 (ok_X13_output l) kGood kw1132 kw1133 kw1135 kw315 kw1134 (by decide +kernel) (by decide) (by decide) dL_law_983) (fun h hv => rW.less h hv) hF2 rfl (Nat.le_of_ble_eq_true rfl) rfl hw2 (by show _ ≤ 76266; omega) (by show _ ≤ 8873440; omega) ?_
  refine V_icT (pcs := [1048, 989]) (s_icmp_eq (b1 := 0) (b2 := 1) (tgt := 1048) rfl rfl (by decide) dL_law_986) rfl (rEq_r _) (by show _ ≤ 76266; omega) (by show _ ≤ 8873440; omega) ?_
  exact lv_tail hb (by show _ ≤ 76266; omega) (by show _ ≤ 8873440; omega) (by simp) (by simp)
set_option maxRecDepth 1000000 in
set_option maxHeartbeats 40000000 in
theorem lc_where (hl : l.stackTraces = false) (hb : G.2.2.2.1 30000 = .ref b) {c : Nat} (hc : c + 6 ≤ 8873440) : LV l G b 6 xs oL 991 [(4, .inl 0), (3, .inr (.inr 28161)), (2, .inr (.inr 26909)), (1, .inr (.inr 1)), (0, .inr (.inr 60002))] [] wL 14081 c := by
  refine HS.seg (ls' := [(4, .inl 0), (3, .inr (.inr 28161)), (2, .inr (.inr 26909)), (1, .inr (.inr 1)), (0, .inr (.inr 60002))]) (st' := [.inr (.inl (rOL ((lN (rOL ((lN (rOL (nI (rOf (xs 1))).toInt64)) <<< ((nI 32).toInt64 &&& 63)))) ||| (lN (rOL ((lN (rOL (nI (rOf (xs 2))).toInt64)) &&& (lN 4294967295))))))), .inr (.inr 1)]) (w' := wL) (n' := 14081) (c' := c) (HS.comp (s_aload_n (k := 1) 1 rfl dL_law_991) <|
    HS.comp (s_aload_n (k := 0) 0 rfl dL_law_992) <|
    HS.comp (s_iload 4 dL_law_993) <|
    HS.comp (s_iconst 1 (by decide +kernel) dL_law_995) <|
    HS.comp (s_iadd dL_law_996) <|
    HS.comp (s_sld (by decide) hb dL_law_997) <|
    HS.comp (s_i2lZ dL_law_998) <|
    HS.comp (s_bipush 32 (by decide +kernel) dL_law_999) <|
    HS.comp (s_lshlZ dL_law_1001) <|
    HS.comp (s_aload_n (k := 0) 0 rfl dL_law_1002) <|
    HS.comp (s_iload 4 dL_law_1003) <|
    HS.comp (s_iconst 2 (by decide +kernel) dL_law_1005) <|
    HS.comp (s_iadd dL_law_1006) <|
    HS.comp (s_sld (by decide) hb dL_law_1007) <|
    HS.comp (s_i2lZ dL_law_1008) <|
    HS.comp (s_ldc2 4294967295 kw1095 dL_law_1009) <|
    HS.comp (s_landZ dL_law_1012) <|
    s_lorZ dL_law_1013) rfl (by show _ ≤ 76266; omega) (by show _ ≤ 8873440; omega) ?_
  obtain ⟨w1, hF1, hw1⟩ := f_where (rOL ((lN (rOL ((lN (rOL (nI (rOf (xs 1))).toInt64)) <<< ((nI 32).toInt64 &&& 63)))) ||| (lN (rOL ((lN (rOL (nI (rOf (xs 2))).toInt64)) &&& (lN 4294967295)))))) 14081
  refine HS.callE (as := [.inr (.inr 1), .inr (.inl (rOL ((lN (rOL ((lN (rOL (nI (rOf (xs 1))).toInt64)) <<< ((nI 32).toInt64 &&& 63)))) ||| (lN (rOL ((lN (rOL (nI (rOf (xs 2))).toInt64)) &&& (lN 4294967295)))))))]) (st := []) (s_callV 1 13 kc13 (ok_X11_where l) kGood kw1136 kw1137 kw1139 kw599 kw1138 (by decide +kernel) (by decide) (by decide) dL_law_1014) (fun h hv => rW.less h hv) hF1 rfl (Nat.le_of_ble_eq_true rfl) rfl hw1 (by show _ ≤ 76266; omega) (by show _ ≤ 8873440; omega) ?_
  refine HS.seg (ls' := [(4, .inl 0), (3, .inr (.inr 28161)), (2, .inr (.inr 26909)), (1, .inr (.inr 1)), (0, .inr (.inr 60002))]) (st' := [.inr (.inl (rOL ((lN (rOL ((lN (rOL (nI (rOf (xs 1))).toInt64)) <<< ((nI 32).toInt64 &&& 63)))) ||| (lN (rOL ((lN (rOL (nI (rOf (xs 2))).toInt64)) &&& (lN 4294967295))))))), .inr (.inr 26909), .inl 4294967295]) (w' := wM) (n' := 14081) (c' := c + 0) (HS.comp (s_aload_n (k := 2) 2 rfl dL_law_1017) <|
    HS.comp (s_aload_n (k := 0) 0 rfl dL_law_1018) <|
    HS.comp (s_iload 4 dL_law_1019) <|
    HS.comp (s_iconst 1 (by decide +kernel) dL_law_1021) <|
    HS.comp (s_iadd dL_law_1022) <|
    HS.comp (s_sld (by decide) hb dL_law_1023) <|
    HS.comp (s_i2lZ dL_law_1024) <|
    HS.comp (s_bipush 32 (by decide +kernel) dL_law_1025) <|
    HS.comp (s_lshlZ dL_law_1027) <|
    HS.comp (s_aload_n (k := 0) 0 rfl dL_law_1028) <|
    HS.comp (s_iload 4 dL_law_1029) <|
    HS.comp (s_iconst 2 (by decide +kernel) dL_law_1031) <|
    HS.comp (s_iadd dL_law_1032) <|
    HS.comp (s_sld (by decide) hb dL_law_1033) <|
    HS.comp (s_i2lZ dL_law_1034) <|
    HS.comp (s_ldc2 4294967295 kw1095 dL_law_1035) <|
    HS.comp (s_landZ dL_law_1038) <|
    s_lorZ dL_law_1039) rfl (by show _ ≤ 76266; omega) (by show _ ≤ 8873440; omega) ?_
  obtain ⟨w2, hF2, hw2⟩ := f_mwhere (rOL ((lN (rOL ((lN (rOL (nI (rOf (xs 1))).toInt64)) <<< ((nI 32).toInt64 &&& 63)))) ||| (lN (rOL ((lN (rOL (nI (rOf (xs 2))).toInt64)) &&& (lN 4294967295)))))) 14081
  refine HS.callE (as := [.inr (.inr 26909), .inr (.inl (rOL ((lN (rOL ((lN (rOL (nI (rOf (xs 1))).toInt64)) <<< ((nI 32).toInt64 &&& 63)))) ||| (lN (rOL ((lN (rOL (nI (rOf (xs 2))).toInt64)) &&& (lN 4294967295)))))))]) (st := [.inl 4294967295]) (s_callV 1 15 kc15 (ok_X13_where l) kGood kw1140 kw1141 kw1143 kw315 kw1142 (by decide +kernel) (by decide) (by decide) dL_law_1040) (fun h hv => rW.less h hv) hF2 rfl (Nat.le_of_ble_eq_true rfl) rfl hw2 (by show _ ≤ 76266; omega) (by show _ ≤ 8873440; omega) ?_
  refine V_icT (pcs := [1048, 1046]) (s_icmp_eq (b1 := 0) (b2 := 1) (tgt := 1048) rfl rfl (by decide) dL_law_1043) rfl (rEq_r _) (by show _ ≤ 76266; omega) (by show _ ≤ 8873440; omega) ?_
  exact lv_tail hb (by show _ ≤ 76266; omega) (by show _ ≤ 8873440; omega) (by simp) (by simp)
set_option maxRecDepth 1000000 in
set_option maxHeartbeats 40000000 in
theorem lc_clear (hl : l.stackTraces = false) (hb : G.2.2.2.1 30000 = .ref b) {c : Nat} (hc : c + 6 ≤ 8873440) : LV l G b 6 xs oL 289 [(4, .inl 0), (3, .inr (.inr 28161)), (2, .inr (.inr 26909)), (1, .inr (.inr 1)), (0, .inr (.inr 60002))] [] wL 14081 c := by
  refine HS.seg (ls' := [(4, .inl 0), (3, .inr (.inr 28161)), (2, .inr (.inr 26909)), (1, .inr (.inr 1)), (0, .inr (.inr 60002))]) (st' := [.inr (.inr 1)]) (w' := wL) (n' := 14081) (c' := c) (s_aload_n (k := 1) 1 rfl dL_law_289) rfl (by show _ ≤ 76266; omega) (by show _ ≤ 8873440; omega) ?_
  obtain ⟨w1, hF1, hw1⟩ := f_clear 14081
  refine HS.callE (as := [.inr (.inr 1)]) (st := []) (s_callV 0 13 kc13 (ok_X11_clear l) kGood kw1011 kw1012 kw1014 kw599 kw1013 (by decide +kernel) (by decide) (by decide) dL_law_290) (fun h hv => rW.less h hv) hF1 rfl (Nat.le_of_ble_eq_true rfl) rfl hw1 (by show _ ≤ 76266; omega) (by show _ ≤ 8873440; omega) ?_
  refine HS.seg (ls' := [(4, .inl 0), (3, .inr (.inr 28161)), (2, .inr (.inr 26909)), (1, .inr (.inr 1)), (0, .inr (.inr 60002))]) (st' := [.inr (.inr 26909)]) (w' := wM) (n' := 14081) (c' := c + 0) (s_aload_n (k := 2) 2 rfl dL_law_293) rfl (by show _ ≤ 76266; omega) (by show _ ≤ 8873440; omega) ?_
  obtain ⟨w2, hF2, hw2⟩ := f_mclear 14081
  refine HS.callE (as := [.inr (.inr 26909)]) (st := []) (s_callV 0 15 kc15 (ok_X13_clear l) kGood kw1015 kw1016 kw1018 kw315 kw1017 (by decide +kernel) (by decide) (by decide) dL_law_294) (fun h hv => rW.less h hv) hF2 rfl (Nat.le_of_ble_eq_true rfl) rfl hw2 (by show _ ≤ 76266; omega) (by show _ ≤ 8873440; omega) ?_
  refine V_go (pcs := [1048]) (s_goto (b := 0) (tgt := 1048) rfl (by decide) dL_law_297) rfl (by show _ ≤ 76266; omega) (by show _ ≤ 8873440; omega) ?_
  exact lv_tail hb (by show _ ≤ 76266; omega) (by show _ ≤ 8873440; omega) (by simp) (by simp)
set_option maxRecDepth 1000000 in
set_option maxHeartbeats 40000000 in
theorem lc_link (hl : l.stackTraces = false) (hb : G.2.2.2.1 30000 = .ref b) {c : Nat} (hc : c + 6 ≤ 8873440) : LV l G b 6 xs oL 411 [(4, .inl 0), (3, .inr (.inr 28161)), (2, .inr (.inr 26909)), (1, .inr (.inr 1)), (0, .inr (.inr 60002))] [] wL 14081 c := by
  refine HS.seg (ls' := [(4, .inl 0), (3, .inr (.inr 28161)), (2, .inr (.inr 26909)), (1, .inr (.inr 1)), (0, .inr (.inr 60002))]) (st' := [.inr (.inr 28161), .inr (.inr 1)]) (w' := wL) (n' := 14081) (c' := c) (HS.comp (s_aload_n (k := 1) 1 rfl dL_law_411) <|
    s_aload_n (k := 3) 3 rfl dL_law_412) rfl (by show _ ≤ 76266; omega) (by show _ ≤ 8873440; omega) ?_
  refine V_callH (as := [.inr (.inr 1), .inr (.inr 28161)]) (st := []) 2 (hm_link l hl ) (Nat.le_of_ble_eq_true rfl) kGood kw1043 kw1044 kw1001 kw1045 (by decide +kernel) (by decide) (by decide) rfl (Nat.le_of_ble_eq_true rfl) dL_law_413 (by show _ ≤ 76266; omega) (by show _ ≤ 8873440; omega) ?_
  refine HS.seg (ls' := [(5, .inl 1), (4, .inl 0), (3, .inr (.inr 28161)), (2, .inr (.inr 26909)), (1, .inr (.inr 1)), (0, .inr (.inr 60002))]) (st' := [.inr (.inr 26909)]) (w' := wM) (n' := 14082) (c' := c + 6) (HS.comp (s_istore 5 (by decide) dL_law_416) <|
    s_aload_n (k := 2) 2 rfl dL_law_418) rfl (by show _ ≤ 76266; omega) (by show _ ≤ 8873440; omega) ?_
  obtain ⟨w1, hF1, hw1⟩ := f_mlink 14082
  refine HS.callE (as := [.inr (.inr 26909)]) (st := []) (s_callV 0 15 kc15 (ok_X13_link l) kGood kw1046 kw1047 kw1049 kw315 kw1048 (by decide +kernel) (by decide) (by decide) dL_law_419) (fun h hv => rW.less h hv) hF1 rfl (Nat.le_of_ble_eq_true rfl) rfl hw1 (by show _ ≤ 76266; omega) (by show _ ≤ 8873440; omega) ?_
  refine HS.seg (ls' := [(6, .inl 0), (5, .inl 1), (4, .inl 0), (3, .inr (.inr 28161)), (2, .inr (.inr 26909)), (1, .inr (.inr 1)), (0, .inr (.inr 60002))]) (st' := [.inr (.inr 26909)]) (w' := wk_mlink) (n' := 14082) (c' := c + 6 + 0) (HS.comp (s_istore 6 (by decide) dL_law_422) <|
    s_aload_n (k := 2) 2 rfl dL_law_424) rfl (by show _ ≤ 76266; omega) (by show _ ≤ 8873440; omega) ?_
  obtain ⟨w2, hF2, hw2⟩ := f_thr_link 14082
  refine HS.callE (as := [.inr (.inr 26909)]) (st := []) (s_callV 0 15 kc15 (ok_X13_thrown l) kGood kw1007 kw1008 kw1010 kw315 kw1009 (by decide +kernel) (by decide) (by decide) dL_law_425) (fun h hv => rW.less h hv) hF2 rfl (Nat.le_of_ble_eq_true rfl) rfl hw2 (by show _ ≤ 76266; omega) (by show _ ≤ 8873440; omega) ?_
  refine HS.seg (ls' := [(6, .inl 0), (5, .inl 1), (4, .inl 0), (3, .inr (.inr 28161)), (2, .inr (.inr 26909)), (1, .inr (.inr 1)), (0, .inr (.inr 60002))]) (st' := [.inl 1, .inl 1]) (w' := []) (n' := 14082) (c' := c + 6 + 0 + 0) (s_iload 5 dL_law_428) rfl (by show _ ≤ 76266; omega) (by show _ ≤ 8873440; omega) ?_
  refine V_icT (pcs := [435, 433]) (s_icmp_eq (b1 := 0) (b2 := 1) (tgt := 435) rfl rfl (by decide) dL_law_430) rfl (rEq_r _) (by show _ ≤ 76266; omega) (by show _ ≤ 8873440; omega) ?_
  refine HS.seg (ls' := [(6, .inl 0), (5, .inl 1), (4, .inl 0), (3, .inr (.inr 28161)), (2, .inr (.inr 26909)), (1, .inr (.inr 1)), (0, .inr (.inr 60002))]) (st' := [.inl 1]) (w' := []) (n' := 14082) (c' := c + 6 + 0 + 0) (s_iload 5 dL_law_435) rfl (by show _ ≤ 76266; omega) (by show _ ≤ 8873440; omega) ?_
  refine V_ifT (pcs := [452, 440]) (s_if_ne (b1 := 0) (b2 := 1) (tgt := 452) rfl rfl (by decide) dL_law_437) rfl (by decide) (by show _ ≤ 76266; omega) (by show _ ≤ 8873440; omega) ?_
  refine V_go (pcs := [1048]) (s_goto (b := 0) (tgt := 1048) rfl (by decide) dL_law_452) rfl (by show _ ≤ 76266; omega) (by show _ ≤ 8873440; omega) ?_
  exact lv_tail hb (by show _ ≤ 76266; omega) (by show _ ≤ 8873440; omega) (by simp) (by simp)
end LAWW
