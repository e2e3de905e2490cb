/-! THE LAW'S WALK -/
section LAWW
variable {l : Launch} {G : rGm} {b : Nat} {xs : Nat → Int32}
set_option maxRecDepth 1000000 in
set_option maxHeartbeats 40000000 in
theorem lc_feed (hl : l.stackTraces = false) (hb : G.2.2.2.1 30000 = .ref b) {c : Nat} (hc : c + 6 ≤ 8873440) : LV l G b 6 xs oL 132 [(4, .inl 0), (3, .inr (.inr 28161)), (2, .inr (.inr 26909)), (1, .inr (.inr 1)), (0, .inr (.inr 60002))] [] wL 14081 c := by
  refine HS.seg (ls' := [(4, .inl 0), (3, .inr (.inr 28161)), (2, .inr (.inr 26909)), (1, .inr (.inr 1)), (0, .inr (.inr 60002))]) (st' := [.inl (rOf (xs 5)), .inl (rOf (xs 4)), .inl (rOf (xs 3)), .inl (rOf (xs 2)), .inl (rOf (xs 1)), .inr (.inr 1)]) (w' := wL) (n' := 14081) (c' := c) (HS.comp (s_aload_n (k := 1) 1 rfl dL_law_132) <|
    HS.comp (s_aload_n (k := 0) 0 rfl dL_law_133) <|
    HS.comp (s_iload 4 dL_law_134) <|
    HS.comp (s_iconst 1 (by decide +kernel) dL_law_136) <|
    HS.comp (s_iadd dL_law_137) <|
    HS.comp (s_sld (by decide) hb dL_law_138) <|
    HS.comp (s_aload_n (k := 0) 0 rfl dL_law_139) <|
    HS.comp (s_iload 4 dL_law_140) <|
    HS.comp (s_iconst 2 (by decide +kernel) dL_law_142) <|
    HS.comp (s_iadd dL_law_143) <|
    HS.comp (s_sld (by decide) hb dL_law_144) <|
    HS.comp (s_aload_n (k := 0) 0 rfl dL_law_145) <|
    HS.comp (s_iload 4 dL_law_146) <|
    HS.comp (s_iconst 3 (by decide +kernel) dL_law_148) <|
    HS.comp (s_iadd dL_law_149) <|
    HS.comp (s_sld (by decide) hb dL_law_150) <|
    HS.comp (s_aload_n (k := 0) 0 rfl dL_law_151) <|
    HS.comp (s_iload 4 dL_law_152) <|
    HS.comp (s_iconst 4 (by decide +kernel) dL_law_154) <|
    HS.comp (s_iadd dL_law_155) <|
    HS.comp (s_sld (by decide) hb dL_law_156) <|
    HS.comp (s_aload_n (k := 0) 0 rfl dL_law_157) <|
    HS.comp (s_iload 4 dL_law_158) <|
    HS.comp (s_iconst 5 (by decide +kernel) dL_law_160) <|
    HS.comp (s_iadd dL_law_161) <|
    s_sld (by decide) hb dL_law_162) rfl (by show _ ≤ 76266; omega) (by show _ ≤ 8873440; omega) ?_
  obtain ⟨w1, hF1, hw1⟩ := f_feed (rOf (xs 1)) (rOf (xs 2)) (rOf (xs 3)) (rOf (xs 4)) (rOf (xs 5)) 14081
  refine HS.callE (as := [.inr (.inr 1), .inl (rOf (xs 1)), .inl (rOf (xs 2)), .inl (rOf (xs 3)), .inl (rOf (xs 4)), .inl (rOf (xs 5))]) (st := []) (s_callV 5 13 kc13 (ok_X11_feed l) kGood kw991 kw992 kw994 kw599 kw993 (by decide +kernel) (by decide) (by decide) dL_law_163) (fun h hv => rW.less h hv) hF1 rfl (Nat.le_of_ble_eq_true rfl) rfl hw1 (by show _ ≤ 76266; omega) (by show _ ≤ 8873440; omega) ?_
  refine HS.seg (ls' := [(4, .inl 0), (3, .inr (.inr 28161)), (2, .inr (.inr 26909)), (1, .inr (.inr 1)), (0, .inr (.inr 60002))]) (st' := [.inl (rOf (xs 5)), .inl (rOf (xs 4)), .inl (rOf (xs 3)), .inl (rOf (xs 2)), .inl (rOf (xs 1)), .inr (.inr 26909), .inl 20]) (w' := wM) (n' := 14081) (c' := c + 0) (HS.comp (s_aload_n (k := 2) 2 rfl dL_law_166) <|
    HS.comp (s_aload_n (k := 0) 0 rfl dL_law_167) <|
    HS.comp (s_iload 4 dL_law_168) <|
    HS.comp (s_iconst 1 (by decide +kernel) dL_law_170) <|
    HS.comp (s_iadd dL_law_171) <|
    HS.comp (s_sld (by decide) hb dL_law_172) <|
    HS.comp (s_aload_n (k := 0) 0 rfl dL_law_173) <|
    HS.comp (s_iload 4 dL_law_174) <|
    HS.comp (s_iconst 2 (by decide +kernel) dL_law_176) <|
    HS.comp (s_iadd dL_law_177) <|
    HS.comp (s_sld (by decide) hb dL_law_178) <|
    HS.comp (s_aload_n (k := 0) 0 rfl dL_law_179) <|
    HS.comp (s_iload 4 dL_law_180) <|
    HS.comp (s_iconst 3 (by decide +kernel) dL_law_182) <|
    HS.comp (s_iadd dL_law_183) <|
    HS.comp (s_sld (by decide) hb dL_law_184) <|
    HS.comp (s_aload_n (k := 0) 0 rfl dL_law_185) <|
    HS.comp (s_iload 4 dL_law_186) <|
    HS.comp (s_iconst 4 (by decide +kernel) dL_law_188) <|
    HS.comp (s_iadd dL_law_189) <|
    HS.comp (s_sld (by decide) hb dL_law_190) <|
    HS.comp (s_aload_n (k := 0) 0 rfl dL_law_191) <|
    HS.comp (s_iload 4 dL_law_192) <|
    HS.comp (s_iconst 5 (by decide +kernel) dL_law_194) <|
    HS.comp (s_iadd dL_law_195) <|
    s_sld (by decide) hb dL_law_196) rfl (by show _ ≤ 76266; omega) (by show _ ≤ 8873440; omega) ?_
  obtain ⟨w2, hF2, hw2⟩ := f_mfeed (rOf (xs 1)) (rOf (xs 2)) (rOf (xs 3)) (rOf (xs 4)) (rOf (xs 5)) 14081
  refine HS.callE (as := [.inr (.inr 26909), .inl (rOf (xs 1)), .inl (rOf (xs 2)), .inl (rOf (xs 3)), .inl (rOf (xs 4)), .inl (rOf (xs 5))]) (st := [.inl 20]) (s_callV 5 15 kc15 (ok_X13_feed l) kGood kw995 kw996 kw998 kw315 kw997 (by decide +kernel) (by decide) (by decide) dL_law_197) (fun h hv => rW.less h hv) hF2 rfl (Nat.le_of_ble_eq_true rfl) rfl hw2 (by show _ ≤ 76266; omega) (by show _ ≤ 8873440; omega) ?_
  refine V_icT (pcs := [1048, 203]) (s_icmp_eq (b1 := 0) (b2 := 1) (tgt := 1048) rfl rfl (by decide) dL_law_200) rfl (rEq_r _) (by show _ ≤ 76266; omega) (by show _ ≤ 8873440; omega) ?_
  exact lv_tail hb (by show _ ≤ 76266; omega) (by show _ ≤ 8873440; omega) (by simp) (by simp)
set_option maxRecDepth 1000000 in
set_option maxHeartbeats 40000000 in
theorem lc_fault (hl : l.stackTraces = false) (hb : G.2.2.2.1 30000 = .ref b) {c : Nat} (hc : c + 6 ≤ 8873440) : LV l G b 6 xs oL 300 [(4, .inl 0), (3, .inr (.inr 28161)), (2, .inr (.inr 26909)), (1, .inr (.inr 1)), (0, .inr (.inr 60002))] [] wL 14081 c := by
  refine HS.seg (ls' := [(4, .inl 0), (3, .inr (.inr 28161)), (2, .inr (.inr 26909)), (1, .inr (.inr 1)), (0, .inr (.inr 60002))]) (st' := [.inl (rOf (xs 1)), .inr (.inr 1)]) (w' := wL) (n' := 14081) (c' := c) (HS.comp (s_aload_n (k := 1) 1 rfl dL_law_300) <|
    HS.comp (s_aload_n (k := 0) 0 rfl dL_law_301) <|
    HS.comp (s_iload 4 dL_law_302) <|
    HS.comp (s_iconst 1 (by decide +kernel) dL_law_304) <|
    HS.comp (s_iadd dL_law_305) <|
    s_sld (by decide) hb dL_law_306) rfl (by show _ ≤ 76266; omega) (by show _ ≤ 8873440; omega) ?_
  obtain ⟨w1, hF1, hw1⟩ := f_fault (rOf (xs 1)) 14081
  refine HS.callE (as := [.inr (.inr 1), .inl (rOf (xs 1))]) (st := []) (s_callV 1 13 kc13 (ok_X11_fault l) kGood kw1019 kw1020 kw1022 kw599 kw1021 (by decide +kernel) (by decide) (by decide) dL_law_307) (fun h hv => rW.less h hv) hF1 rfl (Nat.le_of_ble_eq_true rfl) rfl hw1 (by show _ ≤ 76266; omega) (by show _ ≤ 8873440; omega) ?_
  refine HS.seg (ls' := [(4, .inl 0), (3, .inr (.inr 28161)), (2, .inr (.inr 26909)), (1, .inr (.inr 1)), (0, .inr (.inr 60002))]) (st' := [.inl (rOf (xs 1)), .inr (.inr 26909), .inl (rB (rNot (rEq (rOf (xs 1)) 0)) (rB (rNot (rEq (rOf (xs 1)) 1)) (4294967295) (0)) (0))]) (w' := wM) (n' := 14081) (c' := c + 0) (HS.comp (s_aload_n (k := 2) 2 rfl dL_law_310) <|
    HS.comp (s_aload_n (k := 0) 0 rfl dL_law_311) <|
    HS.comp (s_iload 4 dL_law_312) <|
    HS.comp (s_iconst 1 (by decide +kernel) dL_law_314) <|
    HS.comp (s_iadd dL_law_315) <|
    s_sld (by decide) hb dL_law_316) rfl (by show _ ≤ 76266; omega) (by show _ ≤ 8873440; omega) ?_
  obtain ⟨w2, hF2, hw2⟩ := f_mfault (rOf (xs 1)) 14081
  refine HS.callE (as := [.inr (.inr 26909), .inl (rOf (xs 1))]) (st := [.inl (rB (rNot (rEq (rOf (xs 1)) 0)) (rB (rNot (rEq (rOf (xs 1)) 1)) (4294967295) (0)) (0))]) (s_callV 1 15 kc15 (ok_X13_fault l) kGood kw1023 kw1024 kw1026 kw315 kw1025 (by decide +kernel) (by decide) (by decide) dL_law_317) (fun h hv => rW.less h hv) hF2 rfl (Nat.le_of_ble_eq_true rfl) rfl hw2 (by show _ ≤ 76266; omega) (by show _ ≤ 8873440; omega) ?_
  refine V_icT (pcs := [1048, 323]) (s_icmp_eq (b1 := 0) (b2 := 1) (tgt := 1048) rfl rfl (by decide) dL_law_320) rfl (rEq_r _) (by show _ ≤ 76266; omega) (by show _ ≤ 8873440; omega) ?_
  exact lv_tail hb (by show _ ≤ 76266; omega) (by show _ ≤ 8873440; omega) (by simp) (by simp)
set_option maxRecDepth 1000000 in
set_option maxHeartbeats 40000000 in
theorem lc_size (hl : l.stackTraces = false) (hb : G.2.2.2.1 30000 = .ref b) {c : Nat} (hc : c + 6 ≤ 8873440) : LV l G b 6 xs oL 325 [(4, .inl 0), (3, .inr (.inr 28161)), (2, .inr (.inr 26909)), (1, .inr (.inr 1)), (0, .inr (.inr 60002))] [] wL 14081 c := by
  refine HS.seg (ls' := [(4, .inl 0), (3, .inr (.inr 28161)), (2, .inr (.inr 26909)), (1, .inr (.inr 1)), (0, .inr (.inr 60002))]) (st' := [.inl (rOf (xs 2)), .inl (rOf (xs 1)), .inr (.inr 1)]) (w' := wL) (n' := 14081) (c' := c) (HS.comp (s_aload_n (k := 1) 1 rfl dL_law_325) <|
    HS.comp (s_aload_n (k := 0) 0 rfl dL_law_326) <|
    HS.comp (s_iload 4 dL_law_327) <|
    HS.comp (s_iconst 1 (by decide +kernel) dL_law_329) <|
    HS.comp (s_iadd dL_law_330) <|
    HS.comp (s_sld (by decide) hb dL_law_331) <|
    HS.comp (s_aload_n (k := 0) 0 rfl dL_law_332) <|
    HS.comp (s_iload 4 dL_law_333) <|
    HS.comp (s_iconst 2 (by decide +kernel) dL_law_335) <|
    HS.comp (s_iadd dL_law_336) <|
    s_sld (by decide) hb dL_law_337) rfl (by show _ ≤ 76266; omega) (by show _ ≤ 8873440; omega) ?_
  obtain ⟨w1, hF1, hw1⟩ := f_size (rOf (xs 1)) (rOf (xs 2)) 14081
  refine HS.callE (as := [.inr (.inr 1), .inl (rOf (xs 1)), .inl (rOf (xs 2))]) (st := []) (s_callV 2 13 kc13 (ok_X11_size l) kGood kw1027 kw1028 kw1030 kw599 kw1029 (by decide +kernel) (by decide) (by decide) dL_law_338) (fun h hv => rW.less h hv) hF1 rfl (Nat.le_of_ble_eq_true rfl) rfl hw1 (by show _ ≤ 76266; omega) (by show _ ≤ 8873440; omega) ?_
  refine HS.seg (ls' := [(4, .inl 0), (3, .inr (.inr 28161)), (2, .inr (.inr 26909)), (1, .inr (.inr 1)), (0, .inr (.inr 60002))]) (st' := [.inl (rOf (xs 2)), .inl (rOf (xs 1)), .inr (.inr 26909), .inl 4294967295]) (w' := wM) (n' := 14081) (c' := c + 0) (HS.comp (s_aload_n (k := 2) 2 rfl dL_law_341) <|
    HS.comp (s_aload_n (k := 0) 0 rfl dL_law_342) <|
    HS.comp (s_iload 4 dL_law_343) <|
    HS.comp (s_iconst 1 (by decide +kernel) dL_law_345) <|
    HS.comp (s_iadd dL_law_346) <|
    HS.comp (s_sld (by decide) hb dL_law_347) <|
    HS.comp (s_aload_n (k := 0) 0 rfl dL_law_348) <|
    HS.comp (s_iload 4 dL_law_349) <|
    HS.comp (s_iconst 2 (by decide +kernel) dL_law_351) <|
    HS.comp (s_iadd dL_law_352) <|
    s_sld (by decide) hb dL_law_353) rfl (by show _ ≤ 76266; omega) (by show _ ≤ 8873440; omega) ?_
  obtain ⟨w2, hF2, hw2⟩ := f_msize (rOf (xs 1)) (rOf (xs 2)) 14081
  refine HS.callE (as := [.inr (.inr 26909), .inl (rOf (xs 1)), .inl (rOf (xs 2))]) (st := [.inl 4294967295]) (s_callV 2 15 kc15 (ok_X13_size l) kGood kw1031 kw1032 kw1034 kw315 kw1033 (by decide +kernel) (by decide) (by decide) dL_law_354) (fun h hv => rW.less h hv) hF2 rfl (Nat.le_of_ble_eq_true rfl) rfl hw2 (by show _ ≤ 76266; omega) (by show _ ≤ 8873440; omega) ?_
  refine V_icT (pcs := [1048, 360]) (s_icmp_eq (b1 := 0) (b2 := 1) (tgt := 1048) rfl rfl (by decide) dL_law_357) rfl (rEq_r _) (by show _ ≤ 76266; omega) (by show _ ≤ 8873440; omega) ?_
  exact lv_tail hb (by show _ ≤ 76266; omega) (by show _ ≤ 8873440; omega) (by simp) (by simp)
set_option maxRecDepth 1000000 in
set_option maxHeartbeats 40000000 in
theorem lc_octet (hl : l.stackTraces = false) (hb : G.2.2.2.1 30000 = .ref b) {c : Nat} (hc : c + 6 ≤ 8873440) : LV l G b 6 xs oL 362 [(4, .inl 0), (3, .inr (.inr 28161)), (2, .inr (.inr 26909)), (1, .inr (.inr 1)), (0, .inr (.inr 60002))] [] wL 14081 c := by
  refine HS.seg (ls' := [(4, .inl 0), (3, .inr (.inr 28161)), (2, .inr (.inr 26909)), (1, .inr (.inr 1)), (0, .inr (.inr 60002))]) (st' := [.inl (rOf (xs 3)), .inl (rOf (xs 2)), .inl (rOf (xs 1)), .inr (.inr 1)]) (w' := wL) (n' := 14081) (c' := c) (HS.comp (s_aload_n (k := 1) 1 rfl dL_law_362) <|
    HS.comp (s_aload_n (k := 0) 0 rfl dL_law_363) <|
    HS.comp (s_iload 4 dL_law_364) <|
    HS.comp (s_iconst 1 (by decide +kernel) dL_law_366) <|
    HS.comp (s_iadd dL_law_367) <|
    HS.comp (s_sld (by decide) hb dL_law_368) <|
    HS.comp (s_aload_n (k := 0) 0 rfl dL_law_369) <|
    HS.comp (s_iload 4 dL_law_370) <|
    HS.comp (s_iconst 2 (by decide +kernel) dL_law_372) <|
    HS.comp (s_iadd dL_law_373) <|
    HS.comp (s_sld (by decide) hb dL_law_374) <|
    HS.comp (s_aload_n (k := 0) 0 rfl dL_law_375) <|
    HS.comp (s_iload 4 dL_law_376) <|
    HS.comp (s_iconst 3 (by decide +kernel) dL_law_378) <|
    HS.comp (s_iadd dL_law_379) <|
    s_sld (by decide) hb dL_law_380) rfl (by show _ ≤ 76266; omega) (by show _ ≤ 8873440; omega) ?_
  obtain ⟨w1, hF1, hw1⟩ := f_octet (rOf (xs 1)) (rOf (xs 2)) (rOf (xs 3)) 14081
  refine HS.callE (as := [.inr (.inr 1), .inl (rOf (xs 1)), .inl (rOf (xs 2)), .inl (rOf (xs 3))]) (st := []) (s_callV 3 13 kc13 (ok_X11_octet l) kGood kw1035 kw1036 kw1038 kw599 kw1037 (by decide +kernel) (by decide) (by decide) dL_law_381) (fun h hv => rW.less h hv) hF1 rfl (Nat.le_of_ble_eq_true rfl) rfl hw1 (by show _ ≤ 76266; omega) (by show _ ≤ 8873440; omega) ?_
  refine HS.seg (ls' := [(4, .inl 0), (3, .inr (.inr 28161)), (2, .inr (.inr 26909)), (1, .inr (.inr 1)), (0, .inr (.inr 60002))]) (st' := [.inl (rOf (xs 3)), .inl (rOf (xs 2)), .inl (rOf (xs 1)), .inr (.inr 26909), .inl 4294967295]) (w' := wM) (n' := 14081) (c' := c + 0) (HS.comp (s_aload_n (k := 2) 2 rfl dL_law_384) <|
    HS.comp (s_aload_n (k := 0) 0 rfl dL_law_385) <|
    HS.comp (s_iload 4 dL_law_386) <|
    HS.comp (s_iconst 1 (by decide +kernel) dL_law_388) <|
    HS.comp (s_iadd dL_law_389) <|
    HS.comp (s_sld (by decide) hb dL_law_390) <|
    HS.comp (s_aload_n (k := 0) 0 rfl dL_law_391) <|
    HS.comp (s_iload 4 dL_law_392) <|
    HS.comp (s_iconst 2 (by decide +kernel) dL_law_394) <|
    HS.comp (s_iadd dL_law_395) <|
    HS.comp (s_sld (by decide) hb dL_law_396) <|
    HS.comp (s_aload_n (k := 0) 0 rfl dL_law_397) <|
    HS.comp (s_iload 4 dL_law_398) <|
    HS.comp (s_iconst 3 (by decide +kernel) dL_law_400) <|
    HS.comp (s_iadd dL_law_401) <|
    s_sld (by decide) hb dL_law_402) rfl (by show _ ≤ 76266; omega) (by show _ ≤ 8873440; omega) ?_
  obtain ⟨w2, hF2, hw2⟩ := f_moctet (rOf (xs 1)) (rOf (xs 2)) (rOf (xs 3)) 14081
  refine HS.callE (as := [.inr (.inr 26909), .inl (rOf (xs 1)), .inl (rOf (xs 2)), .inl (rOf (xs 3))]) (st := [.inl 4294967295]) (s_callV 3 15 kc15 (ok_X13_octet l) kGood kw1039 kw1040 kw1042 kw315 kw1041 (by decide +kernel) (by decide) (by decide) dL_law_403) (fun h hv => rW.less h hv) hF2 rfl (Nat.le_of_ble_eq_true rfl) rfl hw2 (by show _ ≤ 76266; omega) (by show _ ≤ 8873440; omega) ?_
  refine V_icT (pcs := [1048, 409]) (s_icmp_eq (b1 := 0) (b2 := 1) (tgt := 1048) rfl rfl (by decide) dL_law_406) rfl (rEq_r _) (by show _ ≤ 76266; omega) (by show _ ≤ 8873440; omega) ?_
  exact lv_tail hb (by show _ ≤ 76266; omega) (by show _ ≤ 8873440; omega) (by simp) (by simp)
set_option maxRecDepth 1000000 in
set_option maxHeartbeats 40000000 in
theorem lc_input (hl : l.stackTraces = false) (hb : G.2.2.2.1 30000 = .ref b) {c : Nat} (hc : c + 6 ≤ 8873440) : LV l G b 6 xs oL 553 [(4, .inl 0), (3, .inr (.inr 28161)), (2, .inr (.inr 26909)), (1, .inr (.inr 1)), (0, .inr (.inr 60002))] [] wL 14081 c := by
  refine HS.seg (ls' := [(4, .inl 0), (3, .inr (.inr 28161)), (2, .inr (.inr 26909)), (1, .inr (.inr 1)), (0, .inr (.inr 60002))]) (st' := [.inl (rOf (xs 1)), .inr (.inr 1)]) (w' := wL) (n' := 14081) (c' := c) (HS.comp (s_aload_n (k := 1) 1 rfl dL_law_553) <|
    HS.comp (s_aload_n (k := 0) 0 rfl dL_law_554) <|
    HS.comp (s_iload 4 dL_law_555) <|
    HS.comp (s_iconst 1 (by decide +kernel) dL_law_557) <|
    HS.comp (s_iadd dL_law_558) <|
    s_sld (by decide) hb dL_law_559) rfl (by show _ ≤ 76266; omega) (by show _ ≤ 8873440; omega) ?_
  obtain ⟨w1, hF1, hw1⟩ := f_input (rOf (xs 1)) 14081
  refine HS.callE (as := [.inr (.inr 1), .inl (rOf (xs 1))]) (st := []) (s_callV 1 13 kc13 (ok_X11_input l) kGood kw1064 kw1065 kw1067 kw599 kw1066 (by decide +kernel) (by decide) (by decide) dL_law_560) (fun h hv => rW.less h hv) hF1 rfl (Nat.le_of_ble_eq_true rfl) rfl hw1 (by show _ ≤ 76266; omega) (by show _ ≤ 8873440; omega) ?_
  refine HS.seg (ls' := [(4, .inl 0), (3, .inr (.inr 28161)), (2, .inr (.inr 26909)), (1, .inr (.inr 1)), (0, .inr (.inr 60002))]) (st' := [.inl (rOf (xs 1)), .inr (.inr 26909), .inl 0]) (w' := wM) (n' := 14081) (c' := c + 0) (HS.comp (s_aload_n (k := 2) 2 rfl dL_law_563) <|
    HS.comp (s_aload_n (k := 0) 0 rfl dL_law_564) <|
    HS.comp (s_iload 4 dL_law_565) <|
    HS.comp (s_iconst 1 (by decide +kernel) dL_law_567) <|
    HS.comp (s_iadd dL_law_568) <|
    s_sld (by decide) hb dL_law_569) rfl (by show _ ≤ 76266; omega) (by show _ ≤ 8873440; omega) ?_
  obtain ⟨w2, hF2, hw2⟩ := f_minput (rOf (xs 1)) 14081
  refine HS.callE (as := [.inr (.inr 26909), .inl (rOf (xs 1))]) (st := [.inl 0]) (s_callV 1 15 kc15 (ok_X13_input l) kGood kw1068 kw1069 kw1071 kw315 kw1070 (by decide +kernel) (by decide) (by decide) dL_law_570) (fun h hv => rW.less h hv) hF2 rfl (Nat.le_of_ble_eq_true rfl) rfl hw2 (by show _ ≤ 76266; omega) (by show _ ≤ 8873440; omega) ?_
  refine V_icT (pcs := [1048, 576]) (s_icmp_eq (b1 := 0) (b2 := 1) (tgt := 1048) rfl rfl (by decide) dL_law_573) rfl (rEq_r _) (by show _ ≤ 76266; omega) (by show _ ≤ 8873440; omega) ?_
  exact lv_tail hb (by show _ ≤ 76266; omega) (by show _ ≤ 8873440; omega) (by simp) (by simp)
set_option maxRecDepth 1000000 in
set_option maxHeartbeats 40000000 in
theorem lc_stop (hl : l.stackTraces = false) (hb : G.2.2.2.1 30000 = .ref b) {c : Nat} (hc : c + 6 ≤ 8873440) : LV l G b 6 xs oL 634 [(4, .inl 0), (3, .inr (.inr 28161)), (2, .inr (.inr 26909)), (1, .inr (.inr 1)), (0, .inr (.inr 60002))] [] wL 14081 c := by
  refine HS.seg (ls' := [(4, .inl 0), (3, .inr (.inr 28161)), (2, .inr (.inr 26909)), (1, .inr (.inr 1)), (0, .inr (.inr 60002))]) (st' := [.inl (rOf (xs 1)), .inr (.inr 1)]) (w' := wL) (n' := 14081) (c' := c) (HS.comp (s_aload_n (k := 1) 1 rfl dL_law_634) <|
    HS.comp (s_aload_n (k := 0) 0 rfl dL_law_635) <|
    HS.comp (s_iload 4 dL_law_636) <|
    HS.comp (s_iconst 1 (by decide +kernel) dL_law_638) <|
    HS.comp (s_iadd dL_law_639) <|
    s_sld (by decide) hb dL_law_640) rfl (by show _ ≤ 76266; omega) (by show _ ≤ 8873440; omega) ?_
  obtain ⟨w1, hF1, hw1⟩ := f_stop (rOf (xs 1)) 14081
  refine HS.callE (as := [.inr (.inr 1), .inl (rOf (xs 1))]) (st := []) (s_callV 1 13 kc13 (ok_X11_stop l) kGood kw1079 kw1080 kw1082 kw599 kw1081 (by decide +kernel) (by decide) (by decide) dL_law_641) (fun h hv => rW.less h hv) hF1 rfl (Nat.le_of_ble_eq_true rfl) rfl hw1 (by show _ ≤ 76266; omega) (by show _ ≤ 8873440; omega) ?_
  refine HS.seg (ls' := [(4, .inl 0), (3, .inr (.inr 28161)), (2, .inr (.inr 26909)), (1, .inr (.inr 1)), (0, .inr (.inr 60002))]) (st' := [.inl (rOf (xs 1)), .inr (.inr 26909), .inr (.inl 0)]) (w' := wM) (n' := 14081) (c' := c + 0) (HS.comp (s_aload_n (k := 2) 2 rfl dL_law_644) <|
    HS.comp (s_aload_n (k := 0) 0 rfl dL_law_645) <|
    HS.comp (s_iload 4 dL_law_646) <|
    HS.comp (s_iconst 1 (by decide +kernel) dL_law_648) <|
    HS.comp (s_iadd dL_law_649) <|
    s_sld (by decide) hb dL_law_650) rfl (by show _ ≤ 76266; omega) (by show _ ≤ 8873440; omega) ?_
  obtain ⟨w2, hF2, hw2⟩ := f_mstop (rOf (xs 1)) 14081
  refine HS.callE (as := [.inr (.inr 26909), .inl (rOf (xs 1))]) (st := [.inr (.inl 0)]) (s_callV 1 15 kc15 (ok_X13_stop l) kGood kw1083 kw1084 kw1086 kw315 kw1085 (by decide +kernel) (by decide) (by decide) dL_law_651) (fun h hv => rW.less h hv) hF2 rfl (Nat.le_of_ble_eq_true rfl) rfl hw2 (by show _ ≤ 76266; omega) (by show _ ≤ 8873440; omega) ?_
  refine HS.seg (ls' := [(4, .inl 0), (3, .inr (.inr 28161)), (2, .inr (.inr 26909)), (1, .inr (.inr 1)), (0, .inr (.inr 60002))]) (st' := [.inl 0]) (w' := []) (n' := 14081) (c' := c + 0 + 0) (s_lcmp dL_law_654) rfl (by show _ ≤ 76266; omega) (by show _ ≤ 8873440; omega) ?_
  refine V_ifT (pcs := [1048, 658]) (s_if_eq (b1 := 0) (b2 := 1) (tgt := 1048) rfl rfl (by decide) dL_law_655) rfl (by decide) (by show _ ≤ 76266; omega) (by show _ ≤ 8873440; omega) ?_
  exact lv_tail hb (by show _ ≤ 76266; omega) (by show _ ≤ 8873440; omega) (by simp) (by simp)
set_option maxRecDepth 1000000 in
set_option maxHeartbeats 40000000 in
theorem lc_register (hl : l.stackTraces = false) (hb : G.2.2.2.1 30000 = .ref b) {c : Nat} (hc : c + 6 ≤ 8873440) : LV l G b 6 xs oL 660 [(4, .inl 0), (3, .inr (.inr 28161)), (2, .inr (.inr 26909)), (1, .inr (.inr 1)), (0, .inr (.inr 60002))] [] wL 14081 c := by
  refine HS.seg (ls' := [(4, .inl 0), (3, .inr (.inr 28161)), (2, .inr (.inr 26909)), (1, .inr (.inr 1)), (0, .inr (.inr 60002))]) (st' := [.inl (rOf (xs 1)), .inr (.inr 1)]) (w' := wL) (n' := 14081) (c' := c) (HS.comp (s_aload_n (k := 1) 1 rfl dL_law_660) <|
    HS.comp (s_aload_n (k := 0) 0 rfl dL_law_661) <|
    HS.comp (s_iload 4 dL_law_662) <|
    HS.comp (s_iconst 1 (by decide +kernel) dL_law_664) <|
    HS.comp (s_iadd dL_law_665) <|
    s_sld (by decide) hb dL_law_666) rfl (by show _ ≤ 76266; omega) (by show _ ≤ 8873440; omega) ?_
  obtain ⟨w1, hF1, hw1⟩ := f_register (rOf (xs 1)) 14081 (rOf_lt _)
  refine HS.callE (as := [.inr (.inr 1), .inl (rOf (xs 1))]) (st := []) (s_callV 1 13 kc13 (ok_X11_register l) kGood kw1087 kw1088 kw1090 kw599 kw1089 (by decide +kernel) (by decide) (by decide) dL_law_667) (fun h hv => rW.less h hv) hF1 rfl (Nat.le_of_ble_eq_true rfl) rfl hw1 (by show _ ≤ 76266; omega) (by show _ ≤ 8873440; omega) ?_
  refine HS.seg (ls' := [(4, .inl 0), (3, .inr (.inr 28161)), (2, .inr (.inr 26909)), (1, .inr (.inr 1)), (0, .inr (.inr 60002))]) (st' := [.inl (rOf (xs 1)), .inr (.inr 26909), .inr (.inl (rB (rLt (rOf (xs 1)) 0) (rB (rNot (rEq (rOf (xs 1)) 16)) (rB (rNot (rEq (rOf (xs 1)) 17)) (rB (rNot (rEq (rOf (xs 1)) 18)) (0) (4194304)) (2)) (0)) (rB (rNot (rLt (rOf (xs 1)) 16)) (rB (rNot (rEq (rOf (xs 1)) 16)) (rB (rNot (rEq (rOf (xs 1)) 17)) (rB (rNot (rEq (rOf (xs 1)) 18)) (0) (4194304)) (2)) (0)) (0))))]) (w' := wM) (n' := 14081) (c' := c + 0) (HS.comp (s_aload_n (k := 2) 2 rfl dL_law_670) <|
    HS.comp (s_aload_n (k := 0) 0 rfl dL_law_671) <|
    HS.comp (s_iload 4 dL_law_672) <|
    HS.comp (s_iconst 1 (by decide +kernel) dL_law_674) <|
    HS.comp (s_iadd dL_law_675) <|
    s_sld (by decide) hb dL_law_676) rfl (by show _ ≤ 76266; omega) (by show _ ≤ 8873440; omega) ?_
  obtain ⟨w2, hF2, hw2⟩ := f_mregister (rOf (xs 1)) 14081 (rOf_lt _)
  refine HS.callE (as := [.inr (.inr 26909), .inl (rOf (xs 1))]) (st := [.inr (.inl (rB (rLt (rOf (xs 1)) 0) (rB (rNot (rEq (rOf (xs 1)) 16)) (rB (rNot (rEq (rOf (xs 1)) 17)) (rB (rNot (rEq (rOf (xs 1)) 18)) (0) (4194304)) (2)) (0)) (rB (rNot (rLt (rOf (xs 1)) 16)) (rB (rNot (rEq (rOf (xs 1)) 16)) (rB (rNot (rEq (rOf (xs 1)) 17)) (rB (rNot (rEq (rOf (xs 1)) 18)) (0) (4194304)) (2)) (0)) (0))))]) (s_callV 1 15 kc15 (ok_X13_register l) kGood kw1091 kw1092 kw1094 kw315 kw1093 (by decide +kernel) (by decide) (by decide) dL_law_677) (fun h hv => rW.less h hv) hF2 rfl (Nat.le_of_ble_eq_true rfl) rfl hw2 (by show _ ≤ 76266; omega) (by show _ ≤ 8873440; omega) ?_
  refine HS.seg (ls' := [(4, .inl 0), (3, .inr (.inr 28161)), (2, .inr (.inr 26909)), (1, .inr (.inr 1)), (0, .inr (.inr 60002))]) (st' := [.inl (rOf (lg_cmp (lN (rB (rLt (rOf (xs 1)) 0) (rB (rNot (rEq (rOf (xs 1)) 16)) (rB (rNot (rEq (rOf (xs 1)) 17)) (rB (rNot (rEq (rOf (xs 1)) 18)) (0) (4194304)) (2)) (0)) (rB (rNot (rLt (rOf (xs 1)) 16)) (rB (rNot (rEq (rOf (xs 1)) 16)) (rB (rNot (rEq (rOf (xs 1)) 17)) (rB (rNot (rEq (rOf (xs 1)) 18)) (0) (4194304)) (2)) (0)) (0)))) (lN (rB (rLt (rOf (xs 1)) 0) (rB (rNot (rEq (rOf (xs 1)) 16)) (rB (rNot (rEq (rOf (xs 1)) 17)) (rB (rNot (rEq (rOf (xs 1)) 18)) (0) (4194304)) (2)) (0)) (rB (rNot (rLt (rOf (xs 1)) 16)) (rB (rNot (rEq (rOf (xs 1)) 16)) (rB (rNot (rEq (rOf (xs 1)) 17)) (rB (rNot (rEq (rOf (xs 1)) 18)) (0) (4194304)) (2)) (0)) (0))))))]) (w' := []) (n' := 14081) (c' := c + 0 + 0) (s_lcmp dL_law_680) rfl (by show _ ≤ 76266; omega) (by show _ ≤ 8873440; omega) ?_
  refine V_ifT (pcs := [1048, 684]) (s_if_eq (b1 := 0) (b2 := 1) (tgt := 1048) rfl rfl (by decide) dL_law_681) rfl (rLc_r _) (by show _ ≤ 76266; omega) (by show _ ≤ 8873440; omega) ?_
  exact lv_tail hb (by show _ ≤ 76266; omega) (by show _ ≤ 8873440; omega) (by simp) (by simp)
set_option maxRecDepth 1000000 in
set_option maxHeartbeats 40000000 in
theorem lc_set (hl : l.stackTraces = false) (hb : G.2.2.2.1 30000 = .ref b) {c : Nat} (hc : c + 6 ≤ 8873440) : LV l G b 6 xs oL 686 [(4, .inl 0), (3, .inr (.inr 28161)), (2, .inr (.inr 26909)), (1, .inr (.inr 1)), (0, .inr (.inr 60002))] [] wL 14081 c := by
  refine HS.seg (ls' := [(4, .inl 0), (3, .inr (.inr 28161)), (2, .inr (.inr 26909)), (1, .inr (.inr 1)), (0, .inr (.inr 60002))]) (st' := [.inr (.inl (rOL ((lN (rOL ((lN (rOL (nI (rOf (xs 2))).toInt64)) <<< ((nI 32).toInt64 &&& 63)))) ||| (lN (rOL ((lN (rOL (nI (rOf (xs 3))).toInt64)) &&& (lN 4294967295))))))), .inl (rOf (xs 1)), .inr (.inr 1)]) (w' := wL) (n' := 14081) (c' := c) (HS.comp (s_aload_n (k := 1) 1 rfl dL_law_686) <|
    HS.comp (s_aload_n (k := 0) 0 rfl dL_law_687) <|
    HS.comp (s_iload 4 dL_law_688) <|
    HS.comp (s_iconst 1 (by decide +kernel) dL_law_690) <|
    HS.comp (s_iadd dL_law_691) <|
    HS.comp (s_sld (by decide) hb dL_law_692) <|
    HS.comp (s_aload_n (k := 0) 0 rfl dL_law_693) <|
    HS.comp (s_iload 4 dL_law_694) <|
    HS.comp (s_iconst 2 (by decide +kernel) dL_law_696) <|
    HS.comp (s_iadd dL_law_697) <|
    HS.comp (s_sld (by decide) hb dL_law_698) <|
    HS.comp (s_i2lZ dL_law_699) <|
    HS.comp (s_bipush 32 (by decide +kernel) dL_law_700) <|
    HS.comp (s_lshlZ dL_law_702) <|
    HS.comp (s_aload_n (k := 0) 0 rfl dL_law_703) <|
    HS.comp (s_iload 4 dL_law_704) <|
    HS.comp (s_iconst 3 (by decide +kernel) dL_law_706) <|
    HS.comp (s_iadd dL_law_707) <|
    HS.comp (s_sld (by decide) hb dL_law_708) <|
    HS.comp (s_i2lZ dL_law_709) <|
    HS.comp (s_ldc2 4294967295 kw1095 dL_law_710) <|
    HS.comp (s_landZ dL_law_713) <|
    s_lorZ dL_law_714) rfl (by show _ ≤ 76266; omega) (by show _ ≤ 8873440; omega) ?_
  obtain ⟨w1, hF1, hw1⟩ := f_set (rOf (xs 1)) (rOL ((lN (rOL ((lN (rOL (nI (rOf (xs 2))).toInt64)) <<< ((nI 32).toInt64 &&& 63)))) ||| (lN (rOL ((lN (rOL (nI (rOf (xs 3))).toInt64)) &&& (lN 4294967295)))))) 14081 (rOf_lt _)
  refine HS.callE (as := [.inr (.inr 1), .inl (rOf (xs 1)), .inr (.inl (rOL ((lN (rOL ((lN (rOL (nI (rOf (xs 2))).toInt64)) <<< ((nI 32).toInt64 &&& 63)))) ||| (lN (rOL ((lN (rOL (nI (rOf (xs 3))).toInt64)) &&& (lN 4294967295)))))))]) (st := []) (s_callV 2 13 kc13 (ok_X11_set l) kGood kw1096 kw1097 kw1099 kw599 kw1098 (by decide +kernel) (by decide) (by decide) dL_law_715) (fun h hv => rW.less h hv) hF1 rfl (Nat.le_of_ble_eq_true rfl) rfl hw1 (by show _ ≤ 76266; omega) (by show _ ≤ 8873440; omega) ?_
  refine HS.seg (ls' := [(4, .inl 0), (3, .inr (.inr 28161)), (2, .inr (.inr 26909)), (1, .inr (.inr 1)), (0, .inr (.inr 60002))]) (st' := [.inr (.inl (rOL ((lN (rOL ((lN (rOL (nI (rOf (xs 2))).toInt64)) <<< ((nI 32).toInt64 &&& 63)))) ||| (lN (rOL ((lN (rOL (nI (rOf (xs 3))).toInt64)) &&& (lN 4294967295))))))), .inl (rOf (xs 1)), .inr (.inr 26909), .inl (rB (rLt (rOf (xs 1)) 0) (0) (rB (rLe (rOf (xs 1)) 16) (1) (0)))]) (w' := wM) (n' := 14081) (c' := c + 0) (HS.comp (s_aload_n (k := 2) 2 rfl dL_law_718) <|
    HS.comp (s_aload_n (k := 0) 0 rfl dL_law_719) <|
    HS.comp (s_iload 4 dL_law_720) <|
    HS.comp (s_iconst 1 (by decide +kernel) dL_law_722) <|
    HS.comp (s_iadd dL_law_723) <|
    HS.comp (s_sld (by decide) hb dL_law_724) <|
    HS.comp (s_aload_n (k := 0) 0 rfl dL_law_725) <|
    HS.comp (s_iload 4 dL_law_726) <|
    HS.comp (s_iconst 2 (by decide +kernel) dL_law_728) <|
    HS.comp (s_iadd dL_law_729) <|
    HS.comp (s_sld (by decide) hb dL_law_730) <|
    HS.comp (s_i2lZ dL_law_731) <|
    HS.comp (s_bipush 32 (by decide +kernel) dL_law_732) <|
    HS.comp (s_lshlZ dL_law_734) <|
    HS.comp (s_aload_n (k := 0) 0 rfl dL_law_735) <|
    HS.comp (s_iload 4 dL_law_736) <|
    HS.comp (s_iconst 3 (by decide +kernel) dL_law_738) <|
    HS.comp (s_iadd dL_law_739) <|
    HS.comp (s_sld (by decide) hb dL_law_740) <|
    HS.comp (s_i2lZ dL_law_741) <|
    HS.comp (s_ldc2 4294967295 kw1095 dL_law_742) <|
    HS.comp (s_landZ dL_law_745) <|
    s_lorZ dL_law_746) rfl (by show _ ≤ 76266; omega) (by show _ ≤ 8873440; omega) ?_
  obtain ⟨w2, hF2, hw2⟩ := f_mset (rOf (xs 1)) (rOL ((lN (rOL ((lN (rOL (nI (rOf (xs 2))).toInt64)) <<< ((nI 32).toInt64 &&& 63)))) ||| (lN (rOL ((lN (rOL (nI (rOf (xs 3))).toInt64)) &&& (lN 4294967295)))))) 14081 (rOf_lt _)
  refine HS.callE (as := [.inr (.inr 26909), .inl (rOf (xs 1)), .inr (.inl (rOL ((lN (rOL ((lN (rOL (nI (rOf (xs 2))).toInt64)) <<< ((nI 32).toInt64 &&& 63)))) ||| (lN (rOL ((lN (rOL (nI (rOf (xs 3))).toInt64)) &&& (lN 4294967295)))))))]) (st := [.inl (rB (rLt (rOf (xs 1)) 0) (0) (rB (rLe (rOf (xs 1)) 16) (1) (0)))]) (s_callV 2 15 kc15 (ok_X13_set l) kGood kw1100 kw1101 kw1103 kw315 kw1102 (by decide +kernel) (by decide) (by decide) dL_law_747) (fun h hv => rW.less h hv) hF2 rfl (Nat.le_of_ble_eq_true rfl) rfl hw2 (by show _ ≤ 76266; omega) (by show _ ≤ 8873440; omega) ?_
  refine V_icT (pcs := [1048, 753]) (s_icmp_eq (b1 := 0) (b2 := 1) (tgt := 1048) rfl rfl (by decide) dL_law_750) rfl (rEq_r _) (by show _ ≤ 76266; omega) (by show _ ≤ 8873440; omega) ?_
  exact lv_tail hb (by show _ ≤ 76266; omega) (by show _ ≤ 8873440; omega) (by simp) (by simp)
end LAWW
