/-! THE LAW'S WALK -/
section LAWW
variable {l : Launch} {G : rGm} {b : Nat} {xs : Nat → Int32}
set_option maxRecDepth 1000000 in
set_option maxHeartbeats 40000000 in
theorem lv_33 (hl : l.stackTraces = false) (hb : G.2.2.2.1 30000 = .ref b) {c : Nat} (hc : c + 6 ≤ 8873440) : LV l G b 6 xs oL 33 [(4, .inl 0), (3, .inr (.inr 28161)), (2, .inr (.inr 26909)), (1, .inr (.inr 1)), (0, .inr (.inr 60002))] [] wL 14081 c := by
  obtain ⟨z, hz⟩ : ∃ z, z = Nat.land (rOf (xs 0)) 31 := ⟨_, rfl⟩
  have hz31 : z ≤ 31 := by rw [hz]; exact Nat.and_le_right
  refine HS.seg (ls' := [(4, .inl 0), (3, .inr (.inr 28161)), (2, .inr (.inr 26909)), (1, .inr (.inr 1)), (0, .inr (.inr 60002))]) (st' := [.inl z]) (w' := wL) (n' := 14081) (c' := c) (HS.comp (s_aload_n (k := 0) 0 rfl dL_law_33) <|
    HS.comp (s_iload 4 dL_law_34) <|
    HS.comp (s_sld (by decide) hb dL_law_36) <|
    HS.comp (s_bipush 31 (by decide +kernel) dL_law_37) <|
    s_iand dL_law_39) (by rw [hz]; exact funext fun k => rN_eq (Nat.land (rOf (xs 0)) 31) (fun z => k [(4, .inl 0), (3, .inr (.inr 28161)), (2, .inr (.inr 26909)), (1, .inr (.inr 1)), (0, .inr (.inr 60002))] [.inl z] wL 14081 c)) (by show _ ≤ 76266; omega) (by show _ ≤ 8873440; omega) ?_
  clear hz
  rcases (show z = 0 ∨ z = 1 ∨ z = 2 ∨ z = 3 ∨ z = 4 ∨ z = 5 ∨ z = 6 ∨ z = 7 ∨ z = 8 ∨ z = 9 ∨ z = 10 ∨ z = 11 ∨ z = 12 ∨ z = 13 ∨ z = 14 ∨ z = 15 ∨ z = 16 ∨ z = 17 ∨ z = 18 ∨ 19 ≤ z by omega) with rfl | rfl | rfl | rfl | rfl | rfl | rfl | rfl | rfl | rfl | rfl | rfl | rfl | rfl | rfl | rfl | rfl | rfl | rfl | hz
  · refine V_tabIn (off := 92) (tgt := 132) dL_law_40 (by decide) (by decide) rfl rfl ?_
    exact lc_feed hl hb hc
  · refine V_tabIn (off := 165) (tgt := 205) dL_law_40 (by decide) (by decide) rfl rfl ?_
    cases h2 : rEq (rOf (xs 2)) 0
    · exact lc_unit1 hl hb hc h2
    · exact lc_unit0 hl hb hc h2
  · refine V_tabIn (off := 249) (tgt := 289) dL_law_40 (by decide) (by decide) rfl rfl ?_
    exact lc_clear hl hb hc
  · refine V_tabIn (off := 260) (tgt := 300) dL_law_40 (by decide) (by decide) rfl rfl ?_
    exact lc_fault hl hb hc
  · refine V_tabIn (off := 285) (tgt := 325) dL_law_40 (by decide) (by decide) rfl rfl ?_
    exact lc_size hl hb hc
  · refine V_tabIn (off := 322) (tgt := 362) dL_law_40 (by decide) (by decide) rfl rfl ?_
    exact lc_octet hl hb hc
  · refine V_tabIn (off := 371) (tgt := 411) dL_law_40 (by decide) (by decide) rfl rfl ?_
    exact lc_link hl hb hc
  · refine V_tabIn (off := 415) (tgt := 455) dL_law_40 (by decide) (by decide) rfl rfl ?_
    exact lc_symbol hl hb hc
  · refine V_tabIn (off := 470) (tgt := 510) dL_law_40 (by decide) (by decide) rfl rfl ?_
    exact lc_load hl hb hc
  · refine V_tabIn (off := 513) (tgt := 553) dL_law_40 (by decide) (by decide) rfl rfl ?_
    exact lc_input hl hb hc
  · refine V_tabIn (off := 538) (tgt := 578) dL_law_40 (by decide) (by decide) rfl rfl ?_
    cases h0 : rLt (rOf (xs 1)) 1
    · cases h1 : rLe (rOf (xs 1)) 4000
      · exact lc_run2 hl hb hc h0 h1
      · exact lc_run1 hl hb hc h0 h1
    · exact lc_run0 hl hb hc h0
  · refine V_tabIn (off := 594) (tgt := 634) dL_law_40 (by decide) (by decide) rfl rfl ?_
    exact lc_stop hl hb hc
  · refine V_tabIn (off := 620) (tgt := 660) dL_law_40 (by decide) (by decide) rfl rfl ?_
    exact lc_register hl hb hc
  · refine V_tabIn (off := 646) (tgt := 686) dL_law_40 (by decide) (by decide) rfl rfl ?_
    exact lc_set hl hb hc
  · refine V_tabIn (off := 715) (tgt := 755) dL_law_40 (by decide) (by decide) rfl rfl ?_
    exact lc_peek hl hb hc
  · refine V_tabIn (off := 772) (tgt := 812) dL_law_40 (by decide) (by decide) rfl rfl ?_
    exact lc_poke hl hb hc
  · refine V_tabIn (off := 841) (tgt := 881) dL_law_40 (by decide) (by decide) rfl rfl ?_
    cases h3 : rEq (rOf (xs 3)) 0
    · exact lc_stopAt1 hl hb hc h3
    · exact lc_stopAt0 hl hb hc h3
  · refine V_tabIn (off := 926) (tgt := 966) dL_law_40 (by decide) (by decide) rfl rfl ?_
    exact lc_output hl hb hc
  · refine V_tabIn (off := 951) (tgt := 991) dL_law_40 (by decide) (by decide) rfl rfl ?_
    exact lc_where hl hb hc
  · refine V_tabOut (tgt := 1048) dL_law_40 (Or.inr (by rw [nI_toInt (by omega)]; omega)) rfl ?_
    exact lv_tail hb (by show _ ≤ 76266; omega) (by show _ ≤ 8873440; omega) (by simp) (by simp)
set_option maxRecDepth 1000000 in
set_option maxHeartbeats 40000000 in
theorem lv_made {L : Nat} (hV : LV l G b L xs oL 23 [(4, .inl 0), (3, .inr (.inr 28161)), (2, .inr (.inr 26909)), (1, .inr (.inr 1)), (0, .inr (.inr 60002))] [] wL 14081 3374454) : LV l G b L xs oL 0 [(0, .inr (.inr 60002))] [] [] 0 0 := by
  refine HS.seg (ls' := [(0, .inr (.inr 60002))]) (st' := [.inr (.inr 1), .inr (.inr 1)]) (w' := [(0, .inl (13, [.inr (.inr 0), .inr (.inr 0), .inr (.inr 0), .inr (.inr 0), .inr (.inr 0), .inl 0, .inl 0, .inl 0, .inl 0]))]) (n' := 1) (c' := 9) (HS.comp (s_new tyX11 inX11 tyX11_ok kc13 kw981 kw982 kw599 rfl rfl dL_law_0) <|
    s_dup dL_law_3) rfl (by show _ ≤ 76266; omega) (by show _ ≤ 8873440; omega) ?_
  refine HS.callE (as := [.inr (.inr 1)]) (st := [.inr (.inr 1)]) (v := none) (w1 := me_X11_init_0.2.2.1) (w2 := me_X11_init_0.2.2.1) (n1 := 13454) (ms := 2053960) (s_callI 0 13 kc13 (mok_X11_init l) kGood kw983 kw984 kw599 kw985 rfl (by decide +kernel) (by decide) (by decide) dL_law_4) (fun h hv => rW.less h hv) (rMemo_hit me_X11_init_0 []) rfl (Nat.le_of_ble_eq_true rfl) rfl wAll (by show _ ≤ 76266; omega) (by show _ ≤ 8873440; omega) ?_
  refine HS.seg (ls' := [(1, .inr (.inr 1)), (0, .inr (.inr 60002))]) (st' := [.inr (.inr 26909), .inr (.inr 26909)]) (w' := (13454, .inl (15, [.inl 0, .inr (.inr 0), .inl 0, .inl 0, .inl 0, .inr (.inr 0), .inr (.inr 0), .inr (.inr 0), .inr (.inr 0), .inr (.inl 0), .inr (.inl 0), .inr (.inl 0), .inr (.inl 0), .inr (.inl 0), .inr (.inl 0), .inr (.inl 0), .inr (.inl 0), .inr (.inl 0), .inr (.inl 0), .inr (.inl 0), .inl 0, .inr (.inr 0), .inr (.inr 0), .inr (.inr 0), .inr (.inr 0), .inr (.inr 0), .inr (.inr 0), .inr (.inr 0), .inl 0, .inl 0, .inl 0, .inl 0, .inl 0, .inr (.inr 0), .inr (.inr 0), .inr (.inr 0), .inr (.inr 0), .inr (.inr 0), .inr (.inr 0), .inr (.inr 0), .inr (.inr 0), .inr (.inr 0), .inr (.inr 0), .inl 0, .inl 0, .inr (.inr 0), .inr (.inr 0), .inr (.inr 0), .inr (.inr 0), .inr (.inr 0), .inr (.inr 0), .inr (.inr 0), .inr (.inr 0), .inr (.inr 0), .inl 0, .inl 0, .inr (.inr 0), .inl 0, .inr (.inr 0), .inr (.inr 0), .inr (.inr 0), .inr (.inr 0), .inr (.inr 0), .inr (.inr 0), .inr (.inr 0), .inl 0, .inl 0, .inl 0, .inl 0, .inl 0, .inl 0, .inl 0, .inl 0, .inl 0, .inl 0, .inl 0, .inl 0, .inl 0, .inr (.inr 0), .inl 0, .inl 0, .inr (.inr 0), .inr (.inr 0), .inr (.inr 0), .inr (.inr 0), .inr (.inr 0), .inr (.inr 0), .inr (.inr 0), .inr (.inr 0), .inr (.inr 0), .inr (.inr 0), .inr (.inr 0), .inr (.inr 0), .inr (.inr 0), .inl 0, .inr (.inr 0), .inr (.inr 0), .inr (.inr 0), .inr (.inr 0), .inr (.inr 0), .inr (.inr 0), .inr (.inr 0), .inl 0, .inr (.inr 0), .inr (.inr 0), .inr (.inr 0), .inr (.inr 0), .inr (.inr 0), .inl 0, .inl 0, .inl 0, .inr (.inr 0), .inr (.inr 0), .inr (.inr 0), .inr (.inr 0), .inl 0, .inr (.inr 0), .inl 0, .inl 0, .inr (.inr 0), .inr (.inr 0), .inr (.inr 0), .inl 0, .inl 0, .inl 0, .inl 0, .inr (.inr 0), .inr (.inr 0), .inr (.inr 0), .inr (.inr 0), .inr (.inr 0), .inl 0, .inl 0, .inl 0, .inl 0, .inr (.inl 0), .inr (.inl 0), .inl 0, .inl 0, .inl 0, .inl 0, .inl 0, .inr (.inr 0), .inr (.inr 0), .inr (.inr 0), .inr (.inr 0), .inr (.inr 0), .inr (.inr 0), .inr (.inr 0), .inr (.inr 0), .inr (.inr 0), .inl 0, .inl 0, .inl 0, .inl 0, .inl 0, .inl 0, .inl 0, .inl 0, .inl 0, .inl 0, .inl 0, .inl 0, .inl 0, .inr (.inr 0), .inr (.inr 0), .inr (.inr 0), .inr (.inr 0), .inl 0, .inr (.inr 0), .inr (.inr 0), .inr (.inr 0), .inr (.inr 0), .inl 0, .inl 0, .inr (.inr 0), .inr (.inr 0), .inr (.inr 0), .inr (.inr 0), .inl 0, .inr (.inr 0), .inr (.inr 0), .inr (.inr 0), .inr (.inr 0), .inr (.inr 0), .inl 0, .inl 0, .inl 0, .inr (.inr 0), .inr (.inr 0), .inr (.inl 0), .inr (.inl 0), .inr (.inl 0), .inl 0, .inl 0, .inl 0, .inl 0, .inl 0, .inl 0, .inr (.inr 0), .inl 0, .inl 0, .inl 0, .inr (.inl 0), .inr (.inl 0)])) :: me_X11_init_0.2.2.1) (n' := 13455) (c' := 2054174) (HS.comp (s_astore_n (k := 1) 1 rfl (by decide) dL_law_7) <|
    HS.comp (s_new tyX13 inX13 tyX13_ok kc15 kw986 kw987 kw315 rfl rfl dL_law_8) <|
    s_dup dL_law_11) rfl (by show _ ≤ 76266; omega) (by show _ ≤ 8873440; omega) ?_
  refine HS.callE (as := [.inr (.inr 26909)]) (st := [.inr (.inr 26909)]) (v := none) (w1 := me_X13_init_0.2.2.1) (w2 := me_X13_init_0.2.2.1) (n1 := 14080) (ms := 1320279) (s_callI 0 15 kc15 (mok_X13_init l) kGood kw988 kw989 kw315 kw990 rfl (by decide +kernel) (by decide) (by decide) dL_law_12) (fun h hv => rW.less h hv) (rMemo_hit me_X13_init_0 []) rfl (Nat.le_of_ble_eq_true rfl) rfl wAll (by show _ ≤ 76266; omega) (by show _ ≤ 8873440; omega) ?_
  refine HS.seg (ls' := [(4, .inl 0), (3, .inr (.inr 28161)), (2, .inr (.inr 26909)), (1, .inr (.inr 1)), (0, .inr (.inr 60002))]) (st' := []) (w' := wL) (n' := 14081) (c' := 3374454) (HS.comp (s_astore_n (k := 2) 2 rfl (by decide) dL_law_15) <|
    HS.comp (s_iconst 1 (by decide +kernel) dL_law_16) <|
    HS.comp (s_newa 1 (.inr (.inl 0)) (by decide) rfl rfl (fun _ _ h => h) (by decide) kw26 dL_law_17) <|
    HS.comp (s_astore_n (k := 3) 3 rfl (by decide) dL_law_19) <|
    HS.comp (s_iconst 0 (by decide +kernel) dL_law_20) <|
    s_istore 4 (by decide) dL_law_21) rfl (by show _ ≤ 76266; omega) (by show _ ≤ 8873440; omega) ?_
  exact hV
theorem lv_all (hl : l.stackTraces = false) (hb : G.2.2.2.1 30000 = .ref b) {L : Nat} (hL : L ≤ 6) : LV l G b L xs oL 0 [(0, .inr (.inr 60002))] [] [] 0 0 := by
  refine lv_made ?_
  rcases (show L ≤ 5 ∨ L = 6 by omega) with h | rfl
  · rcases (show L = 0 ∨ L = 1 ∨ L = 2 ∨ L = 3 ∨ L = 4 ∨ L = 5 by omega) with rfl | rfl | rfl | rfl | rfl | rfl
    · refine rW.lessL (ls' := [(4, .inl 0), (0, .inr (.inr 60002))]) (fun q hq => ?_) (lv_exit0 hb (by show _ ≤ 76266; omega) (by show _ ≤ 8873440; omega))
      rcases List.mem_cons.mp hq with rfl | hq
      · simp
      · rw [List.mem_singleton.mp hq]; simp
    · refine rW.lessL (ls' := [(4, .inl 0), (0, .inr (.inr 60002))]) (fun q hq => ?_) (lv_exit1 hb (by show _ ≤ 76266; omega) (by show _ ≤ 8873440; omega))
      rcases List.mem_cons.mp hq with rfl | hq
      · simp
      · rw [List.mem_singleton.mp hq]; simp
    · refine rW.lessL (ls' := [(4, .inl 0), (0, .inr (.inr 60002))]) (fun q hq => ?_) (lv_exit2 hb (by show _ ≤ 76266; omega) (by show _ ≤ 8873440; omega))
      rcases List.mem_cons.mp hq with rfl | hq
      · simp
      · rw [List.mem_singleton.mp hq]; simp
    · refine rW.lessL (ls' := [(4, .inl 0), (0, .inr (.inr 60002))]) (fun q hq => ?_) (lv_exit3 hb (by show _ ≤ 76266; omega) (by show _ ≤ 8873440; omega))
      rcases List.mem_cons.mp hq with rfl | hq
      · simp
      · rw [List.mem_singleton.mp hq]; simp
    · refine rW.lessL (ls' := [(4, .inl 0), (0, .inr (.inr 60002))]) (fun q hq => ?_) (lv_exit4 hb (by show _ ≤ 76266; omega) (by show _ ≤ 8873440; omega))
      rcases List.mem_cons.mp hq with rfl | hq
      · simp
      · rw [List.mem_singleton.mp hq]; simp
    · refine rW.lessL (ls' := [(4, .inl 0), (0, .inr (.inr 60002))]) (fun q hq => ?_) (lv_exit5 hb (by show _ ≤ 76266; omega) (by show _ ≤ 8873440; omega))
      rcases List.mem_cons.mp hq with rfl | hq
      · simp
      · rw [List.mem_singleton.mp hq]; simp
  · refine HS.seg (ls' := [(4, .inl 0), (3, .inr (.inr 28161)), (2, .inr (.inr 26909)), (1, .inr (.inr 1)), (0, .inr (.inr 60002))]) (st' := [.inl 0, .inl 0]) (w' := wL) (n' := 14081) (c' := 3374454) (HS.comp (s_iload 4 dL_law_23) <|
    HS.comp (s_aload_n (k := 0) 0 rfl dL_law_25) <|
    HS.comp (s_slen hb dL_law_26) <|
    HS.comp (s_bipush 6 (by decide +kernel) dL_law_27) <|
    s_isub dL_law_29) rfl (by show _ ≤ 76266; omega) (by show _ ≤ 8873440; omega) ?_
    refine V_icF (pcs := [1054, 33]) (s_icmp_gt (b1 := 0) (b2 := 1) (tgt := 1054) rfl rfl (by decide) dL_law_30) rfl (by decide) (by show _ ≤ 76266; omega) (by show _ ≤ 8873440; omega) ?_
    exact lv_33 hl hb (by omega)
end LAWW
