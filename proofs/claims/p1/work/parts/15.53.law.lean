/-! THE LAW'S WALK -/
section LAWW
variable {l : Launch} {G : rGm} {b : Nat} {xs : Nat → Int32}
set_option maxRecDepth 1000000 in
set_option maxHeartbeats 40000000 in
theorem lc_symbol (hl : l.stackTraces = false) (hb : G.2.2.2.1 30000 = .ref b) {c : Nat} (hc : c + 6 ≤ 8873440) : LV l G b 6 xs oL 455 [(4, .inl 0), (3, .inr (.inr 28161)), (2, .inr (.inr 26909)), (1, .inr (.inr 1)), (0, .inr (.inr 60002))] [] wL 14081 c := by
  refine HS.seg (ls' := [(4, .inl 0), (3, .inr (.inr 28161)), (2, .inr (.inr 26909)), (1, .inr (.inr 1)), (0, .inr (.inr 60002))]) (st' := [.inr (.inr 28161), .inl (rOf (xs 1)), .inr (.inr 1)]) (w' := wL) (n' := 14081) (c' := c) (HS.comp (s_aload_n (k := 1) 1 rfl dL_law_455) <|
    HS.comp (s_aload_n (k := 0) 0 rfl dL_law_456) <|
    HS.comp (s_iload 4 dL_law_457) <|
    HS.comp (s_iconst 1 (by decide +kernel) dL_law_459) <|
    HS.comp (s_iadd dL_law_460) <|
    HS.comp (s_sld (by decide) hb dL_law_461) <|
    s_aload_n (k := 3) 3 rfl dL_law_462) rfl (by show _ ≤ 76266; omega) (by show _ ≤ 8873440; omega) ?_
  refine V_callH (as := [.inr (.inr 1), .inl (rOf (xs 1)), .inr (.inr 28161)]) (st := []) 3 (hm_symbol l hl (rOf (xs 1)) ) (Nat.le_of_ble_eq_true rfl) kGood kw1050 kw1051 kw1001 kw1052 (by decide +kernel) (by decide) (by decide) rfl (Nat.le_of_ble_eq_true rfl) dL_law_463 (by show _ ≤ 76266; omega) (by show _ ≤ 8873440; omega) ?_
  refine HS.seg (ls' := [(5, .inl 1), (4, .inl 0), (3, .inr (.inr 28161)), (2, .inr (.inr 26909)), (1, .inr (.inr 1)), (0, .inr (.inr 60002))]) (st' := [.inl (rOf (xs 1)), .inr (.inr 26909)]) (w' := wM) (n' := 14082) (c' := c + 6) (HS.comp (s_istore 5 (by decide) dL_law_466) <|
    HS.comp (s_aload_n (k := 2) 2 rfl dL_law_468) <|
    HS.comp (s_aload_n (k := 0) 0 rfl dL_law_469) <|
    HS.comp (s_iload 4 dL_law_470) <|
    HS.comp (s_iconst 1 (by decide +kernel) dL_law_472) <|
    HS.comp (s_iadd dL_law_473) <|
    s_sld (by decide) hb dL_law_474) rfl (by show _ ≤ 76266; omega) (by show _ ≤ 8873440; omega) ?_
  obtain ⟨w1, hF1, hw1⟩ := f_msymbol (rOf (xs 1)) 14082
  refine HS.callE (as := [.inr (.inr 26909), .inl (rOf (xs 1))]) (st := []) (s_callV 1 15 kc15 (ok_X13_symbol l) kGood kw1053 kw1054 kw1056 kw315 kw1055 (by decide +kernel) (by decide) (by decide) dL_law_475) (fun h hv => rW.less h hv) hF1 rfl (Nat.le_of_ble_eq_true rfl) rfl hw1 (by show _ ≤ 76266; omega) (by show _ ≤ 8873440; omega) ?_
  refine HS.seg (ls' := [(6, .inr (.inl 0)), (5, .inl 1), (4, .inl 0), (3, .inr (.inr 28161)), (2, .inr (.inr 26909)), (1, .inr (.inr 1)), (0, .inr (.inr 60002))]) (st' := [.inr (.inr 26909)]) (w' := wk_mrun_0) (n' := 14082) (c' := c + 6 + 0) (HS.comp (s_lstore 6 (by decide) dL_law_478) <|
    s_aload_n (k := 2) 2 rfl dL_law_480) rfl (by show _ ≤ 76266; omega) (by show _ ≤ 8873440; omega) ?_
  obtain ⟨w2, hF2, hw2⟩ := f_thr_symbol 14082
  refine HS.callE (as := [.inr (.inr 26909)]) (st := []) (s_callV 0 15 kc15 (ok_X13_thrown l) kGood kw1007 kw1008 kw1010 kw315 kw1009 (by decide +kernel) (by decide) (by decide) dL_law_481) (fun h hv => rW.less h hv) hF2 rfl (Nat.le_of_ble_eq_true rfl) rfl hw2 (by show _ ≤ 76266; omega) (by show _ ≤ 8873440; omega) ?_
  refine HS.seg (ls' := [(6, .inr (.inl 0)), (5, .inl 1), (4, .inl 0), (3, .inr (.inr 28161)), (2, .inr (.inr 26909)), (1, .inr (.inr 1)), (0, .inr (.inr 60002))]) (st' := [.inl 1, .inl 1]) (w' := []) (n' := 14082) (c' := c + 6 + 0 + 0) (s_iload 5 dL_law_484) rfl (by show _ ≤ 76266; omega) (by show _ ≤ 8873440; omega) ?_
  refine V_icT (pcs := [491, 489]) (s_icmp_eq (b1 := 0) (b2 := 1) (tgt := 491) rfl rfl (by decide) dL_law_486) rfl (rEq_r _) (by show _ ≤ 76266; omega) (by show _ ≤ 8873440; omega) ?_
  refine HS.seg (ls' := [(6, .inr (.inl 0)), (5, .inl 1), (4, .inl 0), (3, .inr (.inr 28161)), (2, .inr (.inr 26909)), (1, .inr (.inr 1)), (0, .inr (.inr 60002))]) (st' := [.inl 1]) (w' := []) (n' := 14082) (c' := c + 6 + 0 + 0) (s_iload 5 dL_law_491) rfl (by show _ ≤ 76266; omega) (by show _ ≤ 8873440; omega) ?_
  refine V_ifT (pcs := [507, 496]) (s_if_ne (b1 := 0) (b2 := 1) (tgt := 507) rfl rfl (by decide) dL_law_493) rfl (by decide) (by show _ ≤ 76266; omega) (by show _ ≤ 8873440; omega) ?_
  refine V_go (pcs := [1048]) (s_goto (b := 0) (tgt := 1048) rfl (by decide) dL_law_507) rfl (by show _ ≤ 76266; omega) (by show _ ≤ 8873440; omega) ?_
  exact lv_tail hb (by show _ ≤ 76266; omega) (by show _ ≤ 8873440; omega) (by simp) (by simp)
set_option maxRecDepth 1000000 in
set_option maxHeartbeats 40000000 in
theorem lc_load (hl : l.stackTraces = false) (hb : G.2.2.2.1 30000 = .ref b) {c : Nat} (hc : c + 6 ≤ 8873440) : LV l G b 6 xs oL 510 [(4, .inl 0), (3, .inr (.inr 28161)), (2, .inr (.inr 26909)), (1, .inr (.inr 1)), (0, .inr (.inr 60002))] [] wL 14081 c := by
  refine HS.seg (ls' := [(4, .inl 0), (3, .inr (.inr 28161)), (2, .inr (.inr 26909)), (1, .inr (.inr 1)), (0, .inr (.inr 60002))]) (st' := [.inr (.inr 28161), .inr (.inr 1)]) (w' := wL) (n' := 14081) (c' := c) (HS.comp (s_aload_n (k := 1) 1 rfl dL_law_510) <|
    s_aload_n (k := 3) 3 rfl dL_law_511) rfl (by show _ ≤ 76266; omega) (by show _ ≤ 8873440; omega) ?_
  refine V_callH (as := [.inr (.inr 1), .inr (.inr 28161)]) (st := []) 2 (hm_load l hl ) (Nat.le_of_ble_eq_true rfl) kGood kw1057 kw1058 kw1001 kw1059 (by decide +kernel) (by decide) (by decide) rfl (Nat.le_of_ble_eq_true rfl) dL_law_512 (by show _ ≤ 76266; omega) (by show _ ≤ 8873440; omega) ?_
  refine HS.seg (ls' := [(5, .inl 1), (4, .inl 0), (3, .inr (.inr 28161)), (2, .inr (.inr 26909)), (1, .inr (.inr 1)), (0, .inr (.inr 60002))]) (st' := [.inr (.inr 26909)]) (w' := wM) (n' := 14082) (c' := c + 6) (HS.comp (s_istore 5 (by decide) dL_law_515) <|
    s_aload_n (k := 2) 2 rfl dL_law_517) rfl (by show _ ≤ 76266; omega) (by show _ ≤ 8873440; omega) ?_
  obtain ⟨w1, hF1, hw1⟩ := f_mload 14082
  refine HS.callE (as := [.inr (.inr 26909)]) (st := []) (s_callV 0 15 kc15 (ok_X13_load l) kGood kw1060 kw1061 kw1063 kw315 kw1062 (by decide +kernel) (by decide) (by decide) dL_law_518) (fun h hv => rW.less h hv) hF1 rfl (Nat.le_of_ble_eq_true rfl) rfl hw1 (by show _ ≤ 76266; omega) (by show _ ≤ 8873440; omega) ?_
  refine HS.seg (ls' := [(6, .inr (.inl 0)), (5, .inl 1), (4, .inl 0), (3, .inr (.inr 28161)), (2, .inr (.inr 26909)), (1, .inr (.inr 1)), (0, .inr (.inr 60002))]) (st' := [.inr (.inr 26909)]) (w' := wk_mrun_0) (n' := 14082) (c' := c + 6 + 0) (HS.comp (s_lstore 6 (by decide) dL_law_521) <|
    s_aload_n (k := 2) 2 rfl dL_law_523) rfl (by show _ ≤ 76266; omega) (by show _ ≤ 8873440; omega) ?_
  obtain ⟨w2, hF2, hw2⟩ := f_thr_load 14082
  refine HS.callE (as := [.inr (.inr 26909)]) (st := []) (s_callV 0 15 kc15 (ok_X13_thrown l) kGood kw1007 kw1008 kw1010 kw315 kw1009 (by decide +kernel) (by decide) (by decide) dL_law_524) (fun h hv => rW.less h hv) hF2 rfl (Nat.le_of_ble_eq_true rfl) rfl hw2 (by show _ ≤ 76266; omega) (by show _ ≤ 8873440; omega) ?_
  refine HS.seg (ls' := [(6, .inr (.inl 0)), (5, .inl 1), (4, .inl 0), (3, .inr (.inr 28161)), (2, .inr (.inr 26909)), (1, .inr (.inr 1)), (0, .inr (.inr 60002))]) (st' := [.inl 1, .inl 1]) (w' := []) (n' := 14082) (c' := c + 6 + 0 + 0) (s_iload 5 dL_law_527) rfl (by show _ ≤ 76266; omega) (by show _ ≤ 8873440; omega) ?_
  refine V_icT (pcs := [534, 532]) (s_icmp_eq (b1 := 0) (b2 := 1) (tgt := 534) rfl rfl (by decide) dL_law_529) rfl (rEq_r _) (by show _ ≤ 76266; omega) (by show _ ≤ 8873440; omega) ?_
  refine HS.seg (ls' := [(6, .inr (.inl 0)), (5, .inl 1), (4, .inl 0), (3, .inr (.inr 28161)), (2, .inr (.inr 26909)), (1, .inr (.inr 1)), (0, .inr (.inr 60002))]) (st' := [.inl 1]) (w' := []) (n' := 14082) (c' := c + 6 + 0 + 0) (s_iload 5 dL_law_534) rfl (by show _ ≤ 76266; omega) (by show _ ≤ 8873440; omega) ?_
  refine V_ifT (pcs := [550, 539]) (s_if_ne (b1 := 0) (b2 := 1) (tgt := 550) rfl rfl (by decide) dL_law_536) rfl (by decide) (by show _ ≤ 76266; omega) (by show _ ≤ 8873440; omega) ?_
  refine V_go (pcs := [1048]) (s_goto (b := 0) (tgt := 1048) rfl (by decide) dL_law_550) rfl (by show _ ≤ 76266; omega) (by show _ ≤ 8873440; omega) ?_
  exact lv_tail hb (by show _ ≤ 76266; omega) (by show _ ≤ 8873440; omega) (by simp) (by simp)
set_option maxRecDepth 1000000 in
set_option maxHeartbeats 40000000 in
theorem lc_run0 (hl : l.stackTraces = false) (hb : G.2.2.2.1 30000 = .ref b) {c : Nat} (hc : c + 6 ≤ 8873440) (h0 : rLt (rOf (xs 1)) 1 = true) : LV l G b 6 xs oL 578 [(4, .inl 0), (3, .inr (.inr 28161)), (2, .inr (.inr 26909)), (1, .inr (.inr 1)), (0, .inr (.inr 60002))] [] wL 14081 c := by
  refine HS.seg (ls' := [(4, .inl 0), (3, .inr (.inr 28161)), (2, .inr (.inr 26909)), (1, .inr (.inr 1)), (0, .inr (.inr 60002))]) (st' := [.inr (.inr 28161), .inl (rOf (xs 1)), .inr (.inr 1)]) (w' := wL) (n' := 14081) (c' := c) (HS.comp (s_aload_n (k := 1) 1 rfl dL_law_578) <|
    HS.comp (s_aload_n (k := 0) 0 rfl dL_law_579) <|
    HS.comp (s_iload 4 dL_law_580) <|
    HS.comp (s_iconst 1 (by decide +kernel) dL_law_582) <|
    HS.comp (s_iadd dL_law_583) <|
    HS.comp (s_sld (by decide) hb dL_law_584) <|
    s_aload_n (k := 3) 3 rfl dL_law_585) rfl (by show _ ≤ 76266; omega) (by show _ ≤ 8873440; omega) ?_
  refine V_callH (as := [.inr (.inr 1), .inl (rOf (xs 1)), .inr (.inr 28161)]) (st := []) 3 (hm_run0 l hl (rOf (xs 1)) h0) (Nat.le_of_ble_eq_true rfl) kGood kw1072 kw1073 kw1001 kw1074 (by decide +kernel) (by decide) (by decide) rfl (Nat.le_of_ble_eq_true rfl) dL_law_586 (by show _ ≤ 76266; omega) (by show _ ≤ 8873440; omega) ?_
  refine HS.seg (ls' := [(5, .inl 1), (4, .inl 0), (3, .inr (.inr 28161)), (2, .inr (.inr 26909)), (1, .inr (.inr 1)), (0, .inr (.inr 60002))]) (st' := [.inl (rOf (xs 1)), .inr (.inr 26909)]) (w' := wM) (n' := 14082) (c' := c + 6) (HS.comp (s_istore 5 (by decide) dL_law_589) <|
    HS.comp (s_aload_n (k := 2) 2 rfl dL_law_591) <|
    HS.comp (s_aload_n (k := 0) 0 rfl dL_law_592) <|
    HS.comp (s_iload 4 dL_law_593) <|
    HS.comp (s_iconst 1 (by decide +kernel) dL_law_595) <|
    HS.comp (s_iadd dL_law_596) <|
    s_sld (by decide) hb dL_law_597) rfl (by show _ ≤ 76266; omega) (by show _ ≤ 8873440; omega) ?_
  obtain ⟨w1, hF1, hw1⟩ := f_mrun_0 (rOf (xs 1)) 14082 h0
  refine HS.callE (as := [.inr (.inr 26909), .inl (rOf (xs 1))]) (st := []) (s_callV 1 15 kc15 (ok_X13_run l) kGood kw1075 kw1076 kw1078 kw315 kw1077 (by decide +kernel) (by decide) (by decide) dL_law_598) (fun h hv => rW.less h hv) hF1 rfl (Nat.le_of_ble_eq_true rfl) rfl hw1 (by show _ ≤ 76266; omega) (by show _ ≤ 8873440; omega) ?_
  refine HS.seg (ls' := [(6, .inl 0), (5, .inl 1), (4, .inl 0), (3, .inr (.inr 28161)), (2, .inr (.inr 26909)), (1, .inr (.inr 1)), (0, .inr (.inr 60002))]) (st' := [.inr (.inr 26909)]) (w' := wk_mrun_0) (n' := 14082) (c' := c + 6 + 0) (HS.comp (s_istore 6 (by decide) dL_law_601) <|
    s_aload_n (k := 2) 2 rfl dL_law_603) rfl (by show _ ≤ 76266; omega) (by show _ ≤ 8873440; omega) ?_
  obtain ⟨w2, hF2, hw2⟩ := f_thr_run0 14082
  refine HS.callE (as := [.inr (.inr 26909)]) (st := []) (s_callV 0 15 kc15 (ok_X13_thrown l) kGood kw1007 kw1008 kw1010 kw315 kw1009 (by decide +kernel) (by decide) (by decide) dL_law_604) (fun h hv => rW.less h hv) hF2 rfl (Nat.le_of_ble_eq_true rfl) rfl hw2 (by show _ ≤ 76266; omega) (by show _ ≤ 8873440; omega) ?_
  refine HS.seg (ls' := [(6, .inl 0), (5, .inl 1), (4, .inl 0), (3, .inr (.inr 28161)), (2, .inr (.inr 26909)), (1, .inr (.inr 1)), (0, .inr (.inr 60002))]) (st' := [.inl 1, .inl 1]) (w' := []) (n' := 14082) (c' := c + 6 + 0 + 0) (s_iload 5 dL_law_607) rfl (by show _ ≤ 76266; omega) (by show _ ≤ 8873440; omega) ?_
  refine V_icT (pcs := [614, 612]) (s_icmp_eq (b1 := 0) (b2 := 1) (tgt := 614) rfl rfl (by decide) dL_law_609) rfl (rEq_r _) (by show _ ≤ 76266; omega) (by show _ ≤ 8873440; omega) ?_
  refine HS.seg (ls' := [(6, .inl 0), (5, .inl 1), (4, .inl 0), (3, .inr (.inr 28161)), (2, .inr (.inr 26909)), (1, .inr (.inr 1)), (0, .inr (.inr 60002))]) (st' := [.inl 1]) (w' := []) (n' := 14082) (c' := c + 6 + 0 + 0) (s_iload 5 dL_law_614) rfl (by show _ ≤ 76266; omega) (by show _ ≤ 8873440; omega) ?_
  refine V_ifT (pcs := [631, 619]) (s_if_ne (b1 := 0) (b2 := 1) (tgt := 631) rfl rfl (by decide) dL_law_616) rfl (by decide) (by show _ ≤ 76266; omega) (by show _ ≤ 8873440; omega) ?_
  refine V_go (pcs := [1048]) (s_goto (b := 0) (tgt := 1048) rfl (by decide) dL_law_631) rfl (by show _ ≤ 76266; omega) (by show _ ≤ 8873440; omega) ?_
  exact lv_tail hb (by show _ ≤ 76266; omega) (by show _ ≤ 8873440; omega) (by simp) (by simp)
set_option maxRecDepth 1000000 in
set_option maxHeartbeats 40000000 in
theorem lc_run1 (hl : l.stackTraces = false) (hb : G.2.2.2.1 30000 = .ref b) {c : Nat} (hc : c + 6 ≤ 8873440) (h0 : rLt (rOf (xs 1)) 1 = false) (h1 : rLe (rOf (xs 1)) 4000 = true) : LV l G b 6 xs oL 578 [(4, .inl 0), (3, .inr (.inr 28161)), (2, .inr (.inr 26909)), (1, .inr (.inr 1)), (0, .inr (.inr 60002))] [] wL 14081 c := by
  refine HS.seg (ls' := [(4, .inl 0), (3, .inr (.inr 28161)), (2, .inr (.inr 26909)), (1, .inr (.inr 1)), (0, .inr (.inr 60002))]) (st' := [.inr (.inr 28161), .inl (rOf (xs 1)), .inr (.inr 1)]) (w' := wL) (n' := 14081) (c' := c) (HS.comp (s_aload_n (k := 1) 1 rfl dL_law_578) <|
    HS.comp (s_aload_n (k := 0) 0 rfl dL_law_579) <|
    HS.comp (s_iload 4 dL_law_580) <|
    HS.comp (s_iconst 1 (by decide +kernel) dL_law_582) <|
    HS.comp (s_iadd dL_law_583) <|
    HS.comp (s_sld (by decide) hb dL_law_584) <|
    s_aload_n (k := 3) 3 rfl dL_law_585) rfl (by show _ ≤ 76266; omega) (by show _ ≤ 8873440; omega) ?_
  refine V_callH (as := [.inr (.inr 1), .inl (rOf (xs 1)), .inr (.inr 28161)]) (st := []) 3 (hm_run1 l hl (rOf (xs 1)) h0 h1) (Nat.le_of_ble_eq_true rfl) kGood kw1072 kw1073 kw1001 kw1074 (by decide +kernel) (by decide) (by decide) rfl (Nat.le_of_ble_eq_true rfl) dL_law_586 (by show _ ≤ 76266; omega) (by show _ ≤ 8873440; omega) ?_
  refine HS.seg (ls' := [(5, .inl 2), (4, .inl 0), (3, .inr (.inr 28161)), (2, .inr (.inr 26909)), (1, .inr (.inr 1)), (0, .inr (.inr 60002))]) (st' := [.inl (rOf (xs 1)), .inr (.inr 26909)]) (w' := wM) (n' := 14082) (c' := c + 6) (HS.comp (s_istore 5 (by decide) dL_law_589) <|
    HS.comp (s_aload_n (k := 2) 2 rfl dL_law_591) <|
    HS.comp (s_aload_n (k := 0) 0 rfl dL_law_592) <|
    HS.comp (s_iload 4 dL_law_593) <|
    HS.comp (s_iconst 1 (by decide +kernel) dL_law_595) <|
    HS.comp (s_iadd dL_law_596) <|
    s_sld (by decide) hb dL_law_597) rfl (by show _ ≤ 76266; omega) (by show _ ≤ 8873440; omega) ?_
  obtain ⟨w1, hF1, hw1⟩ := f_mrun_1 (rOf (xs 1)) 14082 h0 h1
  refine HS.callE (as := [.inr (.inr 26909), .inl (rOf (xs 1))]) (st := []) (s_callV 1 15 kc15 (ok_X13_run l) kGood kw1075 kw1076 kw1078 kw315 kw1077 (by decide +kernel) (by decide) (by decide) dL_law_598) (fun h hv => rW.less h hv) hF1 rfl (Nat.le_of_ble_eq_true rfl) rfl hw1 (by show _ ≤ 76266; omega) (by show _ ≤ 8873440; omega) ?_
  refine HS.seg (ls' := [(6, .inl 0), (5, .inl 2), (4, .inl 0), (3, .inr (.inr 28161)), (2, .inr (.inr 26909)), (1, .inr (.inr 1)), (0, .inr (.inr 60002))]) (st' := [.inr (.inr 26909)]) (w' := wk_mrun_1) (n' := 14082) (c' := c + 6 + 0) (HS.comp (s_istore 6 (by decide) dL_law_601) <|
    s_aload_n (k := 2) 2 rfl dL_law_603) rfl (by show _ ≤ 76266; omega) (by show _ ≤ 8873440; omega) ?_
  obtain ⟨w2, hF2, hw2⟩ := f_thr_run1 14082
  refine HS.callE (as := [.inr (.inr 26909)]) (st := []) (s_callV 0 15 kc15 (ok_X13_thrown l) kGood kw1007 kw1008 kw1010 kw315 kw1009 (by decide +kernel) (by decide) (by decide) dL_law_604) (fun h hv => rW.less h hv) hF2 rfl (Nat.le_of_ble_eq_true rfl) rfl hw2 (by show _ ≤ 76266; omega) (by show _ ≤ 8873440; omega) ?_
  refine HS.seg (ls' := [(6, .inl 0), (5, .inl 2), (4, .inl 0), (3, .inr (.inr 28161)), (2, .inr (.inr 26909)), (1, .inr (.inr 1)), (0, .inr (.inr 60002))]) (st' := [.inl 2, .inl 2]) (w' := []) (n' := 14082) (c' := c + 6 + 0 + 0) (s_iload 5 dL_law_607) rfl (by show _ ≤ 76266; omega) (by show _ ≤ 8873440; omega) ?_
  refine V_icT (pcs := [614, 612]) (s_icmp_eq (b1 := 0) (b2 := 1) (tgt := 614) rfl rfl (by decide) dL_law_609) rfl (rEq_r _) (by show _ ≤ 76266; omega) (by show _ ≤ 8873440; omega) ?_
  refine HS.seg (ls' := [(6, .inl 0), (5, .inl 2), (4, .inl 0), (3, .inr (.inr 28161)), (2, .inr (.inr 26909)), (1, .inr (.inr 1)), (0, .inr (.inr 60002))]) (st' := [.inl 2]) (w' := []) (n' := 14082) (c' := c + 6 + 0 + 0) (s_iload 5 dL_law_614) rfl (by show _ ≤ 76266; omega) (by show _ ≤ 8873440; omega) ?_
  refine V_ifT (pcs := [631, 619]) (s_if_ne (b1 := 0) (b2 := 1) (tgt := 631) rfl rfl (by decide) dL_law_616) rfl (by decide) (by show _ ≤ 76266; omega) (by show _ ≤ 8873440; omega) ?_
  refine V_go (pcs := [1048]) (s_goto (b := 0) (tgt := 1048) rfl (by decide) dL_law_631) rfl (by show _ ≤ 76266; omega) (by show _ ≤ 8873440; omega) ?_
  exact lv_tail hb (by show _ ≤ 76266; omega) (by show _ ≤ 8873440; omega) (by simp) (by simp)
set_option maxRecDepth 1000000 in
set_option maxHeartbeats 40000000 in
theorem lc_run2 (hl : l.stackTraces = false) (hb : G.2.2.2.1 30000 = .ref b) {c : Nat} (hc : c + 6 ≤ 8873440) (h0 : rLt (rOf (xs 1)) 1 = false) (h1 : rLe (rOf (xs 1)) 4000 = false) : LV l G b 6 xs oL 578 [(4, .inl 0), (3, .inr (.inr 28161)), (2, .inr (.inr 26909)), (1, .inr (.inr 1)), (0, .inr (.inr 60002))] [] wL 14081 c := by
  refine HS.seg (ls' := [(4, .inl 0), (3, .inr (.inr 28161)), (2, .inr (.inr 26909)), (1, .inr (.inr 1)), (0, .inr (.inr 60002))]) (st' := [.inr (.inr 28161), .inl (rOf (xs 1)), .inr (.inr 1)]) (w' := wL) (n' := 14081) (c' := c) (HS.comp (s_aload_n (k := 1) 1 rfl dL_law_578) <|
    HS.comp (s_aload_n (k := 0) 0 rfl dL_law_579) <|
    HS.comp (s_iload 4 dL_law_580) <|
    HS.comp (s_iconst 1 (by decide +kernel) dL_law_582) <|
    HS.comp (s_iadd dL_law_583) <|
    HS.comp (s_sld (by decide) hb dL_law_584) <|
    s_aload_n (k := 3) 3 rfl dL_law_585) rfl (by show _ ≤ 76266; omega) (by show _ ≤ 8873440; omega) ?_
  refine V_callH (as := [.inr (.inr 1), .inl (rOf (xs 1)), .inr (.inr 28161)]) (st := []) 3 (hm_run2 l hl (rOf (xs 1)) h0 h1) (Nat.le_of_ble_eq_true rfl) kGood kw1072 kw1073 kw1001 kw1074 (by decide +kernel) (by decide) (by decide) rfl (Nat.le_of_ble_eq_true rfl) dL_law_586 (by show _ ≤ 76266; omega) (by show _ ≤ 8873440; omega) ?_
  refine HS.seg (ls' := [(5, .inl 1), (4, .inl 0), (3, .inr (.inr 28161)), (2, .inr (.inr 26909)), (1, .inr (.inr 1)), (0, .inr (.inr 60002))]) (st' := [.inl (rOf (xs 1)), .inr (.inr 26909)]) (w' := wM) (n' := 14082) (c' := c + 6) (HS.comp (s_istore 5 (by decide) dL_law_589) <|
    HS.comp (s_aload_n (k := 2) 2 rfl dL_law_591) <|
    HS.comp (s_aload_n (k := 0) 0 rfl dL_law_592) <|
    HS.comp (s_iload 4 dL_law_593) <|
    HS.comp (s_iconst 1 (by decide +kernel) dL_law_595) <|
    HS.comp (s_iadd dL_law_596) <|
    s_sld (by decide) hb dL_law_597) rfl (by show _ ≤ 76266; omega) (by show _ ≤ 8873440; omega) ?_
  obtain ⟨w1, hF1, hw1⟩ := f_mrun_2 (rOf (xs 1)) 14082 h0 h1
  refine HS.callE (as := [.inr (.inr 26909), .inl (rOf (xs 1))]) (st := []) (s_callV 1 15 kc15 (ok_X13_run l) kGood kw1075 kw1076 kw1078 kw315 kw1077 (by decide +kernel) (by decide) (by decide) dL_law_598) (fun h hv => rW.less h hv) hF1 rfl (Nat.le_of_ble_eq_true rfl) rfl hw1 (by show _ ≤ 76266; omega) (by show _ ≤ 8873440; omega) ?_
  refine HS.seg (ls' := [(6, .inl 0), (5, .inl 1), (4, .inl 0), (3, .inr (.inr 28161)), (2, .inr (.inr 26909)), (1, .inr (.inr 1)), (0, .inr (.inr 60002))]) (st' := [.inr (.inr 26909)]) (w' := wk_mrun_0) (n' := 14082) (c' := c + 6 + 0) (HS.comp (s_istore 6 (by decide) dL_law_601) <|
    s_aload_n (k := 2) 2 rfl dL_law_603) rfl (by show _ ≤ 76266; omega) (by show _ ≤ 8873440; omega) ?_
  obtain ⟨w2, hF2, hw2⟩ := f_thr_run2 14082
  refine HS.callE (as := [.inr (.inr 26909)]) (st := []) (s_callV 0 15 kc15 (ok_X13_thrown l) kGood kw1007 kw1008 kw1010 kw315 kw1009 (by decide +kernel) (by decide) (by decide) dL_law_604) (fun h hv => rW.less h hv) hF2 rfl (Nat.le_of_ble_eq_true rfl) rfl hw2 (by show _ ≤ 76266; omega) (by show _ ≤ 8873440; omega) ?_
  refine HS.seg (ls' := [(6, .inl 0), (5, .inl 1), (4, .inl 0), (3, .inr (.inr 28161)), (2, .inr (.inr 26909)), (1, .inr (.inr 1)), (0, .inr (.inr 60002))]) (st' := [.inl 1, .inl 1]) (w' := []) (n' := 14082) (c' := c + 6 + 0 + 0) (s_iload 5 dL_law_607) rfl (by show _ ≤ 76266; omega) (by show _ ≤ 8873440; omega) ?_
  refine V_icT (pcs := [614, 612]) (s_icmp_eq (b1 := 0) (b2 := 1) (tgt := 614) rfl rfl (by decide) dL_law_609) rfl (rEq_r _) (by show _ ≤ 76266; omega) (by show _ ≤ 8873440; omega) ?_
  refine HS.seg (ls' := [(6, .inl 0), (5, .inl 1), (4, .inl 0), (3, .inr (.inr 28161)), (2, .inr (.inr 26909)), (1, .inr (.inr 1)), (0, .inr (.inr 60002))]) (st' := [.inl 1]) (w' := []) (n' := 14082) (c' := c + 6 + 0 + 0) (s_iload 5 dL_law_614) rfl (by show _ ≤ 76266; omega) (by show _ ≤ 8873440; omega) ?_
  refine V_ifT (pcs := [631, 619]) (s_if_ne (b1 := 0) (b2 := 1) (tgt := 631) rfl rfl (by decide) dL_law_616) rfl (by decide) (by show _ ≤ 76266; omega) (by show _ ≤ 8873440; omega) ?_
  refine V_go (pcs := [1048]) (s_goto (b := 0) (tgt := 1048) rfl (by decide) dL_law_631) rfl (by show _ ≤ 76266; omega) (by show _ ≤ 8873440; omega) ?_
  exact lv_tail hb (by show _ ≤ 76266; omega) (by show _ ≤ 8873440; omega) (by simp) (by simp)
set_option maxRecDepth 1000000 in
set_option maxHeartbeats 40000000 in
theorem lc_unit0 (hl : l.stackTraces = false) (hb : G.2.2.2.1 30000 = .ref b) {c : Nat} (hc : c + 6 ≤ 8873440) (h2 : rEq (rOf (xs 2)) 0 = true) : LV l G b 6 xs oL 205 [(4, .inl 0), (3, .inr (.inr 28161)), (2, .inr (.inr 26909)), (1, .inr (.inr 1)), (0, .inr (.inr 60002))] [] wL 14081 c := by
  refine HS.seg (ls' := [(4, .inl 0), (3, .inr (.inr 28161)), (2, .inr (.inr 26909)), (1, .inr (.inr 1)), (0, .inr (.inr 60002))]) (st' := [.inl (rOf (xs 2)), .inl (rOf (xs 1)), .inr (.inr 1)]) (w' := wL) (n' := 14081) (c' := c) (HS.comp (s_aload_n (k := 1) 1 rfl dL_law_205) <|
    HS.comp (s_aload_n (k := 0) 0 rfl dL_law_206) <|
    HS.comp (s_iload 4 dL_law_207) <|
    HS.comp (s_iconst 1 (by decide +kernel) dL_law_209) <|
    HS.comp (s_iadd dL_law_210) <|
    HS.comp (s_sld (by decide) hb dL_law_211) <|
    HS.comp (s_aload_n (k := 0) 0 rfl dL_law_212) <|
    HS.comp (s_iload 4 dL_law_213) <|
    HS.comp (s_iconst 2 (by decide +kernel) dL_law_215) <|
    HS.comp (s_iadd dL_law_216) <|
    s_sld (by decide) hb dL_law_217) rfl (by show _ ≤ 76266; omega) (by show _ ≤ 8873440; omega) ?_
  refine V_ifT (pcs := [225, 221]) (s_if_eq (b1 := 0) (b2 := 1) (tgt := 225) rfl rfl (by decide) dL_law_218) rfl h2 (by show _ ≤ 76266; omega) (by show _ ≤ 8873440; omega) ?_
  refine HS.seg (ls' := [(4, .inl 0), (3, .inr (.inr 28161)), (2, .inr (.inr 26909)), (1, .inr (.inr 1)), (0, .inr (.inr 60002))]) (st' := [.inr (.inr 28161), .inl 0, .inl (rOf (xs 1)), .inr (.inr 1)]) (w' := wL) (n' := 14081) (c' := c) (HS.comp (s_iconst 0 (by decide +kernel) dL_law_225) <|
    s_aload_n (k := 3) 3 rfl dL_law_226) rfl (by show _ ≤ 76266; omega) (by show _ ≤ 8873440; omega) ?_
  refine V_callH (as := [.inr (.inr 1), .inl (rOf (xs 1)), .inl 0, .inr (.inr 28161)]) (st := []) 4 (hm_unit0 l (rOf (xs 1)) ) (Nat.le_of_ble_eq_true rfl) kGood kw999 kw1000 kw1001 kw1002 (by decide +kernel) (by decide) (by decide) rfl (Nat.le_of_ble_eq_true rfl) dL_law_227 (by show _ ≤ 76266; omega) (by show _ ≤ 8873440; omega) ?_
  refine HS.seg (ls' := [(5, .inl 0), (4, .inl 0), (3, .inr (.inr 28161)), (2, .inr (.inr 26909)), (1, .inr (.inr 1)), (0, .inr (.inr 60002))]) (st' := [.inl (rOf (xs 2)), .inl (rOf (xs 1)), .inr (.inr 26909)]) (w' := wU) (n' := 14081) (c' := c + 0) (HS.comp (s_istore 5 (by decide) dL_law_230) <|
    HS.comp (s_aload_n (k := 2) 2 rfl dL_law_232) <|
    HS.comp (s_aload_n (k := 0) 0 rfl dL_law_233) <|
    HS.comp (s_iload 4 dL_law_234) <|
    HS.comp (s_iconst 1 (by decide +kernel) dL_law_236) <|
    HS.comp (s_iadd dL_law_237) <|
    HS.comp (s_sld (by decide) hb dL_law_238) <|
    HS.comp (s_aload_n (k := 0) 0 rfl dL_law_239) <|
    HS.comp (s_iload 4 dL_law_240) <|
    HS.comp (s_iconst 2 (by decide +kernel) dL_law_242) <|
    HS.comp (s_iadd dL_law_243) <|
    s_sld (by decide) hb dL_law_244) rfl (by show _ ≤ 76266; omega) (by show _ ≤ 8873440; omega) ?_
  refine V_ifT (pcs := [252, 248]) (s_if_eq (b1 := 0) (b2 := 1) (tgt := 252) rfl rfl (by decide) dL_law_245) rfl h2 (by show _ ≤ 76266; omega) (by show _ ≤ 8873440; omega) ?_
  refine HS.seg (ls' := [(5, .inl 0), (4, .inl 0), (3, .inr (.inr 28161)), (2, .inr (.inr 26909)), (1, .inr (.inr 1)), (0, .inr (.inr 60002))]) (st' := [.inl 0, .inl (rOf (xs 1)), .inr (.inr 26909)]) (w' := wU) (n' := 14081) (c' := c + 0) (s_iconst 0 (by decide +kernel) dL_law_252) rfl (by show _ ≤ 76266; omega) (by show _ ≤ 8873440; omega) ?_
  obtain ⟨w1, hF1, hw1⟩ := f_munit0 (rOf (xs 1)) 14081
  refine HS.callE (as := [.inr (.inr 26909), .inl (rOf (xs 1)), .inl 0]) (st := []) (s_callV 2 15 kc15 (ok_X13_unit l) kGood kw1003 kw1004 kw1006 kw315 kw1005 (by decide +kernel) (by decide) (by decide) dL_law_253) (fun h hv => rW.less h hv) hF1 rfl (Nat.le_of_ble_eq_true rfl) rfl hw1 (by show _ ≤ 76266; omega) (by show _ ≤ 8873440; omega) ?_
  refine HS.seg (ls' := [(6, .inl 0), (5, .inl 0), (4, .inl 0), (3, .inr (.inr 28161)), (2, .inr (.inr 26909)), (1, .inr (.inr 1)), (0, .inr (.inr 60002))]) (st' := [.inr (.inr 26909)]) (w' := wk_munit0) (n' := 14081) (c' := c + 0 + 0) (HS.comp (s_istore 6 (by decide) dL_law_256) <|
    s_aload_n (k := 2) 2 rfl dL_law_258) rfl (by show _ ≤ 76266; omega) (by show _ ≤ 8873440; omega) ?_
  obtain ⟨w2, hF2, hw2⟩ := f_thr_unit 14081
  refine HS.callE (as := [.inr (.inr 26909)]) (st := []) (s_callV 0 15 kc15 (ok_X13_thrown l) kGood kw1007 kw1008 kw1010 kw315 kw1009 (by decide +kernel) (by decide) (by decide) dL_law_259) (fun h hv => rW.less h hv) hF2 rfl (Nat.le_of_ble_eq_true rfl) rfl hw2 (by show _ ≤ 76266; omega) (by show _ ≤ 8873440; omega) ?_
  refine HS.seg (ls' := [(6, .inl 0), (5, .inl 0), (4, .inl 0), (3, .inr (.inr 28161)), (2, .inr (.inr 26909)), (1, .inr (.inr 1)), (0, .inr (.inr 60002))]) (st' := [.inl 0, .inl 0]) (w' := wk_munit0) (n' := 14081) (c' := c + 0 + 0 + 0) (s_iload 5 dL_law_262) rfl (by show _ ≤ 76266; omega) (by show _ ≤ 8873440; omega) ?_
  refine V_icT (pcs := [269, 267]) (s_icmp_eq (b1 := 0) (b2 := 1) (tgt := 269) rfl rfl (by decide) dL_law_264) rfl (rEq_r _) (by show _ ≤ 76266; omega) (by show _ ≤ 8873440; omega) ?_
  refine HS.seg (ls' := [(6, .inl 0), (5, .inl 0), (4, .inl 0), (3, .inr (.inr 28161)), (2, .inr (.inr 26909)), (1, .inr (.inr 1)), (0, .inr (.inr 60002))]) (st' := [.inl 0]) (w' := wk_munit0) (n' := 14081) (c' := c + 0 + 0 + 0) (s_iload 5 dL_law_269) rfl (by show _ ≤ 76266; omega) (by show _ ≤ 8873440; omega) ?_
  refine V_ifF (pcs := [286, 274]) (s_if_ne (b1 := 0) (b2 := 1) (tgt := 286) rfl rfl (by decide) dL_law_271) rfl (by decide) (by show _ ≤ 76266; omega) (by show _ ≤ 8873440; omega) ?_
  refine HS.seg (ls' := [(6, .inl 0), (5, .inl 0), (4, .inl 0), (3, .inr (.inr 28161)), (2, .inr (.inr 26909)), (1, .inr (.inr 1)), (0, .inr (.inr 60002))]) (st' := [.inl (rOf (lg_cmp (lN (rOL (nI 0).toInt64)) (lN 0)))]) (w' := wk_munit0) (n' := 14081) (c' := c + 0 + 0 + 0) (HS.comp (s_aload_n (k := 3) 3 rfl dL_law_274) <|
    HS.comp (s_iconst 0 (by decide +kernel) dL_law_275) <|
    HS.comp (s_laload dL_law_276) <|
    HS.comp (s_iload 6 dL_law_277) <|
    HS.comp (s_i2lZ dL_law_279) <|
    s_lcmp dL_law_280) rfl (by show _ ≤ 76266; omega) (by show _ ≤ 8873440; omega) ?_
  refine V_ifT (pcs := [286, 284]) (s_if_eq (b1 := 0) (b2 := 1) (tgt := 286) rfl rfl (by decide) dL_law_281) rfl (rLc_r _) (by show _ ≤ 76266; omega) (by show _ ≤ 8873440; omega) ?_
  refine V_go (pcs := [1048]) (s_goto (b := 0) (tgt := 1048) rfl (by decide) dL_law_286) rfl (by show _ ≤ 76266; omega) (by show _ ≤ 8873440; omega) ?_
  exact lv_tail hb (by show _ ≤ 76266; omega) (by show _ ≤ 8873440; omega) (by simp) (by simp)
set_option maxRecDepth 1000000 in
set_option maxHeartbeats 40000000 in
theorem lc_unit1 (hl : l.stackTraces = false) (hb : G.2.2.2.1 30000 = .ref b) {c : Nat} (hc : c + 6 ≤ 8873440) (h2 : rEq (rOf (xs 2)) 0 = false) : LV l G b 6 xs oL 205 [(4, .inl 0), (3, .inr (.inr 28161)), (2, .inr (.inr 26909)), (1, .inr (.inr 1)), (0, .inr (.inr 60002))] [] wL 14081 c := by
  refine HS.seg (ls' := [(4, .inl 0), (3, .inr (.inr 28161)), (2, .inr (.inr 26909)), (1, .inr (.inr 1)), (0, .inr (.inr 60002))]) (st' := [.inl (rOf (xs 2)), .inl (rOf (xs 1)), .inr (.inr 1)]) (w' := wL) (n' := 14081) (c' := c) (HS.comp (s_aload_n (k := 1) 1 rfl dL_law_205) <|
    HS.comp (s_aload_n (k := 0) 0 rfl dL_law_206) <|
    HS.comp (s_iload 4 dL_law_207) <|
    HS.comp (s_iconst 1 (by decide +kernel) dL_law_209) <|
    HS.comp (s_iadd dL_law_210) <|
    HS.comp (s_sld (by decide) hb dL_law_211) <|
    HS.comp (s_aload_n (k := 0) 0 rfl dL_law_212) <|
    HS.comp (s_iload 4 dL_law_213) <|
    HS.comp (s_iconst 2 (by decide +kernel) dL_law_215) <|
    HS.comp (s_iadd dL_law_216) <|
    s_sld (by decide) hb dL_law_217) rfl (by show _ ≤ 76266; omega) (by show _ ≤ 8873440; omega) ?_
  refine V_ifF (pcs := [225, 221]) (s_if_eq (b1 := 0) (b2 := 1) (tgt := 225) rfl rfl (by decide) dL_law_218) rfl h2 (by show _ ≤ 76266; omega) (by show _ ≤ 8873440; omega) ?_
  refine HS.seg (ls' := [(4, .inl 0), (3, .inr (.inr 28161)), (2, .inr (.inr 26909)), (1, .inr (.inr 1)), (0, .inr (.inr 60002))]) (st' := [.inl 1, .inl (rOf (xs 1)), .inr (.inr 1)]) (w' := wL) (n' := 14081) (c' := c) (s_iconst 1 (by decide +kernel) dL_law_221) rfl (by show _ ≤ 76266; omega) (by show _ ≤ 8873440; omega) ?_
  refine V_go (pcs := [226]) (s_goto (b := 0) (tgt := 226) rfl (by decide) dL_law_222) rfl (by show _ ≤ 76266; omega) (by show _ ≤ 8873440; omega) ?_
  refine HS.seg (ls' := [(4, .inl 0), (3, .inr (.inr 28161)), (2, .inr (.inr 26909)), (1, .inr (.inr 1)), (0, .inr (.inr 60002))]) (st' := [.inr (.inr 28161), .inl 1, .inl (rOf (xs 1)), .inr (.inr 1)]) (w' := wL) (n' := 14081) (c' := c) (s_aload_n (k := 3) 3 rfl dL_law_226) rfl (by show _ ≤ 76266; omega) (by show _ ≤ 8873440; omega) ?_
  refine V_callH (as := [.inr (.inr 1), .inl (rOf (xs 1)), .inl 1, .inr (.inr 28161)]) (st := []) 4 (hm_unit1 l (rOf (xs 1)) ) (Nat.le_of_ble_eq_true rfl) kGood kw999 kw1000 kw1001 kw1002 (by decide +kernel) (by decide) (by decide) rfl (Nat.le_of_ble_eq_true rfl) dL_law_227 (by show _ ≤ 76266; omega) (by show _ ≤ 8873440; omega) ?_
  refine HS.seg (ls' := [(5, .inl 0), (4, .inl 0), (3, .inr (.inr 28161)), (2, .inr (.inr 26909)), (1, .inr (.inr 1)), (0, .inr (.inr 60002))]) (st' := [.inl (rOf (xs 2)), .inl (rOf (xs 1)), .inr (.inr 26909)]) (w' := wU) (n' := 14081) (c' := c + 0) (HS.comp (s_istore 5 (by decide) dL_law_230) <|
    HS.comp (s_aload_n (k := 2) 2 rfl dL_law_232) <|
    HS.comp (s_aload_n (k := 0) 0 rfl dL_law_233) <|
    HS.comp (s_iload 4 dL_law_234) <|
    HS.comp (s_iconst 1 (by decide +kernel) dL_law_236) <|
    HS.comp (s_iadd dL_law_237) <|
    HS.comp (s_sld (by decide) hb dL_law_238) <|
    HS.comp (s_aload_n (k := 0) 0 rfl dL_law_239) <|
    HS.comp (s_iload 4 dL_law_240) <|
    HS.comp (s_iconst 2 (by decide +kernel) dL_law_242) <|
    HS.comp (s_iadd dL_law_243) <|
    s_sld (by decide) hb dL_law_244) rfl (by show _ ≤ 76266; omega) (by show _ ≤ 8873440; omega) ?_
  refine V_ifF (pcs := [252, 248]) (s_if_eq (b1 := 0) (b2 := 1) (tgt := 252) rfl rfl (by decide) dL_law_245) rfl h2 (by show _ ≤ 76266; omega) (by show _ ≤ 8873440; omega) ?_
  refine HS.seg (ls' := [(5, .inl 0), (4, .inl 0), (3, .inr (.inr 28161)), (2, .inr (.inr 26909)), (1, .inr (.inr 1)), (0, .inr (.inr 60002))]) (st' := [.inl 1, .inl (rOf (xs 1)), .inr (.inr 26909)]) (w' := wU) (n' := 14081) (c' := c + 0) (s_iconst 1 (by decide +kernel) dL_law_248) rfl (by show _ ≤ 76266; omega) (by show _ ≤ 8873440; omega) ?_
  refine V_go (pcs := [253]) (s_goto (b := 0) (tgt := 253) rfl (by decide) dL_law_249) rfl (by show _ ≤ 76266; omega) (by show _ ≤ 8873440; omega) ?_
  obtain ⟨w1, hF1, hw1⟩ := f_munit1 (rOf (xs 1)) 14081
  refine HS.callE (as := [.inr (.inr 26909), .inl (rOf (xs 1)), .inl 1]) (st := []) (s_callV 2 15 kc15 (ok_X13_unit l) kGood kw1003 kw1004 kw1006 kw315 kw1005 (by decide +kernel) (by decide) (by decide) dL_law_253) (fun h hv => rW.less h hv) hF1 rfl (Nat.le_of_ble_eq_true rfl) rfl hw1 (by show _ ≤ 76266; omega) (by show _ ≤ 8873440; omega) ?_
  refine HS.seg (ls' := [(6, .inl 0), (5, .inl 0), (4, .inl 0), (3, .inr (.inr 28161)), (2, .inr (.inr 26909)), (1, .inr (.inr 1)), (0, .inr (.inr 60002))]) (st' := [.inr (.inr 26909)]) (w' := wk_munit0) (n' := 14081) (c' := c + 0 + 0) (HS.comp (s_istore 6 (by decide) dL_law_256) <|
    s_aload_n (k := 2) 2 rfl dL_law_258) rfl (by show _ ≤ 76266; omega) (by show _ ≤ 8873440; omega) ?_
  obtain ⟨w2, hF2, hw2⟩ := f_thr_unit 14081
  refine HS.callE (as := [.inr (.inr 26909)]) (st := []) (s_callV 0 15 kc15 (ok_X13_thrown l) kGood kw1007 kw1008 kw1010 kw315 kw1009 (by decide +kernel) (by decide) (by decide) dL_law_259) (fun h hv => rW.less h hv) hF2 rfl (Nat.le_of_ble_eq_true rfl) rfl hw2 (by show _ ≤ 76266; omega) (by show _ ≤ 8873440; omega) ?_
  refine HS.seg (ls' := [(6, .inl 0), (5, .inl 0), (4, .inl 0), (3, .inr (.inr 28161)), (2, .inr (.inr 26909)), (1, .inr (.inr 1)), (0, .inr (.inr 60002))]) (st' := [.inl 0, .inl 0]) (w' := wk_munit0) (n' := 14081) (c' := c + 0 + 0 + 0) (s_iload 5 dL_law_262) rfl (by show _ ≤ 76266; omega) (by show _ ≤ 8873440; omega) ?_
  refine V_icT (pcs := [269, 267]) (s_icmp_eq (b1 := 0) (b2 := 1) (tgt := 269) rfl rfl (by decide) dL_law_264) rfl (rEq_r _) (by show _ ≤ 76266; omega) (by show _ ≤ 8873440; omega) ?_
  refine HS.seg (ls' := [(6, .inl 0), (5, .inl 0), (4, .inl 0), (3, .inr (.inr 28161)), (2, .inr (.inr 26909)), (1, .inr (.inr 1)), (0, .inr (.inr 60002))]) (st' := [.inl 0]) (w' := wk_munit0) (n' := 14081) (c' := c + 0 + 0 + 0) (s_iload 5 dL_law_269) rfl (by show _ ≤ 76266; omega) (by show _ ≤ 8873440; omega) ?_
  refine V_ifF (pcs := [286, 274]) (s_if_ne (b1 := 0) (b2 := 1) (tgt := 286) rfl rfl (by decide) dL_law_271) rfl (by decide) (by show _ ≤ 76266; omega) (by show _ ≤ 8873440; omega) ?_
  refine HS.seg (ls' := [(6, .inl 0), (5, .inl 0), (4, .inl 0), (3, .inr (.inr 28161)), (2, .inr (.inr 26909)), (1, .inr (.inr 1)), (0, .inr (.inr 60002))]) (st' := [.inl (rOf (lg_cmp (lN (rOL (nI 0).toInt64)) (lN 0)))]) (w' := wk_munit0) (n' := 14081) (c' := c + 0 + 0 + 0) (HS.comp (s_aload_n (k := 3) 3 rfl dL_law_274) <|
    HS.comp (s_iconst 0 (by decide +kernel) dL_law_275) <|
    HS.comp (s_laload dL_law_276) <|
    HS.comp (s_iload 6 dL_law_277) <|
    HS.comp (s_i2lZ dL_law_279) <|
    s_lcmp dL_law_280) rfl (by show _ ≤ 76266; omega) (by show _ ≤ 8873440; omega) ?_
  refine V_ifT (pcs := [286, 284]) (s_if_eq (b1 := 0) (b2 := 1) (tgt := 286) rfl rfl (by decide) dL_law_281) rfl (rLc_r _) (by show _ ≤ 76266; omega) (by show _ ≤ 8873440; omega) ?_
  refine V_go (pcs := [1048]) (s_goto (b := 0) (tgt := 1048) rfl (by decide) dL_law_286) rfl (by show _ ≤ 76266; omega) (by show _ ≤ 8873440; omega) ?_
  exact lv_tail hb (by show _ ≤ 76266; omega) (by show _ ≤ 8873440; omega) (by simp) (by simp)
end LAWW
