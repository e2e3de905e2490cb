/-! METHODS OF THE CALLS -/
-- NativeWorks.append(I)V
noncomputable def bs_X11_append : List rBl := [sq (h_v (.inl 24)) (sq (h_st isI 2) (t_go 1)),
  sq (h_ld isI 2) (t_if (fun a => rLt a 0) 3 2),
  sq (h_ld isR 0) (sq (h_get rFo 13 0) (sq (h_ld isR 0) (sq (h_dup) (sq (h_get rFo 13 5) (sq (h_dupx1) (sq (h_v (.inl 1)) (sq (h_bin (fun _ _ => true) rAdd) (sq (h_put 13 5 isI) (sq (h_ld isI 1) (sq (h_ld isI 2) (sq (h_binZ (fun x y => x >>> (y &&& 31))) (sq (h_unZ (fun x => x.toInt8.toInt32)) (sq (h_astZ) (sq (h_inc 2 4294967288) (t_go 1))))))))))))))),
  t_ret]
noncomputable def ev_X11_append : rEv := fun as w n => rIni 3 as (fun ls => rRun bs_X11_append 100000 0 ls [] w n 0)
set_option maxRecDepth 100000 in
set_option maxHeartbeats 4000000 in
theorem ok_X11_append (l : Launch) : rMet vwCl rFo rZs rRs rNs rTs l yX11_append cX11_append 3 ((Option.none : Option FieldType)) 0 0 ev_X11_append := met_of (pcs := [0, 3, 7, 33]) (by decide +kernel) rfl (fun G n0 =>
  AllB.c (pb := 0) (
    BS.sq (pc' := 2) (s_bipush 24 (by decide +kernel) dX11_append_0) <|
    BS.sq (pc' := 3) (s_istore_n (k := 2) 2 rfl (by decide) dX11_append_2) <|
    BS.go rfl) <|
  AllB.c (pb := 3) (
    BS.sq (pc' := 4) (s_iload_n (k := 2) 2 rfl dX11_append_3) <|
    s_if_lt rfl rfl (by decide) dX11_append_4) <|
  AllB.c (pb := 7) (
    BS.sq (pc' := 8) (s_aload_n (k := 0) 0 rfl dX11_append_7) <|
    BS.sq (pc' := 11) (s_get 0 inX11 kc13 (by decide) kw245 rfl dX11_append_8) <|
    BS.sq (pc' := 12) (s_aload_n (k := 0) 0 rfl dX11_append_11) <|
    BS.sq (pc' := 13) (s_dup dX11_append_12) <|
    BS.sq (pc' := 16) (s_get 5 inX11 kc13 (by decide) kw268 rfl dX11_append_13) <|
    BS.sq (pc' := 17) (s_dupx1 dX11_append_16) <|
    BS.sq (pc' := 18) (s_iconst 1 (by decide +kernel) dX11_append_17) <|
    BS.sq (pc' := 19) (s_iadd dX11_append_18) <|
    BS.sq (pc' := 22) (s_put tyX11 5 isI inX11 tyX11_ok nmX11 kc13 (by decide) kw268 rfl rfl (okf_I G) dX11_append_19) <|
    BS.sq (pc' := 23) (s_iload_n (k := 1) 1 rfl dX11_append_22) <|
    BS.sq (pc' := 24) (s_iload_n (k := 2) 2 rfl dX11_append_23) <|
    BS.sq (pc' := 25) (s_ishrZ dX11_append_24) <|
    BS.sq (pc' := 26) (s_i2bZ dX11_append_25) <|
    BS.sq (pc' := 27) (s_bastoreZ dX11_append_26) <|
    BS.sq (pc' := 30) (s_iinc 2 4294967288 (-8) (by decide +kernel) (by decide) dX11_append_27) <|
    s_goto rfl (by decide) dX11_append_30) <|
  AllB.c (pb := 33) (
    s_ret rfl dX11_append_33) <|
  AllB.n)
-- NativeWorks.feed(IIIII)I
noncomputable def bs_X11_feed : List rBl := [sq (h_ld isR 0) (sq (h_get rFo 13 5) (sq (h_v (.inl 20)) (sq (h_bin (fun _ _ => true) rAdd) (sq (h_v (.inl 65536)) (t_icmp rLe 2 1))))),
  t_no,
  sq (h_ld isR 0) (sq (h_ld isI 1) (sq (h_call 2 (rRecv rFo 13) ev_X11_append) (sq (h_ld isR 0) (sq (h_ld isI 2) (sq (h_call 2 (rRecv rFo 13) ev_X11_append) (sq (h_ld isR 0) (sq (h_ld isI 3) (sq (h_call 2 (rRecv rFo 13) ev_X11_append) (sq (h_ld isR 0) (sq (h_ld isI 4) (sq (h_call 2 (rRecv rFo 13) ev_X11_append) (sq (h_ld isR 0) (sq (h_ld isI 5) (sq (h_call 2 (rRecv rFo 13) ev_X11_append) (sq (h_ld isR 0) (sq (h_get rFo 13 5) (t_retv isI)))))))))))))))))]
noncomputable def ev_X11_feed : rEv := fun as w n => rIni 6 as (fun ls => rRun bs_X11_feed 100000 0 ls [] w n 0)
set_option maxRecDepth 100000 in
set_option maxHeartbeats 4000000 in
theorem ok_X11_feed (l : Launch) : rMet vwCl rFo rZs rRs rNs rTs l yX11_feed cX11_feed 6 ((Option.some FieldType.int)) 1 22 ev_X11_feed := met_of (pcs := [0, 12, 14]) (by decide +kernel) rfl (fun G n0 =>
  AllB.c (pb := 0) (
    BS.sq (pc' := 1) (s_aload_n (k := 0) 0 rfl dX11_feed_0) <|
    BS.sq (pc' := 4) (s_get 5 inX11 kc13 (by decide) kw268 rfl dX11_feed_1) <|
    BS.sq (pc' := 6) (s_bipush 20 (by decide +kernel) dX11_feed_4) <|
    BS.sq (pc' := 7) (s_iadd dX11_feed_6) <|
    BS.sq (pc' := 9) (s_ldc 65536 kw238 dX11_feed_7) <|
    s_icmp_le rfl rfl (by decide) dX11_feed_9) <|
  AllB.c (pb := 12) (
    BS.no) <|
  AllB.c (pb := 14) (
    BS.sq (pc' := 15) (s_aload_n (k := 0) 0 rfl dX11_feed_14) <|
    BS.sq (pc' := 16) (s_iload_n (k := 1) 1 rfl dX11_feed_15) <|
    BS.sq (pc' := 19) (s_callV 1 13 kc13 (ok_X11_append l) kGood kw596 kw597 kw598 kw599 kw595 (by decide +kernel) (by decide) (by decide) dX11_feed_16) <|
    BS.sq (pc' := 20) (s_aload_n (k := 0) 0 rfl dX11_feed_19) <|
    BS.sq (pc' := 21) (s_iload_n (k := 2) 2 rfl dX11_feed_20) <|
    BS.sq (pc' := 24) (s_callV 1 13 kc13 (ok_X11_append l) kGood kw596 kw597 kw598 kw599 kw595 (by decide +kernel) (by decide) (by decide) dX11_feed_21) <|
    BS.sq (pc' := 25) (s_aload_n (k := 0) 0 rfl dX11_feed_24) <|
    BS.sq (pc' := 26) (s_iload_n (k := 3) 3 rfl dX11_feed_25) <|
    BS.sq (pc' := 29) (s_callV 1 13 kc13 (ok_X11_append l) kGood kw596 kw597 kw598 kw599 kw595 (by decide +kernel) (by decide) (by decide) dX11_feed_26) <|
    BS.sq (pc' := 30) (s_aload_n (k := 0) 0 rfl dX11_feed_29) <|
    BS.sq (pc' := 32) (s_iload 4 dX11_feed_30) <|
    BS.sq (pc' := 35) (s_callV 1 13 kc13 (ok_X11_append l) kGood kw596 kw597 kw598 kw599 kw595 (by decide +kernel) (by decide) (by decide) dX11_feed_32) <|
    BS.sq (pc' := 36) (s_aload_n (k := 0) 0 rfl dX11_feed_35) <|
    BS.sq (pc' := 38) (s_iload 5 dX11_feed_36) <|
    BS.sq (pc' := 41) (s_callV 1 13 kc13 (ok_X11_append l) kGood kw596 kw597 kw598 kw599 kw595 (by decide +kernel) (by decide) (by decide) dX11_feed_38) <|
    BS.sq (pc' := 42) (s_aload_n (k := 0) 0 rfl dX11_feed_41) <|
    BS.sq (pc' := 45) (s_get 5 inX11 kc13 (by decide) kw268 rfl dX11_feed_42) <|
    s_reti isI rfl okr_I dX11_feed_45) <|
  AllB.n)
-- NativeWorks.emptied(I)I
noncomputable def bs_X11_emptied : List rBl := [sq (h_v (.inl 0)) (sq (h_ld isI 1) (sq (h_ld isR 0) (sq (h_get rFo 13 5) (sq (h_mmZ (fun x y => if y < x then y else x)) (sq (h_mmZ (fun x y => if x < y then y else x)) (sq (h_st isI 2) (sq (h_ld isR 0) (sq (h_v (.inl 0)) (sq (h_put 13 5 isI) (sq (h_ld isI 2) (t_retv isI)))))))))))]
noncomputable def ev_X11_emptied : rEv := fun as w n => rIni 3 as (fun ls => rRun bs_X11_emptied 100000 0 ls [] w n 0)
set_option maxRecDepth 100000 in
set_option maxHeartbeats 4000000 in
theorem ok_X11_emptied (l : Launch) : rMet vwCl rFo rZs rRs rNs rTs l yX11_emptied cX11_emptied 3 ((Option.some FieldType.int)) 1 21 ev_X11_emptied := met_of (pcs := [0]) (by decide +kernel) rfl (fun G n0 =>
  AllB.c (pb := 0) (
    BS.sq (pc' := 1) (s_iconst 0 (by decide +kernel) dX11_emptied_0) <|
    BS.sq (pc' := 2) (s_iload_n (k := 1) 1 rfl dX11_emptied_1) <|
    BS.sq (pc' := 3) (s_aload_n (k := 0) 0 rfl dX11_emptied_2) <|
    BS.sq (pc' := 6) (s_get 5 inX11 kc13 (by decide) kw268 rfl dX11_emptied_3) <|
    BS.sq (pc' := 9) (s_mminZ kw600 kw285 kw286 kw287 (by decide) (by decide) dX11_emptied_6) <|
    BS.sq (pc' := 12) (s_mmaxZ kw601 kw602 kw286 kw603 (by decide) (by decide) dX11_emptied_9) <|
    BS.sq (pc' := 13) (s_istore_n (k := 2) 2 rfl (by decide) dX11_emptied_12) <|
    BS.sq (pc' := 14) (s_aload_n (k := 0) 0 rfl dX11_emptied_13) <|
    BS.sq (pc' := 15) (s_iconst 0 (by decide +kernel) dX11_emptied_14) <|
    BS.sq (pc' := 18) (s_put tyX11 5 isI inX11 tyX11_ok nmX11 kc13 (by decide) kw268 rfl rfl (okf_I G) dX11_emptied_15) <|
    BS.sq (pc' := 19) (s_iload_n (k := 2) 2 rfl dX11_emptied_18) <|
    s_reti isI rfl okr_I dX11_emptied_19) <|
  AllB.n)
set_option maxRecDepth 1000000 in
set_option maxHeartbeats 40000000 in
theorem se_X11_emptied : (fun (a n : Nat) => ev_X11_emptied [.inr (.inr 1), .inl a] wL n) = fun a n => some (some (.inl (rOf (if nI 0 < nI (rOf (if nI 0 < nI a then nI 0 else nI a)) then nI (rOf (if nI 0 < nI a then nI 0 else nI a)) else nI 0))), (wL, (n, 0))) := by rfl
theorem min_max0 (x : Int32) : (if (0 : Int32) < (if (0 : Int32) < x then 0 else x) then (if (0 : Int32) < x then 0 else x) else 0) = 0 := by
  by_cases h : (0 : Int32) < x
  · rw [if_pos h, if_neg (by decide)]
  · rw [if_neg h, if_neg h]
noncomputable def sev_X11_emptied : rEv := rSy (.inr (.inr 1)) (.inl 0) wL
theorem sok_X11_emptied (l : Launch) : rMet vwCl rFo rZs rRs rNs rTs l yX11_emptied cX11_emptied 3 ((Option.some FieldType.int)) 1 21 sev_X11_emptied := met_sy (ok_X11_emptied l) (fun a n => ⟨_, by rw [rOf_e, rOf_e]; exact min_max0 (nI a), congrFun (congrFun se_X11_emptied a) n⟩)
-- NativeWorks$Units.begin(Z)V
noncomputable def bs_X10_begin : List rBl := [sq (h_ld isR 0) (sq (h_get rFo 12 9) (sq (h_ld isR 0) (sq (h_get rFo 12 11) (sq (h_ald rFo okA) (sq (h_st isR 2) (sq (h_ld isR 2) (sq (h_v (.inl 0)) (sq (h_call 2 rAny ev_J7_fill_53178) (sq (h_ld isR 2) (sq (h_v (.inl 0)) (sq (h_ld isR 0) (sq (h_get rFo 12 0) (sq (h_get rFo 9 5) (sq (h_ast okI) (sq (h_ld isR 2) (sq (h_v (.inl 1)) (sq (h_ld isR 0) (sq (h_get rFo 12 14) (sq (h_ast okI) (sq (h_ld isR 2) (sq (h_v (.inl 2)) (sq (h_ld isR 0) (sq (h_get rFo 12 15) (sq (h_ast okI) (sq (h_ld isR 2) (sq (h_v (.inl 3)) (sq (h_ld isI 1) (t_if (fun a => rEq a 0) 2 1)))))))))))))))))))))))))))),
  sq (h_v (.inl 1)) (t_go 3),
  sq (h_v (.inl 0)) (t_go 3),
  sq (h_ast okI) (sq (h_ld isR 0) (sq (h_ld isR 0) (sq (h_get rFo 12 0) (sq (h_get rFo 9 5) (sq (h_put 12 12 isI) (sq (h_ld isR 0) (sq (h_v (.inl 0)) (sq (h_put 12 13 isI) (sq (h_ld isR 0) (sq (h_v (.inl 0)) (sq (h_put 12 16 isI) (t_ret))))))))))))]
noncomputable def ev_X10_begin : rEv := fun as w n => rIni 3 as (fun ls => rRun bs_X10_begin 100000 0 ls [] w n 0)
set_option maxRecDepth 100000 in
set_option maxHeartbeats 4000000 in
theorem ok_X10_begin (l : Launch) : rMet vwCl rFo rZs rRs rNs rTs l yX10_begin cX10_begin 3 ((Option.none : Option FieldType)) 1 23 ev_X10_begin := met_of (pcs := [0, 45, 49, 50]) (by decide +kernel) rfl (fun G n0 =>
  AllB.c (pb := 0) (
    BS.sq (pc' := 1) (s_aload_n (k := 0) 0 rfl dX10_begin_0) <|
    BS.sq (pc' := 4) (s_get 9 inX10 kc12 (by decide) kw35 rfl dX10_begin_1) <|
    BS.sq (pc' := 5) (s_aload_n (k := 0) 0 rfl dX10_begin_4) <|
    BS.sq (pc' := 8) (s_get 11 inX10 kc12 (by decide) kw604 rfl dX10_begin_5) <|
    BS.sq (pc' := 9) (s_aaload dX10_begin_8) <|
    BS.sq (pc' := 10) (s_astore_n (k := 2) 2 rfl (by decide) dX10_begin_9) <|
    BS.sq (pc' := 11) (s_aload_n (k := 2) 2 rfl dX10_begin_10) <|
    BS.sq (pc' := 12) (s_iconst 0 (by decide +kernel) dX10_begin_11) <|
    BS.sq (pc' := 15) (s_callS 2 (ok_J7_fill_53178 l) kGood kw605 kw12 kw13 kw10 (by decide +kernel) (by decide) (by decide) dX10_begin_12) <|
    BS.sq (pc' := 16) (s_aload_n (k := 2) 2 rfl dX10_begin_15) <|
    BS.sq (pc' := 17) (s_iconst 0 (by decide +kernel) dX10_begin_16) <|
    BS.sq (pc' := 18) (s_aload_n (k := 0) 0 rfl dX10_begin_17) <|
    BS.sq (pc' := 21) (s_get 0 inX10 kc12 (by decide) kw23 rfl dX10_begin_18) <|
    BS.sq (pc' := 24) (s_get 5 inX7 kc9 (by decide) kw606 rfl dX10_begin_21) <|
    BS.sq (pc' := 25) (s_iastore dX10_begin_24) <|
    BS.sq (pc' := 26) (s_aload_n (k := 2) 2 rfl dX10_begin_25) <|
    BS.sq (pc' := 27) (s_iconst 1 (by decide +kernel) dX10_begin_26) <|
    BS.sq (pc' := 28) (s_aload_n (k := 0) 0 rfl dX10_begin_27) <|
    BS.sq (pc' := 31) (s_get 14 inX10 kc12 (by decide) kw607 rfl dX10_begin_28) <|
    BS.sq (pc' := 32) (s_iastore dX10_begin_31) <|
    BS.sq (pc' := 33) (s_aload_n (k := 2) 2 rfl dX10_begin_32) <|
    BS.sq (pc' := 34) (s_iconst 2 (by decide +kernel) dX10_begin_33) <|
    BS.sq (pc' := 35) (s_aload_n (k := 0) 0 rfl dX10_begin_34) <|
    BS.sq (pc' := 38) (s_get 15 inX10 kc12 (by decide) kw608 rfl dX10_begin_35) <|
    BS.sq (pc' := 39) (s_iastore dX10_begin_38) <|
    BS.sq (pc' := 40) (s_aload_n (k := 2) 2 rfl dX10_begin_39) <|
    BS.sq (pc' := 41) (s_iconst 3 (by decide +kernel) dX10_begin_40) <|
    BS.sq (pc' := 42) (s_iload_n (k := 1) 1 rfl dX10_begin_41) <|
    s_if_eq rfl rfl (by decide) dX10_begin_42) <|
  AllB.c (pb := 45) (
    BS.sq (pc' := 46) (s_iconst 1 (by decide +kernel) dX10_begin_45) <|
    s_goto rfl (by decide) dX10_begin_46) <|
  AllB.c (pb := 49) (
    BS.sq (pc' := 50) (s_iconst 0 (by decide +kernel) dX10_begin_49) <|
    BS.go rfl) <|
  AllB.c (pb := 50) (
    BS.sq (pc' := 51) (s_iastore dX10_begin_50) <|
    BS.sq (pc' := 52) (s_aload_n (k := 0) 0 rfl dX10_begin_51) <|
    BS.sq (pc' := 53) (s_aload_n (k := 0) 0 rfl dX10_begin_52) <|
    BS.sq (pc' := 56) (s_get 0 inX10 kc12 (by decide) kw23 rfl dX10_begin_53) <|
    BS.sq (pc' := 59) (s_get 5 inX7 kc9 (by decide) kw606 rfl dX10_begin_56) <|
    BS.sq (pc' := 62) (s_put tyX10 12 isI inX10 tyX10_ok nmX10 kc12 (by decide) kw609 rfl rfl (okf_I G) dX10_begin_59) <|
    BS.sq (pc' := 63) (s_aload_n (k := 0) 0 rfl dX10_begin_62) <|
    BS.sq (pc' := 64) (s_iconst 0 (by decide +kernel) dX10_begin_63) <|
    BS.sq (pc' := 67) (s_put tyX10 13 isI inX10 tyX10_ok nmX10 kc12 (by decide) kw610 rfl rfl (okf_I G) dX10_begin_64) <|
    BS.sq (pc' := 68) (s_aload_n (k := 0) 0 rfl dX10_begin_67) <|
    BS.sq (pc' := 69) (s_iconst 0 (by decide +kernel) dX10_begin_68) <|
    BS.sq (pc' := 72) (s_put tyX10 16 isI inX10 tyX10_ok nmX10 kc12 (by decide) kw611 rfl rfl (okf_I G) dX10_begin_69) <|
    s_ret rfl dX10_begin_72) <|
  AllB.n)
-- NativeWorks$Names.cut(I)V
noncomputable def bs_X7_cut : List rBl := [sq (h_ld isR 0) (sq (h_get rFo 9 5) (sq (h_ld isI 1) (t_icmp rLe 2 1))),
  t_no,
  t_ret]
noncomputable def ev_X7_cut : rEv := fun as w n => rIni 2 as (fun ls => rRun bs_X7_cut 100000 0 ls [] w n 0)
set_option maxRecDepth 100000 in
set_option maxHeartbeats 4000000 in
theorem ok_X7_cut (l : Launch) : rMet vwCl rFo rZs rRs rNs rTs l yX7_cut cX7_cut 2 ((Option.none : Option FieldType)) 0 0 ev_X7_cut := met_of (pcs := [0, 8, 44]) (by decide +kernel) rfl (fun G n0 =>
  AllB.c (pb := 0) (
    BS.sq (pc' := 1) (s_aload_n (k := 0) 0 rfl dX7_cut_0) <|
    BS.sq (pc' := 4) (s_get 5 inX7 kc9 (by decide) kw14 rfl dX7_cut_1) <|
    BS.sq (pc' := 5) (s_iload_n (k := 1) 1 rfl dX7_cut_4) <|
    s_icmp_le rfl rfl (by decide) dX7_cut_5) <|
  AllB.c (pb := 8) (
    BS.no) <|
  AllB.c (pb := 44) (
    s_ret rfl dX7_cut_44) <|
  AllB.n)
-- NativeWorks$Source.match()V
noncomputable def bs_X9_match : List rBl := [sq (h_ld isR 0) (sq (h_get rFo 11 4) (sq (h_ld isR 0) (sq (h_get rFo 11 13) (sq (h_ld isR 0) (sq (h_get rFo 11 13) (sq (h_ast okI) (sq (h_ld isR 0) (sq (h_get rFo 11 5) (sq (h_ld isR 0) (sq (h_get rFo 11 13) (sq (h_ld isR 0) (sq (h_get rFo 11 13) (sq (h_ast okI) (sq (h_ld isR 0) (sq (h_get rFo 11 6) (sq (h_ld isR 0) (sq (h_get rFo 11 13) (sq (h_ld isR 0) (sq (h_get rFo 11 13) (sq (h_ast okI) (sq (h_ld isR 0) (sq (h_get rFo 11 13) (sq (h_v (.inl 1)) (sq (h_bin (fun _ _ => true) rSub) (sq (h_st isI 1) (t_go 1)))))))))))))))))))))))))),
  sq (h_ld isI 1) (t_if (fun a => rLt a 0) 19 2),
  t_no,
  t_no,
  t_no,
  t_no,
  t_no,
  t_no,
  t_no,
  t_no,
  t_no,
  t_no,
  t_no,
  t_no,
  t_no,
  t_no,
  t_no,
  t_no,
  t_no,
  t_ret]
noncomputable def ev_X9_match : rEv := fun as w n => rIni 5 as (fun ls => rRun bs_X9_match 100000 0 ls [] w n 0)
set_option maxRecDepth 100000 in
set_option maxHeartbeats 4000000 in
theorem ok_X9_match (l : Launch) : rMet vwCl rFo rZs rRs rNs rTs l yX9_match cX9_match 5 ((Option.none : Option FieldType)) 0 0 ev_X9_match := met_of (pcs := [0, 46, 50, 87, 91, 97, 109, 110, 122, 128, 132, 138, 150, 158, 170, 174, 180, 193, 195, 202]) (by decide +kernel) rfl (fun G n0 =>
  AllB.c (pb := 0) (
    BS.sq (pc' := 1) (s_aload_n (k := 0) 0 rfl dX9_match_0) <|
    BS.sq (pc' := 4) (s_get 4 inX9 kc11 (by decide) kw98 rfl dX9_match_1) <|
    BS.sq (pc' := 5) (s_aload_n (k := 0) 0 rfl dX9_match_4) <|
    BS.sq (pc' := 8) (s_get 13 inX9 kc11 (by decide) kw111 rfl dX9_match_5) <|
    BS.sq (pc' := 9) (s_aload_n (k := 0) 0 rfl dX9_match_8) <|
    BS.sq (pc' := 12) (s_get 13 inX9 kc11 (by decide) kw111 rfl dX9_match_9) <|
    BS.sq (pc' := 13) (s_iastore dX9_match_12) <|
    BS.sq (pc' := 14) (s_aload_n (k := 0) 0 rfl dX9_match_13) <|
    BS.sq (pc' := 17) (s_get 5 inX9 kc11 (by decide) kw99 rfl dX9_match_14) <|
    BS.sq (pc' := 18) (s_aload_n (k := 0) 0 rfl dX9_match_17) <|
    BS.sq (pc' := 21) (s_get 13 inX9 kc11 (by decide) kw111 rfl dX9_match_18) <|
    BS.sq (pc' := 22) (s_aload_n (k := 0) 0 rfl dX9_match_21) <|
    BS.sq (pc' := 25) (s_get 13 inX9 kc11 (by decide) kw111 rfl dX9_match_22) <|
    BS.sq (pc' := 26) (s_iastore dX9_match_25) <|
    BS.sq (pc' := 27) (s_aload_n (k := 0) 0 rfl dX9_match_26) <|
    BS.sq (pc' := 30) (s_get 6 inX9 kc11 (by decide) kw100 rfl dX9_match_27) <|
    BS.sq (pc' := 31) (s_aload_n (k := 0) 0 rfl dX9_match_30) <|
    BS.sq (pc' := 34) (s_get 13 inX9 kc11 (by decide) kw111 rfl dX9_match_31) <|
    BS.sq (pc' := 35) (s_aload_n (k := 0) 0 rfl dX9_match_34) <|
    BS.sq (pc' := 38) (s_get 13 inX9 kc11 (by decide) kw111 rfl dX9_match_35) <|
    BS.sq (pc' := 39) (s_iastore dX9_match_38) <|
    BS.sq (pc' := 40) (s_aload_n (k := 0) 0 rfl dX9_match_39) <|
    BS.sq (pc' := 43) (s_get 13 inX9 kc11 (by decide) kw111 rfl dX9_match_40) <|
    BS.sq (pc' := 44) (s_iconst 1 (by decide +kernel) dX9_match_43) <|
    BS.sq (pc' := 45) (s_isub dX9_match_44) <|
    BS.sq (pc' := 46) (s_istore_n (k := 1) 1 rfl (by decide) dX9_match_45) <|
    BS.go rfl) <|
  AllB.c (pb := 46) (
    BS.sq (pc' := 47) (s_iload_n (k := 1) 1 rfl dX9_match_46) <|
    s_if_lt rfl rfl (by decide) dX9_match_47) <|
  AllB.c (pb := 50) (
    BS.no) <|
  AllB.c (pb := 87) (
    BS.no) <|
  AllB.c (pb := 91) (
    BS.no) <|
  AllB.c (pb := 97) (
    BS.no) <|
  AllB.c (pb := 109) (
    BS.no) <|
  AllB.c (pb := 110) (
    BS.no) <|
  AllB.c (pb := 122) (
    BS.no) <|
  AllB.c (pb := 128) (
    BS.no) <|
  AllB.c (pb := 132) (
    BS.no) <|
  AllB.c (pb := 138) (
    BS.no) <|
  AllB.c (pb := 150) (
    BS.no) <|
  AllB.c (pb := 158) (
    BS.no) <|
  AllB.c (pb := 170) (
    BS.no) <|
  AllB.c (pb := 174) (
    BS.no) <|
  AllB.c (pb := 180) (
    BS.no) <|
  AllB.c (pb := 193) (
    BS.no) <|
  AllB.c (pb := 195) (
    BS.no) <|
  AllB.c (pb := 202) (
    s_ret rfl dX9_match_202) <|
  AllB.n)
-- NativeWorks$Source.split(I)V
noncomputable def bs_X9_split : List rBl := [sq (h_ld isR 0) (sq (h_get rFo 11 7) (sq (h_v (.inl 0)) (sq (h_call 2 (rRecv rFo 9) ev_X7_cut) (sq (h_ld isR 0) (sq (h_v (.inl 0)) (sq (h_put 11 13 isI) (sq (h_ld isR 0) (sq (h_get rFo 11 2) (sq (h_v (.inl 0)) (sq (h_v (.inl 0)) (sq (h_ast okI) (sq (h_v (.inl 0)) (sq (h_st isI 2) (t_go 1)))))))))))))),
  sq (h_ld isI 2) (sq (h_ld isI 1) (t_icmp (fun a b => rNot (rLt a b)) 5 2)),
  t_no,
  t_no,
  t_no,
  sq (h_ld isR 0) (sq (h_get rFo 11 2) (sq (h_ld isR 0) (sq (h_get rFo 11 13) (sq (h_ald rFo okI) (sq (h_ld isI 1) (t_icmp (fun a b => rNot (rLt a b)) 7 6)))))),
  t_no,
  sq (h_v (.inl 0)) (sq (h_st isI 2) (t_go 8)),
  sq (h_ld isI 2) (sq (h_ld isR 0) (sq (h_get rFo 11 13) (t_icmp (fun a b => rNot (rLt a b)) 10 9))),
  t_no,
  sq (h_ld isR 0) (sq (h_call 1 (rRecv rFo 11) ev_X9_match) (t_ret))]
noncomputable def ev_X9_split : rEv := fun as w n => rIni 3 as (fun ls => rRun bs_X9_split 100000 0 ls [] w n 0)
set_option maxRecDepth 100000 in
set_option maxHeartbeats 4000000 in
theorem ok_X9_split (l : Launch) : rMet vwCl rFo rZs rRs rNs rTs l yX9_split cX9_split 3 ((Option.none : Option FieldType)) 1 24 ev_X9_split := met_of (pcs := [0, 22, 27, 38, 57, 63, 76, 95, 97, 105, 123]) (by decide +kernel) rfl (fun G n0 =>
  AllB.c (pb := 0) (
    BS.sq (pc' := 1) (s_aload_n (k := 0) 0 rfl dX9_split_0) <|
    BS.sq (pc' := 4) (s_get 7 inX9 kc11 (by decide) kw104 rfl dX9_split_1) <|
    BS.sq (pc' := 5) (s_iconst 0 (by decide +kernel) dX9_split_4) <|
    BS.sq (pc' := 8) (s_callV 1 9 kc9 (ok_X7_cut l) kGood kw613 kw614 kw615 kw18 kw612 (by decide +kernel) (by decide) (by decide) dX9_split_5) <|
    BS.sq (pc' := 9) (s_aload_n (k := 0) 0 rfl dX9_split_8) <|
    BS.sq (pc' := 10) (s_iconst 0 (by decide +kernel) dX9_split_9) <|
    BS.sq (pc' := 13) (s_put tyX9 13 isI inX9 tyX9_ok nmX9 kc11 (by decide) kw111 rfl rfl (okf_I G) dX9_split_10) <|
    BS.sq (pc' := 14) (s_aload_n (k := 0) 0 rfl dX9_split_13) <|
    BS.sq (pc' := 17) (s_get 2 inX9 kc11 (by decide) kw95 rfl dX9_split_14) <|
    BS.sq (pc' := 18) (s_iconst 0 (by decide +kernel) dX9_split_17) <|
    BS.sq (pc' := 19) (s_iconst 0 (by decide +kernel) dX9_split_18) <|
    BS.sq (pc' := 20) (s_iastore dX9_split_19) <|
    BS.sq (pc' := 21) (s_iconst 0 (by decide +kernel) dX9_split_20) <|
    BS.sq (pc' := 22) (s_istore_n (k := 2) 2 rfl (by decide) dX9_split_21) <|
    BS.go rfl) <|
  AllB.c (pb := 22) (
    BS.sq (pc' := 23) (s_iload_n (k := 2) 2 rfl dX9_split_22) <|
    BS.sq (pc' := 24) (s_iload_n (k := 1) 1 rfl dX9_split_23) <|
    s_icmp_ge rfl rfl (by decide) dX9_split_24) <|
  AllB.c (pb := 27) (
    BS.no) <|
  AllB.c (pb := 38) (
    BS.no) <|
  AllB.c (pb := 57) (
    BS.no) <|
  AllB.c (pb := 63) (
    BS.sq (pc' := 64) (s_aload_n (k := 0) 0 rfl dX9_split_63) <|
    BS.sq (pc' := 67) (s_get 2 inX9 kc11 (by decide) kw95 rfl dX9_split_64) <|
    BS.sq (pc' := 68) (s_aload_n (k := 0) 0 rfl dX9_split_67) <|
    BS.sq (pc' := 71) (s_get 13 inX9 kc11 (by decide) kw111 rfl dX9_split_68) <|
    BS.sq (pc' := 72) (s_iaload dX9_split_71) <|
    BS.sq (pc' := 73) (s_iload_n (k := 1) 1 rfl dX9_split_72) <|
    s_icmp_ge rfl rfl (by decide) dX9_split_73) <|
  AllB.c (pb := 76) (
    BS.no) <|
  AllB.c (pb := 95) (
    BS.sq (pc' := 96) (s_iconst 0 (by decide +kernel) dX9_split_95) <|
    BS.sq (pc' := 97) (s_istore_n (k := 2) 2 rfl (by decide) dX9_split_96) <|
    BS.go rfl) <|
  AllB.c (pb := 97) (
    BS.sq (pc' := 98) (s_iload_n (k := 2) 2 rfl dX9_split_97) <|
    BS.sq (pc' := 99) (s_aload_n (k := 0) 0 rfl dX9_split_98) <|
    BS.sq (pc' := 102) (s_get 13 inX9 kc11 (by decide) kw111 rfl dX9_split_99) <|
    s_icmp_ge rfl rfl (by decide) dX9_split_102) <|
  AllB.c (pb := 105) (
    BS.no) <|
  AllB.c (pb := 123) (
    BS.sq (pc' := 124) (s_aload_n (k := 0) 0 rfl dX9_split_123) <|
    BS.sq (pc' := 127) (s_callV 0 11 kc11 (ok_X9_match l) kGood kw617 kw618 kw619 kw170 kw616 (by decide +kernel) (by decide) (by decide) dX9_split_124) <|
    s_ret rfl dX9_split_127) <|
  AllB.n)
-- NativeWorks$Reader.open(I)V
noncomputable def bs_X8_open : List rBl := [sq (h_ld isR 0) (sq (h_get rFo 10 0) (sq (h_ld isI 1) (sq (h_call 2 (rRecv rFo 11) ev_X9_split) (sq (h_ld isR 0) (sq (h_v (.inl 0)) (sq (h_put 10 2 isI) (sq (h_ld isR 0) (sq (h_get rFo 10 3) (sq (h_v (.inl 0)) (sq (h_v (.inl 0)) (sq (h_ast okI) (sq (h_ld isR 0) (sq (h_get rFo 10 5) (sq (h_v (.inl 0)) (sq (h_v (.inl 0)) (sq (h_ast okI) (sq (h_ld isR 0) (sq (h_get rFo 10 4) (sq (h_v (.inl 0)) (sq (h_ld isR 0) (sq (h_get rFo 10 0) (sq (h_get rFo 11 13) (sq (h_ast okI) (sq (h_ld isR 0) (sq (h_get rFo 10 6) (sq (h_v (.inl 0)) (sq (h_v (.inl 1)) (sq (h_ast okI) (sq (h_ld isR 0) (sq (h_get rFo 10 7) (sq (h_v (.inl 0)) (sq (h_v (.inl 0)) (sq (h_ast okI) (sq (h_ld isR 0) (sq (h_get rFo 10 8) (sq (h_v (.inl 0)) (sq (h_v (.inl 0)) (sq (h_ast okI) (sq (h_ld isR 0) (sq (h_v (.inl 0)) (sq (h_put 10 15 isI) (sq (h_ld isR 0) (sq (h_v (.inl 0)) (sq (h_put 10 16 isI) (sq (h_ld isR 0) (sq (h_v (.inl 0)) (sq (h_put 10 17 isI) (sq (h_ld isR 0) (sq (h_v (.inl 0)) (sq (h_put 10 18 isI) (sq (h_ld isR 0) (sq (h_v (.inl 0)) (sq (h_put 10 19 isZ) (t_ret))))))))))))))))))))))))))))))))))))))))))))))))))))))]
noncomputable def ev_X8_open : rEv := fun as w n => rIni 2 as (fun ls => rRun bs_X8_open 100000 0 ls [] w n 0)
set_option maxRecDepth 100000 in
set_option maxHeartbeats 4000000 in
theorem ok_X8_open (l : Launch) : rMet vwCl rFo rZs rRs rNs rTs l yX8_open cX8_open 2 ((Option.none : Option FieldType)) 2 46 ev_X8_open := met_of (pcs := [0]) (by decide +kernel) rfl (fun G n0 =>
  AllB.c (pb := 0) (
    BS.sq (pc' := 1) (s_aload_n (k := 0) 0 rfl dX8_open_0) <|
    BS.sq (pc' := 4) (s_get 0 inX8 kc10 (by decide) kw113 rfl dX8_open_1) <|
    BS.sq (pc' := 5) (s_iload_n (k := 1) 1 rfl dX8_open_4) <|
    BS.sq (pc' := 8) (s_callV 1 11 kc11 (ok_X9_split l) kGood kw621 kw622 kw623 kw170 kw620 (by decide +kernel) (by decide) (by decide) dX8_open_5) <|
    BS.sq (pc' := 9) (s_aload_n (k := 0) 0 rfl dX8_open_8) <|
    BS.sq (pc' := 10) (s_iconst 0 (by decide +kernel) dX8_open_9) <|
    BS.sq (pc' := 13) (s_put tyX8 2 isI inX8 tyX8_ok nmX8 kc10 (by decide) kw624 rfl rfl (okf_I G) dX8_open_10) <|
    BS.sq (pc' := 14) (s_aload_n (k := 0) 0 rfl dX8_open_13) <|
    BS.sq (pc' := 17) (s_get 3 inX8 kc10 (by decide) kw115 rfl dX8_open_14) <|
    BS.sq (pc' := 18) (s_iconst 0 (by decide +kernel) dX8_open_17) <|
    BS.sq (pc' := 19) (s_iconst 0 (by decide +kernel) dX8_open_18) <|
    BS.sq (pc' := 20) (s_iastore dX8_open_19) <|
    BS.sq (pc' := 21) (s_aload_n (k := 0) 0 rfl dX8_open_20) <|
    BS.sq (pc' := 24) (s_get 5 inX8 kc10 (by decide) kw117 rfl dX8_open_21) <|
    BS.sq (pc' := 25) (s_iconst 0 (by decide +kernel) dX8_open_24) <|
    BS.sq (pc' := 26) (s_iconst 0 (by decide +kernel) dX8_open_25) <|
    BS.sq (pc' := 27) (s_iastore dX8_open_26) <|
    BS.sq (pc' := 28) (s_aload_n (k := 0) 0 rfl dX8_open_27) <|
    BS.sq (pc' := 31) (s_get 4 inX8 kc10 (by decide) kw116 rfl dX8_open_28) <|
    BS.sq (pc' := 32) (s_iconst 0 (by decide +kernel) dX8_open_31) <|
    BS.sq (pc' := 33) (s_aload_n (k := 0) 0 rfl dX8_open_32) <|
    BS.sq (pc' := 36) (s_get 0 inX8 kc10 (by decide) kw113 rfl dX8_open_33) <|
    BS.sq (pc' := 39) (s_get 13 inX9 kc11 (by decide) kw625 rfl dX8_open_36) <|
    BS.sq (pc' := 40) (s_iastore dX8_open_39) <|
    BS.sq (pc' := 41) (s_aload_n (k := 0) 0 rfl dX8_open_40) <|
    BS.sq (pc' := 44) (s_get 6 inX8 kc10 (by decide) kw118 rfl dX8_open_41) <|
    BS.sq (pc' := 45) (s_iconst 0 (by decide +kernel) dX8_open_44) <|
    BS.sq (pc' := 46) (s_iconst 1 (by decide +kernel) dX8_open_45) <|
    BS.sq (pc' := 47) (s_iastore dX8_open_46) <|
    BS.sq (pc' := 48) (s_aload_n (k := 0) 0 rfl dX8_open_47) <|
    BS.sq (pc' := 51) (s_get 7 inX8 kc10 (by decide) kw119 rfl dX8_open_48) <|
    BS.sq (pc' := 52) (s_iconst 0 (by decide +kernel) dX8_open_51) <|
    BS.sq (pc' := 53) (s_iconst 0 (by decide +kernel) dX8_open_52) <|
    BS.sq (pc' := 54) (s_iastore dX8_open_53) <|
    BS.sq (pc' := 55) (s_aload_n (k := 0) 0 rfl dX8_open_54) <|
    BS.sq (pc' := 58) (s_get 8 inX8 kc10 (by decide) kw120 rfl dX8_open_55) <|
    BS.sq (pc' := 59) (s_iconst 0 (by decide +kernel) dX8_open_58) <|
    BS.sq (pc' := 60) (s_iconst 0 (by decide +kernel) dX8_open_59) <|
    BS.sq (pc' := 61) (s_iastore dX8_open_60) <|
    BS.sq (pc' := 62) (s_aload_n (k := 0) 0 rfl dX8_open_61) <|
    BS.sq (pc' := 63) (s_iconst 0 (by decide +kernel) dX8_open_62) <|
    BS.sq (pc' := 66) (s_put tyX8 15 isI inX8 tyX8_ok nmX8 kc10 (by decide) kw626 rfl rfl (okf_I G) dX8_open_63) <|
    BS.sq (pc' := 67) (s_aload_n (k := 0) 0 rfl dX8_open_66) <|
    BS.sq (pc' := 68) (s_iconst 0 (by decide +kernel) dX8_open_67) <|
    BS.sq (pc' := 71) (s_put tyX8 16 isI inX8 tyX8_ok nmX8 kc10 (by decide) kw627 rfl rfl (okf_I G) dX8_open_68) <|
    BS.sq (pc' := 72) (s_aload_n (k := 0) 0 rfl dX8_open_71) <|
    BS.sq (pc' := 73) (s_iconst 0 (by decide +kernel) dX8_open_72) <|
    BS.sq (pc' := 76) (s_put tyX8 17 isI inX8 tyX8_ok nmX8 kc10 (by decide) kw628 rfl rfl (okf_I G) dX8_open_73) <|
    BS.sq (pc' := 77) (s_aload_n (k := 0) 0 rfl dX8_open_76) <|
    BS.sq (pc' := 78) (s_iconst 0 (by decide +kernel) dX8_open_77) <|
    BS.sq (pc' := 81) (s_put tyX8 18 isI inX8 tyX8_ok nmX8 kc10 (by decide) kw629 rfl rfl (okf_I G) dX8_open_78) <|
    BS.sq (pc' := 82) (s_aload_n (k := 0) 0 rfl dX8_open_81) <|
    BS.sq (pc' := 83) (s_iconst 0 (by decide +kernel) dX8_open_82) <|
    BS.sq (pc' := 86) (s_put tyX8 19 isZ inX8 tyX8_ok nmX8 kc10 (by decide) kw630 rfl rfl (okf_Z G) dX8_open_83) <|
    s_ret rfl dX8_open_86) <|
  AllB.n)
-- NativeWorks$Reader.advance()Z
noncomputable def bs_X8_advance : List rBl := [sq (h_v (.inl 0)) (sq (h_st isI 1) (t_go 1)),
  sq (h_ld isI 1) (sq (h_v (.inl 1000000)) (t_icmp (fun a b => rNot (rLt a b)) 10 2)),
  sq (h_ld isR 0) (sq (h_get rFo 10 5) (sq (h_ld isR 0) (sq (h_get rFo 10 2) (sq (h_ald rFo okI) (sq (h_ld isR 0) (sq (h_get rFo 10 4) (sq (h_ld isR 0) (sq (h_get rFo 10 2) (sq (h_ald rFo okI) (t_icmp (fun a b => rNot (rLt a b)) 4 3)))))))))),
  t_no,
  sq (h_ld isR 0) (sq (h_get rFo 10 2) (t_if (fun a => rNot (rEq a 0)) 6 5)),
  sq (h_v (.inl 0)) (t_retv isZ),
  t_no,
  t_no,
  t_no,
  t_no,
  t_no]
noncomputable def ev_X8_advance : rEv := fun as w n => rIni 2 as (fun ls => rRun bs_X8_advance 100000 0 ls [] w n 0)
set_option maxRecDepth 100000 in
set_option maxHeartbeats 4000000 in
theorem ok_X8_advance (l : Launch) : rMet vwCl rFo rZs rRs rNs rTs l yX8_advance cX8_advance 2 ((Option.some FieldType.boolean)) 0 0 ev_X8_advance := met_of (pcs := [0, 2, 8, 29, 49, 56, 58, 84, 118, 128, 134]) (by decide +kernel) rfl (fun G n0 =>
  AllB.c (pb := 0) (
    BS.sq (pc' := 1) (s_iconst 0 (by decide +kernel) dX8_advance_0) <|
    BS.sq (pc' := 2) (s_istore_n (k := 1) 1 rfl (by decide) dX8_advance_1) <|
    BS.go rfl) <|
  AllB.c (pb := 2) (
    BS.sq (pc' := 3) (s_iload_n (k := 1) 1 rfl dX8_advance_2) <|
    BS.sq (pc' := 5) (s_ldc 1000000 kw631 dX8_advance_3) <|
    s_icmp_ge rfl rfl (by decide) dX8_advance_5) <|
  AllB.c (pb := 8) (
    BS.sq (pc' := 9) (s_aload_n (k := 0) 0 rfl dX8_advance_8) <|
    BS.sq (pc' := 12) (s_get 5 inX8 kc10 (by decide) kw117 rfl dX8_advance_9) <|
    BS.sq (pc' := 13) (s_aload_n (k := 0) 0 rfl dX8_advance_12) <|
    BS.sq (pc' := 16) (s_get 2 inX8 kc10 (by decide) kw624 rfl dX8_advance_13) <|
    BS.sq (pc' := 17) (s_iaload dX8_advance_16) <|
    BS.sq (pc' := 18) (s_aload_n (k := 0) 0 rfl dX8_advance_17) <|
    BS.sq (pc' := 21) (s_get 4 inX8 kc10 (by decide) kw116 rfl dX8_advance_18) <|
    BS.sq (pc' := 22) (s_aload_n (k := 0) 0 rfl dX8_advance_21) <|
    BS.sq (pc' := 25) (s_get 2 inX8 kc10 (by decide) kw624 rfl dX8_advance_22) <|
    BS.sq (pc' := 26) (s_iaload dX8_advance_25) <|
    s_icmp_ge rfl rfl (by decide) dX8_advance_26) <|
  AllB.c (pb := 29) (
    BS.no) <|
  AllB.c (pb := 49) (
    BS.sq (pc' := 50) (s_aload_n (k := 0) 0 rfl dX8_advance_49) <|
    BS.sq (pc' := 53) (s_get 2 inX8 kc10 (by decide) kw624 rfl dX8_advance_50) <|
    s_if_ne rfl rfl (by decide) dX8_advance_53) <|
  AllB.c (pb := 56) (
    BS.sq (pc' := 57) (s_iconst 0 (by decide +kernel) dX8_advance_56) <|
    s_reti isZ rfl okr_Z dX8_advance_57) <|
  AllB.c (pb := 58) (
    BS.no) <|
  AllB.c (pb := 84) (
    BS.no) <|
  AllB.c (pb := 118) (
    BS.no) <|
  AllB.c (pb := 128) (
    BS.no) <|
  AllB.c (pb := 134) (
    BS.no) <|
  AllB.n)
-- NativeWorks$Units.brokenSpan()I
noncomputable def bs_X10_brokenSpan : List rBl := [sq (h_ld isR 0) (sq (h_get rFo 12 9) (sq (h_ld isR 0) (sq (h_get rFo 12 11) (sq (h_ald rFo okA) (sq (h_v (.inl 2)) (sq (h_ald rFo okI) (sq (h_st isI 1) (t_go 1)))))))),
  sq (h_ld isI 1) (sq (h_ld isR 0) (sq (h_get rFo 12 15) (t_icmp (fun a b => rNot (rLt a b)) 7 2))),
  t_no,
  t_no,
  t_no,
  t_no,
  t_no,
  sq (h_v (.inl 0)) (t_retv isI)]
noncomputable def ev_X10_brokenSpan : rEv := fun as w n => rIni 5 as (fun ls => rRun bs_X10_brokenSpan 100000 0 ls [] w n 0)
set_option maxRecDepth 100000 in
set_option maxHeartbeats 4000000 in
theorem ok_X10_brokenSpan (l : Launch) : rMet vwCl rFo rZs rRs rNs rTs l yX10_brokenSpan cX10_brokenSpan 5 ((Option.some FieldType.int)) 0 0 ev_X10_brokenSpan := met_of (pcs := [0, 12, 20, 43, 59, 72, 76, 82]) (by decide +kernel) rfl (fun G n0 =>
  AllB.c (pb := 0) (
    BS.sq (pc' := 1) (s_aload_n (k := 0) 0 rfl dX10_brokenSpan_0) <|
    BS.sq (pc' := 4) (s_get 9 inX10 kc12 (by decide) kw35 rfl dX10_brokenSpan_1) <|
    BS.sq (pc' := 5) (s_aload_n (k := 0) 0 rfl dX10_brokenSpan_4) <|
    BS.sq (pc' := 8) (s_get 11 inX10 kc12 (by decide) kw604 rfl dX10_brokenSpan_5) <|
    BS.sq (pc' := 9) (s_aaload dX10_brokenSpan_8) <|
    BS.sq (pc' := 10) (s_iconst 2 (by decide +kernel) dX10_brokenSpan_9) <|
    BS.sq (pc' := 11) (s_iaload dX10_brokenSpan_10) <|
    BS.sq (pc' := 12) (s_istore_n (k := 1) 1 rfl (by decide) dX10_brokenSpan_11) <|
    BS.go rfl) <|
  AllB.c (pb := 12) (
    BS.sq (pc' := 13) (s_iload_n (k := 1) 1 rfl dX10_brokenSpan_12) <|
    BS.sq (pc' := 14) (s_aload_n (k := 0) 0 rfl dX10_brokenSpan_13) <|
    BS.sq (pc' := 17) (s_get 15 inX10 kc12 (by decide) kw608 rfl dX10_brokenSpan_14) <|
    s_icmp_ge rfl rfl (by decide) dX10_brokenSpan_17) <|
  AllB.c (pb := 20) (
    BS.no) <|
  AllB.c (pb := 43) (
    BS.no) <|
  AllB.c (pb := 59) (
    BS.no) <|
  AllB.c (pb := 72) (
    BS.no) <|
  AllB.c (pb := 76) (
    BS.no) <|
  AllB.c (pb := 82) (
    BS.sq (pc' := 83) (s_iconst 0 (by decide +kernel) dX10_brokenSpan_82) <|
    s_reti isI rfl okr_I dX10_brokenSpan_83) <|
  AllB.n)
-- NativeWorks$Units.place()V
noncomputable def bs_X10_place : List rBl := [sq (h_ld isR 0) (sq (h_get rFo 12 10) (sq (h_v (.inl 0)) (sq (h_call 2 rAny ev_J7_fill_53178) (sq (h_v (.inl 0)) (sq (h_st isI 1) (sq (h_ld isR 0) (sq (h_get rFo 12 9) (sq (h_ld isR 0) (sq (h_get rFo 12 11) (sq (h_ald rFo okA) (sq (h_v (.inl 1)) (sq (h_ald rFo okI) (sq (h_st isI 2) (t_go 1)))))))))))))),
  sq (h_ld isI 2) (sq (h_ld isR 0) (sq (h_get rFo 12 14) (t_icmp (fun a b => rNot (rLe a b)) 17 2))),
  sq (h_ld isI 1) (sq (h_ld isR 0) (sq (h_get rFo 12 13) (t_icmp (fun a b => rNot (rLt a b)) 5 3))),
  t_no,
  t_no,
  sq (h_ld isI 2) (sq (h_ld isR 0) (sq (h_get rFo 12 14) (t_icmp (fun a b => rNot (rLt a b)) 16 6))),
  t_no,
  t_no,
  t_no,
  t_no,
  t_no,
  t_no,
  t_no,
  t_no,
  t_no,
  t_no,
  sq (h_inc 2 1) (t_go 1),
  t_ret]
noncomputable def ev_X10_place : rEv := fun as w n => rIni 5 as (fun ls => rRun bs_X10_place 100000 0 ls [] w n 0)
set_option maxRecDepth 100000 in
set_option maxHeartbeats 4000000 in
theorem ok_X10_place (l : Launch) : rMet vwCl rFo rZs rRs rNs rTs l yX10_place cX10_place 5 ((Option.none : Option FieldType)) 1 23 ev_X10_place := met_of (pcs := [0, 22, 30, 38, 55, 84, 92, 121, 143, 150, 159, 163, 170, 174, 176, 177, 191, 197]) (by decide +kernel) rfl (fun G n0 =>
  AllB.c (pb := 0) (
    BS.sq (pc' := 1) (s_aload_n (k := 0) 0 rfl dX10_place_0) <|
    BS.sq (pc' := 4) (s_get 10 inX10 kc12 (by decide) kw36 rfl dX10_place_1) <|
    BS.sq (pc' := 5) (s_iconst 0 (by decide +kernel) dX10_place_4) <|
    BS.sq (pc' := 8) (s_callS 2 (ok_J7_fill_53178 l) kGood kw605 kw12 kw13 kw10 (by decide +kernel) (by decide) (by decide) dX10_place_5) <|
    BS.sq (pc' := 9) (s_iconst 0 (by decide +kernel) dX10_place_8) <|
    BS.sq (pc' := 10) (s_istore_n (k := 1) 1 rfl (by decide) dX10_place_9) <|
    BS.sq (pc' := 11) (s_aload_n (k := 0) 0 rfl dX10_place_10) <|
    BS.sq (pc' := 14) (s_get 9 inX10 kc12 (by decide) kw35 rfl dX10_place_11) <|
    BS.sq (pc' := 15) (s_aload_n (k := 0) 0 rfl dX10_place_14) <|
    BS.sq (pc' := 18) (s_get 11 inX10 kc12 (by decide) kw604 rfl dX10_place_15) <|
    BS.sq (pc' := 19) (s_aaload dX10_place_18) <|
    BS.sq (pc' := 20) (s_iconst 1 (by decide +kernel) dX10_place_19) <|
    BS.sq (pc' := 21) (s_iaload dX10_place_20) <|
    BS.sq (pc' := 22) (s_istore_n (k := 2) 2 rfl (by decide) dX10_place_21) <|
    BS.go rfl) <|
  AllB.c (pb := 22) (
    BS.sq (pc' := 23) (s_iload_n (k := 2) 2 rfl dX10_place_22) <|
    BS.sq (pc' := 24) (s_aload_n (k := 0) 0 rfl dX10_place_23) <|
    BS.sq (pc' := 27) (s_get 14 inX10 kc12 (by decide) kw607 rfl dX10_place_24) <|
    s_icmp_gt rfl rfl (by decide) dX10_place_27) <|
  AllB.c (pb := 30) (
    BS.sq (pc' := 31) (s_iload_n (k := 1) 1 rfl dX10_place_30) <|
    BS.sq (pc' := 32) (s_aload_n (k := 0) 0 rfl dX10_place_31) <|
    BS.sq (pc' := 35) (s_get 13 inX10 kc12 (by decide) kw610 rfl dX10_place_32) <|
    s_icmp_ge rfl rfl (by decide) dX10_place_35) <|
  AllB.c (pb := 38) (
    BS.no) <|
  AllB.c (pb := 55) (
    BS.no) <|
  AllB.c (pb := 84) (
    BS.sq (pc' := 85) (s_iload_n (k := 2) 2 rfl dX10_place_84) <|
    BS.sq (pc' := 86) (s_aload_n (k := 0) 0 rfl dX10_place_85) <|
    BS.sq (pc' := 89) (s_get 14 inX10 kc12 (by decide) kw607 rfl dX10_place_86) <|
    s_icmp_ge rfl rfl (by decide) dX10_place_89) <|
  AllB.c (pb := 92) (
    BS.no) <|
  AllB.c (pb := 121) (
    BS.no) <|
  AllB.c (pb := 143) (
    BS.no) <|
  AllB.c (pb := 150) (
    BS.no) <|
  AllB.c (pb := 159) (
    BS.no) <|
  AllB.c (pb := 163) (
    BS.no) <|
  AllB.c (pb := 170) (
    BS.no) <|
  AllB.c (pb := 174) (
    BS.no) <|
  AllB.c (pb := 176) (
    BS.no) <|
  AllB.c (pb := 177) (
    BS.no) <|
  AllB.c (pb := 191) (
    BS.sq (pc' := 194) (s_iinc 2 1 (1) (by decide +kernel) (by decide) dX10_place_191) <|
    s_goto rfl (by decide) dX10_place_194) <|
  AllB.c (pb := 197) (
    s_ret rfl dX10_place_197) <|
  AllB.n)
-- NativeWorks$Units.lengthen()Z
noncomputable def bs_X10_lengthen : List rBl := [sq (h_v (.inl 0)) (sq (h_st isI 1) (sq (h_ld isR 0) (sq (h_get rFo 12 9) (sq (h_ld isR 0) (sq (h_get rFo 12 11) (sq (h_ald rFo okA) (sq (h_v (.inl 1)) (sq (h_ald rFo okI) (sq (h_st isI 2) (t_go 1)))))))))),
  sq (h_ld isI 2) (sq (h_ld isR 0) (sq (h_get rFo 12 14) (t_icmp (fun a b => rNot (rLt a b)) 7 2))),
  t_no,
  t_no,
  t_no,
  t_no,
  t_no,
  sq (h_ld isI 1) (t_retv isZ)]
noncomputable def ev_X10_lengthen : rEv := fun as w n => rIni 6 as (fun ls => rRun bs_X10_lengthen 100000 0 ls [] w n 0)
set_option maxRecDepth 100000 in
set_option maxHeartbeats 4000000 in
theorem ok_X10_lengthen (l : Launch) : rMet vwCl rFo rZs rRs rNs rTs l yX10_lengthen cX10_lengthen 6 ((Option.some FieldType.boolean)) 0 0 ev_X10_lengthen := met_of (pcs := [0, 14, 22, 36, 52, 61, 67, 73]) (by decide +kernel) rfl (fun G n0 =>
  AllB.c (pb := 0) (
    BS.sq (pc' := 1) (s_iconst 0 (by decide +kernel) dX10_lengthen_0) <|
    BS.sq (pc' := 2) (s_istore_n (k := 1) 1 rfl (by decide) dX10_lengthen_1) <|
    BS.sq (pc' := 3) (s_aload_n (k := 0) 0 rfl dX10_lengthen_2) <|
    BS.sq (pc' := 6) (s_get 9 inX10 kc12 (by decide) kw35 rfl dX10_lengthen_3) <|
    BS.sq (pc' := 7) (s_aload_n (k := 0) 0 rfl dX10_lengthen_6) <|
    BS.sq (pc' := 10) (s_get 11 inX10 kc12 (by decide) kw604 rfl dX10_lengthen_7) <|
    BS.sq (pc' := 11) (s_aaload dX10_lengthen_10) <|
    BS.sq (pc' := 12) (s_iconst 1 (by decide +kernel) dX10_lengthen_11) <|
    BS.sq (pc' := 13) (s_iaload dX10_lengthen_12) <|
    BS.sq (pc' := 14) (s_istore_n (k := 2) 2 rfl (by decide) dX10_lengthen_13) <|
    BS.go rfl) <|
  AllB.c (pb := 14) (
    BS.sq (pc' := 15) (s_iload_n (k := 2) 2 rfl dX10_lengthen_14) <|
    BS.sq (pc' := 16) (s_aload_n (k := 0) 0 rfl dX10_lengthen_15) <|
    BS.sq (pc' := 19) (s_get 14 inX10 kc12 (by decide) kw607 rfl dX10_lengthen_16) <|
    s_icmp_ge rfl rfl (by decide) dX10_lengthen_19) <|
  AllB.c (pb := 22) (
    BS.no) <|
  AllB.c (pb := 36) (
    BS.no) <|
  AllB.c (pb := 52) (
    BS.no) <|
  AllB.c (pb := 61) (
    BS.no) <|
  AllB.c (pb := 67) (
    BS.no) <|
  AllB.c (pb := 73) (
    BS.sq (pc' := 74) (s_iload_n (k := 1) 1 rfl dX10_lengthen_73) <|
    s_reti isZ rfl okr_Z dX10_lengthen_74) <|
  AllB.n)
-- NativeWorks$Units.settleWaits()V
noncomputable def bs_X10_settleWaits : List rBl := [sq (h_ld isR 0) (sq (h_get rFo 12 9) (sq (h_ld isR 0) (sq (h_get rFo 12 11) (sq (h_ald rFo okA) (sq (h_v (.inl 2)) (sq (h_ald rFo okI) (sq (h_st isI 1) (t_go 1)))))))),
  sq (h_ld isI 1) (sq (h_ld isR 0) (sq (h_get rFo 12 15) (t_icmp (fun a b => rNot (rLt a b)) 7 2))),
  t_no,
  t_no,
  t_no,
  t_no,
  t_no,
  t_ret]
noncomputable def ev_X10_settleWaits : rEv := fun as w n => rIni 4 as (fun ls => rRun bs_X10_settleWaits 100000 0 ls [] w n 0)
set_option maxRecDepth 100000 in
set_option maxHeartbeats 4000000 in
theorem ok_X10_settleWaits (l : Launch) : rMet vwCl rFo rZs rRs rNs rTs l yX10_settleWaits cX10_settleWaits 4 ((Option.none : Option FieldType)) 0 0 ev_X10_settleWaits := met_of (pcs := [0, 12, 20, 43, 50, 57, 92, 98]) (by decide +kernel) rfl (fun G n0 =>
  AllB.c (pb := 0) (
    BS.sq (pc' := 1) (s_aload_n (k := 0) 0 rfl dX10_settleWaits_0) <|
    BS.sq (pc' := 4) (s_get 9 inX10 kc12 (by decide) kw35 rfl dX10_settleWaits_1) <|
    BS.sq (pc' := 5) (s_aload_n (k := 0) 0 rfl dX10_settleWaits_4) <|
    BS.sq (pc' := 8) (s_get 11 inX10 kc12 (by decide) kw604 rfl dX10_settleWaits_5) <|
    BS.sq (pc' := 9) (s_aaload dX10_settleWaits_8) <|
    BS.sq (pc' := 10) (s_iconst 2 (by decide +kernel) dX10_settleWaits_9) <|
    BS.sq (pc' := 11) (s_iaload dX10_settleWaits_10) <|
    BS.sq (pc' := 12) (s_istore_n (k := 1) 1 rfl (by decide) dX10_settleWaits_11) <|
    BS.go rfl) <|
  AllB.c (pb := 12) (
    BS.sq (pc' := 13) (s_iload_n (k := 1) 1 rfl dX10_settleWaits_12) <|
    BS.sq (pc' := 14) (s_aload_n (k := 0) 0 rfl dX10_settleWaits_13) <|
    BS.sq (pc' := 17) (s_get 15 inX10 kc12 (by decide) kw608 rfl dX10_settleWaits_14) <|
    s_icmp_ge rfl rfl (by decide) dX10_settleWaits_17) <|
  AllB.c (pb := 20) (
    BS.no) <|
  AllB.c (pb := 43) (
    BS.no) <|
  AllB.c (pb := 50) (
    BS.no) <|
  AllB.c (pb := 57) (
    BS.no) <|
  AllB.c (pb := 92) (
    BS.no) <|
  AllB.c (pb := 98) (
    s_ret rfl dX10_settleWaits_98) <|
  AllB.n)
-- NativeWorks$Units.layOut()V
noncomputable def bs_X10_layOut : List rBl := [sq (h_ld isR 0) (sq (h_get rFo 12 9) (sq (h_ld isR 0) (sq (h_get rFo 12 11) (sq (h_ald rFo okA) (sq (h_v (.inl 1)) (sq (h_ald rFo okI) (sq (h_st isI 1) (t_go 1)))))))),
  sq (h_ld isI 1) (sq (h_ld isR 0) (sq (h_get rFo 12 14) (t_icmp (fun a b => rNot (rLt a b)) 6 2))),
  t_no,
  t_no,
  t_no,
  t_no,
  sq (h_v (.inl 1)) (sq (h_st isI 1) (sq (h_v (.inl 0)) (sq (h_st isI 2) (t_go 7)))),
  sq (h_ld isI 1) (t_if (fun a => rEq a 0) 10 8),
  sq (h_ld isI 2) (sq (h_v (.inl 4096)) (t_icmp (fun a b => rNot (rLe a b)) 10 9)),
  sq (h_ld isR 0) (sq (h_call 1 (rRecv rFo 12) ev_X10_place) (sq (h_ld isR 0) (sq (h_call 1 (rRecv rFo 12) ev_X10_lengthen) (sq (h_st isI 1) (sq (h_inc 2 1) (t_go 7)))))),
  sq (h_ld isR 0) (sq (h_call 1 (rRecv rFo 12) ev_X10_settleWaits) (t_ret))]
noncomputable def ev_X10_layOut : rEv := fun as w n => rIni 3 as (fun ls => rRun bs_X10_layOut 100000 0 ls [] w n 0)
set_option maxRecDepth 100000 in
set_option maxHeartbeats 4000000 in
theorem ok_X10_layOut (l : Launch) : rMet vwCl rFo rZs rRs rNs rTs l yX10_layOut cX10_layOut 3 ((Option.none : Option FieldType)) 2 47 ev_X10_layOut := met_of (pcs := [0, 12, 20, 34, 51, 55, 61, 65, 69, 76, 91]) (by decide +kernel) rfl (fun G n0 =>
  AllB.c (pb := 0) (
    BS.sq (pc' := 1) (s_aload_n (k := 0) 0 rfl dX10_layOut_0) <|
    BS.sq (pc' := 4) (s_get 9 inX10 kc12 (by decide) kw35 rfl dX10_layOut_1) <|
    BS.sq (pc' := 5) (s_aload_n (k := 0) 0 rfl dX10_layOut_4) <|
    BS.sq (pc' := 8) (s_get 11 inX10 kc12 (by decide) kw604 rfl dX10_layOut_5) <|
    BS.sq (pc' := 9) (s_aaload dX10_layOut_8) <|
    BS.sq (pc' := 10) (s_iconst 1 (by decide +kernel) dX10_layOut_9) <|
    BS.sq (pc' := 11) (s_iaload dX10_layOut_10) <|
    BS.sq (pc' := 12) (s_istore_n (k := 1) 1 rfl (by decide) dX10_layOut_11) <|
    BS.go rfl) <|
  AllB.c (pb := 12) (
    BS.sq (pc' := 13) (s_iload_n (k := 1) 1 rfl dX10_layOut_12) <|
    BS.sq (pc' := 14) (s_aload_n (k := 0) 0 rfl dX10_layOut_13) <|
    BS.sq (pc' := 17) (s_get 14 inX10 kc12 (by decide) kw607 rfl dX10_layOut_14) <|
    s_icmp_ge rfl rfl (by decide) dX10_layOut_17) <|
  AllB.c (pb := 20) (
    BS.no) <|
  AllB.c (pb := 34) (
    BS.no) <|
  AllB.c (pb := 51) (
    BS.no) <|
  AllB.c (pb := 55) (
    BS.no) <|
  AllB.c (pb := 61) (
    BS.sq (pc' := 62) (s_iconst 1 (by decide +kernel) dX10_layOut_61) <|
    BS.sq (pc' := 63) (s_istore_n (k := 1) 1 rfl (by decide) dX10_layOut_62) <|
    BS.sq (pc' := 64) (s_iconst 0 (by decide +kernel) dX10_layOut_63) <|
    BS.sq (pc' := 65) (s_istore_n (k := 2) 2 rfl (by decide) dX10_layOut_64) <|
    BS.go rfl) <|
  AllB.c (pb := 65) (
    BS.sq (pc' := 66) (s_iload_n (k := 1) 1 rfl dX10_layOut_65) <|
    s_if_eq rfl rfl (by decide) dX10_layOut_66) <|
  AllB.c (pb := 69) (
    BS.sq (pc' := 70) (s_iload_n (k := 2) 2 rfl dX10_layOut_69) <|
    BS.sq (pc' := 73) (s_sipush 4096 (by decide +kernel) dX10_layOut_70) <|
    s_icmp_gt rfl rfl (by decide) dX10_layOut_73) <|
  AllB.c (pb := 76) (
    BS.sq (pc' := 77) (s_aload_n (k := 0) 0 rfl dX10_layOut_76) <|
    BS.sq (pc' := 80) (s_callV 0 12 kc12 (ok_X10_place l) kGood kw633 kw634 kw635 kw241 kw632 (by decide +kernel) (by decide) (by decide) dX10_layOut_77) <|
    BS.sq (pc' := 81) (s_aload_n (k := 0) 0 rfl dX10_layOut_80) <|
    BS.sq (pc' := 84) (s_callV 0 12 kc12 (ok_X10_lengthen l) kGood kw637 kw638 kw639 kw241 kw636 (by decide +kernel) (by decide) (by decide) dX10_layOut_81) <|
    BS.sq (pc' := 85) (s_istore_n (k := 1) 1 rfl (by decide) dX10_layOut_84) <|
    BS.sq (pc' := 88) (s_iinc 2 1 (1) (by decide +kernel) (by decide) dX10_layOut_85) <|
    s_goto rfl (by decide) dX10_layOut_88) <|
  AllB.c (pb := 91) (
    BS.sq (pc' := 92) (s_aload_n (k := 0) 0 rfl dX10_layOut_91) <|
    BS.sq (pc' := 95) (s_callV 0 12 kc12 (ok_X10_settleWaits l) kGood kw641 kw642 kw643 kw241 kw640 (by decide +kernel) (by decide) (by decide) dX10_layOut_92) <|
    s_ret rfl dX10_layOut_95) <|
  AllB.n)
