/-! METHODS OF THE CALLS -/
-- NativeWorksModel.symbol(I)J
noncomputable def bs_X13_symbol : List rBl := [sq (h_ld isR 0) (sq (h_ld isI 1) (sq (h_call 2 (rRecv rFo 15) sev_X13_used) (sq (h_st isI 2) (sq (h_ld isR 0) (sq (h_v (.inl 0)) (sq (h_put 15 2 isI) (sq (h_v (.inl 0)) (sq (h_st isI 3) (t_go 1))))))))),
  sq (h_ld isI 3) (sq (h_ld isR 0) (sq (h_get rFo 15 173) (t_icmp (fun a b => rNot (rLt a b)) 17 2))),
  t_no,
  t_no,
  t_no,
  t_no,
  t_no,
  t_no,
  t_no,
  t_no,
  t_no,
  t_no,
  t_no,
  t_no,
  t_no,
  t_no,
  t_no,
  sq (h_ld isR 0) (sq (h_v (.inl 1)) (sq (h_put 15 0 isI) (sq (h_v (.inr (.inl 0))) (t_retv isJ))))]
noncomputable def ev_X13_symbol : rEv := fun as w n => rIni 6 as (fun ls => rRun bs_X13_symbol 100000 0 ls [] w n 0)
set_option maxRecDepth 100000 in
set_option maxHeartbeats 4000000 in
theorem ok_X13_symbol (l : Launch) : rMet vwCl rFo rZs rRs rNs rTs l yX13_symbol cX13_symbol 6 ((Option.some FieldType.long)) 1 21 ev_X13_symbol := met_of (pcs := [0, 13, 21, 28, 38, 42, 43, 48, 54, 59, 83, 87, 88, 96, 101, 104, 121, 127]) (by decide +kernel) rfl (fun G n0 =>
  AllB.c (pb := 0) (
    BS.sq (pc' := 1) (s_aload_n (k := 0) 0 rfl dX13_symbol_0) <|
    BS.sq (pc' := 2) (s_iload_n (k := 1) 1 rfl dX13_symbol_1) <|
    BS.sq (pc' := 5) (s_callV 1 15 kc15 (sok_X13_used l) kGood kw817 kw818 kw819 kw315 kw816 (by decide +kernel) (by decide) (by decide) dX13_symbol_2) <|
    BS.sq (pc' := 6) (s_istore_n (k := 2) 2 rfl (by decide) dX13_symbol_5) <|
    BS.sq (pc' := 7) (s_aload_n (k := 0) 0 rfl dX13_symbol_6) <|
    BS.sq (pc' := 8) (s_iconst 0 (by decide +kernel) dX13_symbol_7) <|
    BS.sq (pc' := 11) (s_put tyX13 2 isI inX13 tyX13_ok nmX13 kc15 (by decide) kw794 rfl rfl (okf_I G) dX13_symbol_8) <|
    BS.sq (pc' := 12) (s_iconst 0 (by decide +kernel) dX13_symbol_11) <|
    BS.sq (pc' := 13) (s_istore_n (k := 3) 3 rfl (by decide) dX13_symbol_12) <|
    BS.go rfl) <|
  AllB.c (pb := 13) (
    BS.sq (pc' := 14) (s_iload_n (k := 3) 3 rfl dX13_symbol_13) <|
    BS.sq (pc' := 15) (s_aload_n (k := 0) 0 rfl dX13_symbol_14) <|
    BS.sq (pc' := 18) (s_get 173 inX13 kc15 (by decide) kw860 rfl dX13_symbol_15) <|
    s_icmp_ge rfl rfl (by decide) dX13_symbol_18) <|
  AllB.c (pb := 21) (
    BS.no) <|
  AllB.c (pb := 28) (
    BS.no) <|
  AllB.c (pb := 38) (
    BS.no) <|
  AllB.c (pb := 42) (
    BS.no) <|
  AllB.c (pb := 43) (
    BS.no) <|
  AllB.c (pb := 48) (
    BS.no) <|
  AllB.c (pb := 54) (
    BS.no) <|
  AllB.c (pb := 59) (
    BS.no) <|
  AllB.c (pb := 83) (
    BS.no) <|
  AllB.c (pb := 87) (
    BS.no) <|
  AllB.c (pb := 88) (
    BS.no) <|
  AllB.c (pb := 96) (
    BS.no) <|
  AllB.c (pb := 101) (
    BS.no) <|
  AllB.c (pb := 104) (
    BS.no) <|
  AllB.c (pb := 121) (
    BS.no) <|
  AllB.c (pb := 127) (
    BS.sq (pc' := 128) (s_aload_n (k := 0) 0 rfl dX13_symbol_127) <|
    BS.sq (pc' := 129) (s_iconst 1 (by decide +kernel) dX13_symbol_128) <|
    BS.sq (pc' := 132) (s_put tyX13 0 isI inX13 tyX13_ok nmX13 kc15 (by decide) kw793 rfl rfl (okf_I G) dX13_symbol_129) <|
    BS.sq (pc' := 133) (s_lconst 0 (by decide +kernel) dX13_symbol_132) <|
    s_retl rfl dX13_symbol_133) <|
  AllB.n)
-- NativeWorksModel.where(J)I
noncomputable def bs_X13_where : List rBl := [sq (h_ld isR 0) (sq (h_v (.inl 0)) (sq (h_put 15 0 isI) (sq (h_ld isR 0) (sq (h_get rFo 15 168) (t_if (fun a => rEq a 0) 2 1))))),
  t_no,
  sq (h_v (.inl 4294967295)) (t_go 3),
  sq (h_st isI 3) (sq (h_ld isI 3) (t_if (fun a => rNot (rLt a 0)) 5 4)),
  sq (h_v (.inl 4294967295)) (t_go 6),
  t_no,
  t_retv isI]
noncomputable def ev_X13_where : rEv := fun as w n => rIni 4 as (fun ls => rRun bs_X13_where 100000 0 ls [] w n 0)
set_option maxRecDepth 100000 in
set_option maxHeartbeats 4000000 in
theorem ok_X13_where (l : Launch) : rMet vwCl rFo rZs rRs rNs rTs l yX13_where cX13_where 4 ((Option.some FieldType.int)) 0 0 ev_X13_where := met_of (pcs := [0, 12, 27, 28, 33, 37, 46]) (by decide +kernel) rfl (fun G n0 =>
  AllB.c (pb := 0) (
    BS.sq (pc' := 1) (s_aload_n (k := 0) 0 rfl dX13_where_0) <|
    BS.sq (pc' := 2) (s_iconst 0 (by decide +kernel) dX13_where_1) <|
    BS.sq (pc' := 5) (s_put tyX13 0 isI inX13 tyX13_ok nmX13 kc15 (by decide) kw793 rfl rfl (okf_I G) dX13_where_2) <|
    BS.sq (pc' := 6) (s_aload_n (k := 0) 0 rfl dX13_where_5) <|
    BS.sq (pc' := 9) (s_get 168 inX13 kc15 (by decide) kw861 rfl dX13_where_6) <|
    s_if_eq rfl rfl (by decide) dX13_where_9) <|
  AllB.c (pb := 12) (
    BS.no) <|
  AllB.c (pb := 27) (
    BS.sq (pc' := 28) (s_iconst 4294967295 (by decide +kernel) dX13_where_27) <|
    BS.go rfl) <|
  AllB.c (pb := 28) (
    BS.sq (pc' := 29) (s_istore_n (k := 3) 3 rfl (by decide) dX13_where_28) <|
    BS.sq (pc' := 30) (s_iload_n (k := 3) 3 rfl dX13_where_29) <|
    s_if_ge rfl rfl (by decide) dX13_where_30) <|
  AllB.c (pb := 33) (
    BS.sq (pc' := 34) (s_iconst 4294967295 (by decide +kernel) dX13_where_33) <|
    s_goto rfl (by decide) dX13_where_34) <|
  AllB.c (pb := 37) (
    BS.no) <|
  AllB.c (pb := 46) (
    s_reti isI rfl okr_I dX13_where_46) <|
  AllB.n)
-- NativeWorksModel.load()J
noncomputable def bs_X13_load : List rBl := [sq (h_ld isR 0) (sq (h_get rFo 15 168) (t_if (fun a => rNot (rEq a 0)) 2 1)),
  sq (h_ld isR 0) (sq (h_v (.inl 1)) (sq (h_put 15 0 isI) (sq (h_v (.inr (.inl 0))) (t_retv isJ)))),
  t_no,
  t_no,
  t_no,
  t_no,
  t_no,
  t_no,
  t_no,
  t_no,
  t_no,
  t_no,
  t_no,
  t_no,
  t_no]
noncomputable def ev_X13_load : rEv := fun as w n => rIni 2 as (fun ls => rRun bs_X13_load 100000 0 ls [] w n 0)
set_option maxRecDepth 100000 in
set_option maxHeartbeats 4000000 in
theorem ok_X13_load (l : Launch) : rMet vwCl rFo rZs rRs rNs rTs l yX13_load cX13_load 2 ((Option.some FieldType.long)) 0 0 ev_X13_load := met_of (pcs := [0, 7, 14, 37, 44, 60, 69, 70, 77, 79, 85, 105, 122, 128, 141]) (by decide +kernel) rfl (fun G n0 =>
  AllB.c (pb := 0) (
    BS.sq (pc' := 1) (s_aload_n (k := 0) 0 rfl dX13_load_0) <|
    BS.sq (pc' := 4) (s_get 168 inX13 kc15 (by decide) kw861 rfl dX13_load_1) <|
    s_if_ne rfl rfl (by decide) dX13_load_4) <|
  AllB.c (pb := 7) (
    BS.sq (pc' := 8) (s_aload_n (k := 0) 0 rfl dX13_load_7) <|
    BS.sq (pc' := 9) (s_iconst 1 (by decide +kernel) dX13_load_8) <|
    BS.sq (pc' := 12) (s_put tyX13 0 isI inX13 tyX13_ok nmX13 kc15 (by decide) kw793 rfl rfl (okf_I G) dX13_load_9) <|
    BS.sq (pc' := 13) (s_lconst 0 (by decide +kernel) dX13_load_12) <|
    s_retl rfl dX13_load_13) <|
  AllB.c (pb := 14) (
    BS.no) <|
  AllB.c (pb := 37) (
    BS.no) <|
  AllB.c (pb := 44) (
    BS.no) <|
  AllB.c (pb := 60) (
    BS.no) <|
  AllB.c (pb := 69) (
    BS.no) <|
  AllB.c (pb := 70) (
    BS.no) <|
  AllB.c (pb := 77) (
    BS.no) <|
  AllB.c (pb := 79) (
    BS.no) <|
  AllB.c (pb := 85) (
    BS.no) <|
  AllB.c (pb := 105) (
    BS.no) <|
  AllB.c (pb := 122) (
    BS.no) <|
  AllB.c (pb := 128) (
    BS.no) <|
  AllB.c (pb := 141) (
    BS.no) <|
  AllB.n)
-- NativeWorksModel.input(I)I
noncomputable def bs_X13_input : List rBl := [sq (h_ld isR 0) (sq (h_v (.inl 0)) (sq (h_put 15 0 isI) (sq (h_ld isR 0) (sq (h_ld isI 1) (sq (h_call 2 (rRecv rFo 15) sev_X13_used) (sq (h_st isI 2) (sq (h_v (.inl 0)) (sq (h_st isI 3) (t_go 1))))))))),
  sq (h_ld isI 3) (sq (h_ld isI 2) (t_icmp (fun a b => rNot (rLt a b)) 4 2)),
  t_no,
  t_no,
  sq (h_ld isR 0) (sq (h_v (.inl 0)) (sq (h_put 15 2 isI) (sq (h_ld isR 0) (sq (h_get rFo 15 186) (t_retv isI)))))]
noncomputable def ev_X13_input : rEv := fun as w n => rIni 4 as (fun ls => rRun bs_X13_input 100000 0 ls [] w n 0)
set_option maxRecDepth 100000 in
set_option maxHeartbeats 4000000 in
theorem ok_X13_input (l : Launch) : rMet vwCl rFo rZs rRs rNs rTs l yX13_input cX13_input 4 ((Option.some FieldType.int)) 1 21 ev_X13_input := met_of (pcs := [0, 13, 18, 27, 58]) (by decide +kernel) rfl (fun G n0 =>
  AllB.c (pb := 0) (
    BS.sq (pc' := 1) (s_aload_n (k := 0) 0 rfl dX13_input_0) <|
    BS.sq (pc' := 2) (s_iconst 0 (by decide +kernel) dX13_input_1) <|
    BS.sq (pc' := 5) (s_put tyX13 0 isI inX13 tyX13_ok nmX13 kc15 (by decide) kw793 rfl rfl (okf_I G) dX13_input_2) <|
    BS.sq (pc' := 6) (s_aload_n (k := 0) 0 rfl dX13_input_5) <|
    BS.sq (pc' := 7) (s_iload_n (k := 1) 1 rfl dX13_input_6) <|
    BS.sq (pc' := 10) (s_callV 1 15 kc15 (sok_X13_used l) kGood kw817 kw818 kw819 kw315 kw816 (by decide +kernel) (by decide) (by decide) dX13_input_7) <|
    BS.sq (pc' := 11) (s_istore_n (k := 2) 2 rfl (by decide) dX13_input_10) <|
    BS.sq (pc' := 12) (s_iconst 0 (by decide +kernel) dX13_input_11) <|
    BS.sq (pc' := 13) (s_istore_n (k := 3) 3 rfl (by decide) dX13_input_12) <|
    BS.go rfl) <|
  AllB.c (pb := 13) (
    BS.sq (pc' := 14) (s_iload_n (k := 3) 3 rfl dX13_input_13) <|
    BS.sq (pc' := 15) (s_iload_n (k := 2) 2 rfl dX13_input_14) <|
    s_icmp_ge rfl rfl (by decide) dX13_input_15) <|
  AllB.c (pb := 18) (
    BS.no) <|
  AllB.c (pb := 27) (
    BS.no) <|
  AllB.c (pb := 58) (
    BS.sq (pc' := 59) (s_aload_n (k := 0) 0 rfl dX13_input_58) <|
    BS.sq (pc' := 60) (s_iconst 0 (by decide +kernel) dX13_input_59) <|
    BS.sq (pc' := 63) (s_put tyX13 2 isI inX13 tyX13_ok nmX13 kc15 (by decide) kw794 rfl rfl (okf_I G) dX13_input_60) <|
    BS.sq (pc' := 64) (s_aload_n (k := 0) 0 rfl dX13_input_63) <|
    BS.sq (pc' := 67) (s_get 186 inX13 kc15 (by decide) kw862 rfl dX13_input_64) <|
    s_reti isI rfl okr_I dX13_input_67) <|
  AllB.n)
-- NativeWorksModel.run(I)I
noncomputable def bs_X13_run : List rBl := [sq (h_ld isI 1) (sq (h_v (.inl 1)) (t_icmp rLt 2 1)),
  sq (h_ld isI 1) (sq (h_v (.inl 4000)) (t_icmp rLe 3 2)),
  sq (h_ld isR 0) (sq (h_v (.inl 1)) (sq (h_v (.inl 0)) (sq (h_call 3 (rRecv rFo 15) ev_X13_give) (t_retv isI)))),
  sq (h_ld isR 0) (sq (h_get rFo 15 179) (t_if (fun a => rEq a 0) 5 4)),
  t_no,
  sq (h_ld isR 0) (sq (h_v (.inl 2)) (sq (h_v (.inl 0)) (sq (h_call 3 (rRecv rFo 15) ev_X13_give) (t_retv isI)))),
  t_no,
  t_no,
  t_no,
  t_no,
  t_no,
  t_no,
  t_no,
  t_no,
  t_no]
noncomputable def ev_X13_run : rEv := fun as w n => rIni 3 as (fun ls => rRun bs_X13_run 100000 0 ls [] w n 0)
set_option maxRecDepth 100000 in
set_option maxHeartbeats 4000000 in
theorem ok_X13_run (l : Launch) : rMet vwCl rFo rZs rRs rNs rTs l yX13_run cX13_run 3 ((Option.some FieldType.int)) 1 22 ev_X13_run := met_of (pcs := [0, 5, 12, 19, 26, 34, 41, 58, 63, 70, 74, 85, 102, 109, 115]) (by decide +kernel) rfl (fun G n0 =>
  AllB.c (pb := 0) (
    BS.sq (pc' := 1) (s_iload_n (k := 1) 1 rfl dX13_run_0) <|
    BS.sq (pc' := 2) (s_iconst 1 (by decide +kernel) dX13_run_1) <|
    s_icmp_lt rfl rfl (by decide) dX13_run_2) <|
  AllB.c (pb := 5) (
    BS.sq (pc' := 6) (s_iload_n (k := 1) 1 rfl dX13_run_5) <|
    BS.sq (pc' := 9) (s_sipush 4000 (by decide +kernel) dX13_run_6) <|
    s_icmp_le rfl rfl (by decide) dX13_run_9) <|
  AllB.c (pb := 12) (
    BS.sq (pc' := 13) (s_aload_n (k := 0) 0 rfl dX13_run_12) <|
    BS.sq (pc' := 14) (s_iconst 1 (by decide +kernel) dX13_run_13) <|
    BS.sq (pc' := 15) (s_iconst 0 (by decide +kernel) dX13_run_14) <|
    BS.sq (pc' := 18) (s_callV 2 15 kc15 (ok_X13_give l) kGood kw844 kw845 kw846 kw315 kw843 (by decide +kernel) (by decide) (by decide) dX13_run_15) <|
    s_reti isI rfl okr_I dX13_run_18) <|
  AllB.c (pb := 19) (
    BS.sq (pc' := 20) (s_aload_n (k := 0) 0 rfl dX13_run_19) <|
    BS.sq (pc' := 23) (s_get 179 inX13 kc15 (by decide) kw863 rfl dX13_run_20) <|
    s_if_eq rfl rfl (by decide) dX13_run_23) <|
  AllB.c (pb := 26) (
    BS.no) <|
  AllB.c (pb := 34) (
    BS.sq (pc' := 35) (s_aload_n (k := 0) 0 rfl dX13_run_34) <|
    BS.sq (pc' := 36) (s_iconst 2 (by decide +kernel) dX13_run_35) <|
    BS.sq (pc' := 37) (s_iconst 0 (by decide +kernel) dX13_run_36) <|
    BS.sq (pc' := 40) (s_callV 2 15 kc15 (ok_X13_give l) kGood kw844 kw845 kw846 kw315 kw843 (by decide +kernel) (by decide) (by decide) dX13_run_37) <|
    s_reti isI rfl okr_I dX13_run_40) <|
  AllB.c (pb := 41) (
    BS.no) <|
  AllB.c (pb := 58) (
    BS.no) <|
  AllB.c (pb := 63) (
    BS.no) <|
  AllB.c (pb := 70) (
    BS.no) <|
  AllB.c (pb := 74) (
    BS.no) <|
  AllB.c (pb := 85) (
    BS.no) <|
  AllB.c (pb := 102) (
    BS.no) <|
  AllB.c (pb := 109) (
    BS.no) <|
  AllB.c (pb := 115) (
    BS.no) <|
  AllB.n)
-- NativeWorksModel.stop(I)J
noncomputable def bs_X13_stop : List rBl := [sq (h_ld isR 0) (sq (h_v (.inl 0)) (sq (h_put 15 0 isI) (sq (h_ld isI 1) (t_if (fun a => rNot (rEq a 0)) 2 1)))),
  sq (h_ld isR 0) (sq (h_get rFo 15 198) (sq (h_i2l) (t_go 5))),
  sq (h_ld isI 1) (sq (h_v (.inl 1)) (t_icmp (fun a b => rNot (rEq a b)) 4 3)),
  sq (h_ld isR 0) (sq (h_get rFo 15 191) (t_go 5)),
  sq (h_v (.inr (.inl 0))) (t_go 5),
  t_retv isJ]
noncomputable def ev_X13_stop : rEv := fun as w n => rIni 2 as (fun ls => rRun bs_X13_stop 100000 0 ls [] w n 0)
set_option maxRecDepth 100000 in
set_option maxHeartbeats 4000000 in
theorem ok_X13_stop (l : Launch) : rMet vwCl rFo rZs rRs rNs rTs l yX13_stop cX13_stop 2 ((Option.some FieldType.long)) 0 0 ev_X13_stop := met_of (pcs := [0, 9, 17, 22, 29, 30]) (by decide +kernel) rfl (fun G n0 =>
  AllB.c (pb := 0) (
    BS.sq (pc' := 1) (s_aload_n (k := 0) 0 rfl dX13_stop_0) <|
    BS.sq (pc' := 2) (s_iconst 0 (by decide +kernel) dX13_stop_1) <|
    BS.sq (pc' := 5) (s_put tyX13 0 isI inX13 tyX13_ok nmX13 kc15 (by decide) kw793 rfl rfl (okf_I G) dX13_stop_2) <|
    BS.sq (pc' := 6) (s_iload_n (k := 1) 1 rfl dX13_stop_5) <|
    s_if_ne rfl rfl (by decide) dX13_stop_6) <|
  AllB.c (pb := 9) (
    BS.sq (pc' := 10) (s_aload_n (k := 0) 0 rfl dX13_stop_9) <|
    BS.sq (pc' := 13) (s_get 198 inX13 kc15 (by decide) kw864 rfl dX13_stop_10) <|
    BS.sq (pc' := 14) (s_i2l dX13_stop_13) <|
    s_goto rfl (by decide) dX13_stop_14) <|
  AllB.c (pb := 17) (
    BS.sq (pc' := 18) (s_iload_n (k := 1) 1 rfl dX13_stop_17) <|
    BS.sq (pc' := 19) (s_iconst 1 (by decide +kernel) dX13_stop_18) <|
    s_icmp_ne rfl rfl (by decide) dX13_stop_19) <|
  AllB.c (pb := 22) (
    BS.sq (pc' := 23) (s_aload_n (k := 0) 0 rfl dX13_stop_22) <|
    BS.sq (pc' := 26) (s_get 191 inX13 kc15 (by decide) kw865 rfl dX13_stop_23) <|
    s_goto rfl (by decide) dX13_stop_26) <|
  AllB.c (pb := 29) (
    BS.sq (pc' := 30) (s_lconst 0 (by decide +kernel) dX13_stop_29) <|
    BS.go rfl) <|
  AllB.c (pb := 30) (
    s_retl rfl dX13_stop_30) <|
  AllB.n)
-- NativeWorksModel.flags()J
noncomputable def bs_X13_flags : List rBl := [sq (h_v (.inr (.inl 2))) (sq (h_ld isR 0) (sq (h_get rFo 15 193) (t_if (fun a => rEq a 0) 2 1))),
  t_no,
  sq (h_v (.inr (.inl 0))) (t_go 3),
  sq (h_lbinZ (fun x y => x + y)) (sq (h_ld isR 0) (sq (h_get rFo 15 194) (t_if (fun a => rEq a 0) 5 4))),
  t_no,
  sq (h_v (.inr (.inl 0))) (t_go 6),
  sq (h_lbinZ (fun x y => x + y)) (sq (h_ld isR 0) (sq (h_get rFo 15 195) (t_if (fun a => rEq a 0) 8 7))),
  t_no,
  sq (h_v (.inr (.inl 0))) (t_go 9),
  sq (h_lbinZ (fun x y => x + y)) (sq (h_ld isR 0) (sq (h_get rFo 15 196) (t_if (fun a => rEq a 0) 11 10))),
  t_no,
  sq (h_v (.inr (.inl 0))) (t_go 12),
  sq (h_lbinZ (fun x y => x + y)) (sq (h_ld isR 0) (sq (h_get rFo 15 197) (t_if (fun a => rEq a 0) 14 13))),
  t_no,
  sq (h_v (.inr (.inl 0))) (t_go 15),
  sq (h_lbinZ (fun x y => x + y)) (t_retv isJ)]
noncomputable def ev_X13_flags : rEv := fun as w n => rIni 1 as (fun ls => rRun bs_X13_flags 100000 0 ls [] w n 0)
set_option maxRecDepth 100000 in
set_option maxHeartbeats 4000000 in
theorem ok_X13_flags (l : Launch) : rMet vwCl rFo rZs rRs rNs rTs l yX13_flags cX13_flags 1 ((Option.some FieldType.long)) 0 0 ev_X13_flags := met_of (pcs := [0, 10, 14, 15, 23, 29, 30, 38, 44, 45, 53, 59, 60, 68, 74, 75]) (by decide +kernel) rfl (fun G n0 =>
  AllB.c (pb := 0) (
    BS.sq (pc' := 3) (s_ldc2 2 kw866 dX13_flags_0) <|
    BS.sq (pc' := 4) (s_aload_n (k := 0) 0 rfl dX13_flags_3) <|
    BS.sq (pc' := 7) (s_get 193 inX13 kc15 (by decide) kw867 rfl dX13_flags_4) <|
    s_if_eq rfl rfl (by decide) dX13_flags_7) <|
  AllB.c (pb := 10) (
    BS.no) <|
  AllB.c (pb := 14) (
    BS.sq (pc' := 15) (s_lconst 0 (by decide +kernel) dX13_flags_14) <|
    BS.go rfl) <|
  AllB.c (pb := 15) (
    BS.sq (pc' := 16) (s_laddZ dX13_flags_15) <|
    BS.sq (pc' := 17) (s_aload_n (k := 0) 0 rfl dX13_flags_16) <|
    BS.sq (pc' := 20) (s_get 194 inX13 kc15 (by decide) kw868 rfl dX13_flags_17) <|
    s_if_eq rfl rfl (by decide) dX13_flags_20) <|
  AllB.c (pb := 23) (
    BS.no) <|
  AllB.c (pb := 29) (
    BS.sq (pc' := 30) (s_lconst 0 (by decide +kernel) dX13_flags_29) <|
    BS.go rfl) <|
  AllB.c (pb := 30) (
    BS.sq (pc' := 31) (s_laddZ dX13_flags_30) <|
    BS.sq (pc' := 32) (s_aload_n (k := 0) 0 rfl dX13_flags_31) <|
    BS.sq (pc' := 35) (s_get 195 inX13 kc15 (by decide) kw869 rfl dX13_flags_32) <|
    s_if_eq rfl rfl (by decide) dX13_flags_35) <|
  AllB.c (pb := 38) (
    BS.no) <|
  AllB.c (pb := 44) (
    BS.sq (pc' := 45) (s_lconst 0 (by decide +kernel) dX13_flags_44) <|
    BS.go rfl) <|
  AllB.c (pb := 45) (
    BS.sq (pc' := 46) (s_laddZ dX13_flags_45) <|
    BS.sq (pc' := 47) (s_aload_n (k := 0) 0 rfl dX13_flags_46) <|
    BS.sq (pc' := 50) (s_get 196 inX13 kc15 (by decide) kw870 rfl dX13_flags_47) <|
    s_if_eq rfl rfl (by decide) dX13_flags_50) <|
  AllB.c (pb := 53) (
    BS.no) <|
  AllB.c (pb := 59) (
    BS.sq (pc' := 60) (s_lconst 0 (by decide +kernel) dX13_flags_59) <|
    BS.go rfl) <|
  AllB.c (pb := 60) (
    BS.sq (pc' := 61) (s_laddZ dX13_flags_60) <|
    BS.sq (pc' := 62) (s_aload_n (k := 0) 0 rfl dX13_flags_61) <|
    BS.sq (pc' := 65) (s_get 197 inX13 kc15 (by decide) kw871 rfl dX13_flags_62) <|
    s_if_eq rfl rfl (by decide) dX13_flags_65) <|
  AllB.c (pb := 68) (
    BS.no) <|
  AllB.c (pb := 74) (
    BS.sq (pc' := 75) (s_lconst 0 (by decide +kernel) dX13_flags_74) <|
    BS.go rfl) <|
  AllB.c (pb := 75) (
    BS.sq (pc' := 76) (s_laddZ dX13_flags_75) <|
    s_retl rfl dX13_flags_76) <|
  AllB.n)
-- NativeWorksModel.heapBegin()J
noncomputable def bs_X13_heapBegin : List rBl := [sq (h_v (.inr (.inl 4194304))) (sq (h_ld isR 0) (sq (h_get rFo 15 167) (sq (h_getO 14 1) (sq (h_v (.inl 4095)) (sq (h_bin (fun _ _ => true) rAdd) (sq (h_v (.inl 4294963200)) (sq (h_bin (fun _ _ => true) Nat.land) (sq (h_i2l) (sq (h_lbinZ (fun x y => x + y)) (t_retv isJ))))))))))]
noncomputable def ev_X13_heapBegin : rEv := fun as w n => rIni 1 as (fun ls => rRun bs_X13_heapBegin 100000 0 ls [] w n 0)
set_option maxRecDepth 100000 in
set_option maxHeartbeats 4000000 in
theorem ok_X13_heapBegin (l : Launch) : rMet vwCl rFo rZs rRs rNs rTs l yX13_heapBegin cX13_heapBegin 1 ((Option.some FieldType.long)) 0 0 ev_X13_heapBegin := met_of (pcs := [0]) (by decide +kernel) rfl (fun G n0 =>
  AllB.c (pb := 0) (
    BS.sq (pc' := 3) (s_ldc2 4194304 kw872 dX13_heapBegin_0) <|
    BS.sq (pc' := 4) (s_aload_n (k := 0) 0 rfl dX13_heapBegin_3) <|
    BS.sq (pc' := 7) (s_get 167 inX13 kc15 (by decide) kw540 rfl dX13_heapBegin_4) <|
    BS.sq (pc' := 10) (s_getN 1 inX12 kc14 (by decide) kn4 rfl dX13_heapBegin_7) <|
    BS.sq (pc' := 13) (s_sipush 4095 (by decide +kernel) dX13_heapBegin_10) <|
    BS.sq (pc' := 14) (s_iadd dX13_heapBegin_13) <|
    BS.sq (pc' := 17) (s_sipush 4294963200 (by decide +kernel) dX13_heapBegin_14) <|
    BS.sq (pc' := 18) (s_iand dX13_heapBegin_17) <|
    BS.sq (pc' := 19) (s_i2l dX13_heapBegin_18) <|
    BS.sq (pc' := 20) (s_laddZ dX13_heapBegin_19) <|
    s_retl rfl dX13_heapBegin_20) <|
  AllB.n)
-- NativeWorksModel.register(I)J
noncomputable def bs_X13_register : List rBl := [sq (h_ld isR 0) (sq (h_v (.inl 0)) (sq (h_put 15 0 isI) (sq (h_ld isI 1) (t_if (fun a => rLt a 0) 3 1)))),
  sq (h_ld isI 1) (sq (h_v (.inl 16)) (t_icmp (fun a b => rNot (rLt a b)) 3 2)),
  sq (h_ld isR 0) (sq (h_get rFo 15 188) (sq (h_ld isI 1) (sq (h_aldC rFo okJ) (t_retv isJ)))),
  sq (h_ld isI 1) (sq (h_v (.inl 16)) (t_icmp (fun a b => rNot (rEq a b)) 5 4)),
  sq (h_ld isR 0) (sq (h_get rFo 15 190) (t_go 12)),
  sq (h_ld isI 1) (sq (h_v (.inl 17)) (t_icmp (fun a b => rNot (rEq a b)) 7 6)),
  sq (h_ld isR 0) (sq (h_call 1 (rRecv rFo 15) ev_X13_flags) (t_go 12)),
  sq (h_ld isI 1) (sq (h_v (.inl 18)) (t_icmp (fun a b => rNot (rEq a b)) 9 8)),
  sq (h_ld isR 0) (sq (h_call 1 (rRecv rFo 15) ev_X13_heapBegin) (sq (h_ld isR 0) (sq (h_get rFo 15 185) (sq (h_i2l) (sq (h_lbinZ (fun x y => x + y)) (t_go 12)))))),
  sq (h_ld isI 1) (sq (h_v (.inl 19)) (t_icmp (fun a b => rNot (rEq a b)) 11 10)),
  sq (h_ld isR 0) (sq (h_get rFo 15 192) (t_go 12)),
  sq (h_v (.inr (.inl 0))) (t_go 12),
  t_retv isJ]
noncomputable def ev_X13_register : rEv := fun as w n => rIni 2 as (fun ls => rRun bs_X13_register 100000 0 ls [] w n 0)
set_option maxRecDepth 100000 in
set_option maxHeartbeats 4000000 in
theorem ok_X13_register (l : Launch) : rMet vwCl rFo rZs rRs rNs rTs l yX13_register cX13_register 2 ((Option.some FieldType.long)) 1 20 ev_X13_register := met_of (pcs := [0, 9, 15, 22, 28, 35, 41, 48, 54, 67, 73, 80, 81]) (by decide +kernel) rfl (fun G n0 =>
  AllB.c (pb := 0) (
    BS.sq (pc' := 1) (s_aload_n (k := 0) 0 rfl dX13_register_0) <|
    BS.sq (pc' := 2) (s_iconst 0 (by decide +kernel) dX13_register_1) <|
    BS.sq (pc' := 5) (s_put tyX13 0 isI inX13 tyX13_ok nmX13 kc15 (by decide) kw793 rfl rfl (okf_I G) dX13_register_2) <|
    BS.sq (pc' := 6) (s_iload_n (k := 1) 1 rfl dX13_register_5) <|
    s_if_lt rfl rfl (by decide) dX13_register_6) <|
  AllB.c (pb := 9) (
    BS.sq (pc' := 10) (s_iload_n (k := 1) 1 rfl dX13_register_9) <|
    BS.sq (pc' := 12) (s_bipush 16 (by decide +kernel) dX13_register_10) <|
    s_icmp_ge rfl rfl (by decide) dX13_register_12) <|
  AllB.c (pb := 15) (
    BS.sq (pc' := 16) (s_aload_n (k := 0) 0 rfl dX13_register_15) <|
    BS.sq (pc' := 19) (s_get 188 inX13 kc15 (by decide) kw555 rfl dX13_register_16) <|
    BS.sq (pc' := 20) (s_iload_n (k := 1) 1 rfl dX13_register_19) <|
    BS.sq (pc' := 21) (s_laloadC dX13_register_20) <|
    s_retl rfl dX13_register_21) <|
  AllB.c (pb := 22) (
    BS.sq (pc' := 23) (s_iload_n (k := 1) 1 rfl dX13_register_22) <|
    BS.sq (pc' := 25) (s_bipush 16 (by decide +kernel) dX13_register_23) <|
    s_icmp_ne rfl rfl (by decide) dX13_register_25) <|
  AllB.c (pb := 28) (
    BS.sq (pc' := 29) (s_aload_n (k := 0) 0 rfl dX13_register_28) <|
    BS.sq (pc' := 32) (s_get 190 inX13 kc15 (by decide) kw873 rfl dX13_register_29) <|
    s_goto rfl (by decide) dX13_register_32) <|
  AllB.c (pb := 35) (
    BS.sq (pc' := 36) (s_iload_n (k := 1) 1 rfl dX13_register_35) <|
    BS.sq (pc' := 38) (s_bipush 17 (by decide +kernel) dX13_register_36) <|
    s_icmp_ne rfl rfl (by decide) dX13_register_38) <|
  AllB.c (pb := 41) (
    BS.sq (pc' := 42) (s_aload_n (k := 0) 0 rfl dX13_register_41) <|
    BS.sq (pc' := 45) (s_callV 0 15 kc15 (ok_X13_flags l) kGood kw875 kw876 kw877 kw315 kw874 (by decide +kernel) (by decide) (by decide) dX13_register_42) <|
    s_goto rfl (by decide) dX13_register_45) <|
  AllB.c (pb := 48) (
    BS.sq (pc' := 49) (s_iload_n (k := 1) 1 rfl dX13_register_48) <|
    BS.sq (pc' := 51) (s_bipush 18 (by decide +kernel) dX13_register_49) <|
    s_icmp_ne rfl rfl (by decide) dX13_register_51) <|
  AllB.c (pb := 54) (
    BS.sq (pc' := 55) (s_aload_n (k := 0) 0 rfl dX13_register_54) <|
    BS.sq (pc' := 58) (s_callV 0 15 kc15 (ok_X13_heapBegin l) kGood kw879 kw880 kw881 kw315 kw878 (by decide +kernel) (by decide) (by decide) dX13_register_55) <|
    BS.sq (pc' := 59) (s_aload_n (k := 0) 0 rfl dX13_register_58) <|
    BS.sq (pc' := 62) (s_get 185 inX13 kc15 (by decide) kw882 rfl dX13_register_59) <|
    BS.sq (pc' := 63) (s_i2l dX13_register_62) <|
    BS.sq (pc' := 64) (s_laddZ dX13_register_63) <|
    s_goto rfl (by decide) dX13_register_64) <|
  AllB.c (pb := 67) (
    BS.sq (pc' := 68) (s_iload_n (k := 1) 1 rfl dX13_register_67) <|
    BS.sq (pc' := 70) (s_bipush 19 (by decide +kernel) dX13_register_68) <|
    s_icmp_ne rfl rfl (by decide) dX13_register_70) <|
  AllB.c (pb := 73) (
    BS.sq (pc' := 74) (s_aload_n (k := 0) 0 rfl dX13_register_73) <|
    BS.sq (pc' := 77) (s_get 192 inX13 kc15 (by decide) kw883 rfl dX13_register_74) <|
    s_goto rfl (by decide) dX13_register_77) <|
  AllB.c (pb := 80) (
    BS.sq (pc' := 81) (s_lconst 0 (by decide +kernel) dX13_register_80) <|
    BS.go rfl) <|
  AllB.c (pb := 81) (
    s_retl rfl dX13_register_81) <|
  AllB.n)
-- NativeWorksModel.set(IJ)Z
noncomputable def bs_X13_set : List rBl := [sq (h_ld isR 0) (sq (h_v (.inl 0)) (sq (h_put 15 0 isI) (sq (h_ld isI 1) (t_if (fun a => rLt a 0) 2 1)))),
  sq (h_ld isI 1) (sq (h_v (.inl 16)) (t_icmp rLe 3 2)),
  sq (h_v (.inl 0)) (t_retv isZ),
  sq (h_ld isI 1) (sq (h_v (.inl 16)) (t_icmp (fun a b => rNot (rEq a b)) 5 4)),
  sq (h_ld isR 0) (sq (h_ld isJ 2) (sq (h_put 15 190 isJ) (t_go 6))),
  sq (h_ld isR 0) (sq (h_get rFo 15 188) (sq (h_ld isI 1) (sq (h_ld isJ 2) (sq (h_lastF) (t_go 6))))),
  sq (h_v (.inl 1)) (t_retv isZ)]
noncomputable def ev_X13_set : rEv := fun as w n => rIni 4 as (fun ls => rRun bs_X13_set 100000 0 ls [] w n 0)
set_option maxRecDepth 100000 in
set_option maxHeartbeats 4000000 in
theorem ok_X13_set (l : Launch) : rMet vwCl rFo rZs rRs rNs rTs l yX13_set cX13_set 4 ((Option.some FieldType.boolean)) 0 0 ev_X13_set := met_of (pcs := [0, 9, 15, 17, 23, 31, 38]) (by decide +kernel) rfl (fun G n0 =>
  AllB.c (pb := 0) (
    BS.sq (pc' := 1) (s_aload_n (k := 0) 0 rfl dX13_set_0) <|
    BS.sq (pc' := 2) (s_iconst 0 (by decide +kernel) dX13_set_1) <|
    BS.sq (pc' := 5) (s_put tyX13 0 isI inX13 tyX13_ok nmX13 kc15 (by decide) kw793 rfl rfl (okf_I G) dX13_set_2) <|
    BS.sq (pc' := 6) (s_iload_n (k := 1) 1 rfl dX13_set_5) <|
    s_if_lt rfl rfl (by decide) dX13_set_6) <|
  AllB.c (pb := 9) (
    BS.sq (pc' := 10) (s_iload_n (k := 1) 1 rfl dX13_set_9) <|
    BS.sq (pc' := 12) (s_bipush 16 (by decide +kernel) dX13_set_10) <|
    s_icmp_le rfl rfl (by decide) dX13_set_12) <|
  AllB.c (pb := 15) (
    BS.sq (pc' := 16) (s_iconst 0 (by decide +kernel) dX13_set_15) <|
    s_reti isZ rfl okr_Z dX13_set_16) <|
  AllB.c (pb := 17) (
    BS.sq (pc' := 18) (s_iload_n (k := 1) 1 rfl dX13_set_17) <|
    BS.sq (pc' := 20) (s_bipush 16 (by decide +kernel) dX13_set_18) <|
    s_icmp_ne rfl rfl (by decide) dX13_set_20) <|
  AllB.c (pb := 23) (
    BS.sq (pc' := 24) (s_aload_n (k := 0) 0 rfl dX13_set_23) <|
    BS.sq (pc' := 25) (s_lload_n (k := 2) 2 rfl dX13_set_24) <|
    BS.sq (pc' := 28) (s_put tyX13 190 isJ inX13 tyX13_ok nmX13 kc15 (by decide) kw873 rfl rfl (okf_J G) dX13_set_25) <|
    s_goto rfl (by decide) dX13_set_28) <|
  AllB.c (pb := 31) (
    BS.sq (pc' := 32) (s_aload_n (k := 0) 0 rfl dX13_set_31) <|
    BS.sq (pc' := 35) (s_get 188 inX13 kc15 (by decide) kw555 rfl dX13_set_32) <|
    BS.sq (pc' := 36) (s_iload_n (k := 1) 1 rfl dX13_set_35) <|
    BS.sq (pc' := 37) (s_lload_n (k := 2) 2 rfl dX13_set_36) <|
    BS.sq (pc' := 38) (s_lastoreF dX13_set_37) <|
    BS.go rfl) <|
  AllB.c (pb := 38) (
    BS.sq (pc' := 39) (s_iconst 1 (by decide +kernel) dX13_set_38) <|
    s_reti isZ rfl okr_Z dX13_set_39) <|
  AllB.n)
-- NativeWorksModel.find(JZ)I
noncomputable def bs_X13_find : List rBl := [sq (h_ld isR 0) (sq (h_get rFo 15 179) (t_if (fun a => rNot (rEq a 0)) 2 1)),
  sq (h_v (.inl 4294967295)) (t_retv isI),
  t_no,
  t_no,
  t_no,
  t_no,
  t_no,
  t_no,
  t_no,
  t_no,
  t_no,
  t_no,
  t_no,
  t_no,
  t_no,
  t_no,
  t_no,
  t_no,
  t_no,
  t_no,
  t_no,
  t_no,
  t_no,
  t_no,
  t_no,
  t_no,
  t_no,
  t_no,
  t_no,
  t_no,
  t_no,
  t_no]
noncomputable def ev_X13_find : rEv := fun as w n => rIni 10 as (fun ls => rRun bs_X13_find 100000 0 ls [] w n 0)
set_option maxRecDepth 100000 in
set_option maxHeartbeats 4000000 in
theorem ok_X13_find (l : Launch) : rMet vwCl rFo rZs rRs rNs rTs l yX13_find cX13_find 10 ((Option.some FieldType.int)) 0 0 ev_X13_find := met_of (pcs := [0, 7, 9, 23, 37, 51, 55, 56, 68, 82, 96, 100, 101, 113, 127, 141, 145, 146, 153, 158, 162, 167, 173, 174, 175, 190, 201, 209, 223, 232, 242, 243]) (by decide +kernel) rfl (fun G n0 =>
  AllB.c (pb := 0) (
    BS.sq (pc' := 1) (s_aload_n (k := 0) 0 rfl dX13_find_0) <|
    BS.sq (pc' := 4) (s_get 179 inX13 kc15 (by decide) kw863 rfl dX13_find_1) <|
    s_if_ne rfl rfl (by decide) dX13_find_4) <|
  AllB.c (pb := 7) (
    BS.sq (pc' := 8) (s_iconst 4294967295 (by decide +kernel) dX13_find_7) <|
    s_reti isI rfl okr_I dX13_find_8) <|
  AllB.c (pb := 9) (
    BS.no) <|
  AllB.c (pb := 23) (
    BS.no) <|
  AllB.c (pb := 37) (
    BS.no) <|
  AllB.c (pb := 51) (
    BS.no) <|
  AllB.c (pb := 55) (
    BS.no) <|
  AllB.c (pb := 56) (
    BS.no) <|
  AllB.c (pb := 68) (
    BS.no) <|
  AllB.c (pb := 82) (
    BS.no) <|
  AllB.c (pb := 96) (
    BS.no) <|
  AllB.c (pb := 100) (
    BS.no) <|
  AllB.c (pb := 101) (
    BS.no) <|
  AllB.c (pb := 113) (
    BS.no) <|
  AllB.c (pb := 127) (
    BS.no) <|
  AllB.c (pb := 141) (
    BS.no) <|
  AllB.c (pb := 145) (
    BS.no) <|
  AllB.c (pb := 146) (
    BS.no) <|
  AllB.c (pb := 153) (
    BS.no) <|
  AllB.c (pb := 158) (
    BS.no) <|
  AllB.c (pb := 162) (
    BS.no) <|
  AllB.c (pb := 167) (
    BS.no) <|
  AllB.c (pb := 173) (
    BS.no) <|
  AllB.c (pb := 174) (
    BS.no) <|
  AllB.c (pb := 175) (
    BS.no) <|
  AllB.c (pb := 190) (
    BS.no) <|
  AllB.c (pb := 201) (
    BS.no) <|
  AllB.c (pb := 209) (
    BS.no) <|
  AllB.c (pb := 223) (
    BS.no) <|
  AllB.c (pb := 232) (
    BS.no) <|
  AllB.c (pb := 242) (
    BS.no) <|
  AllB.c (pb := 243) (
    BS.no) <|
  AllB.n)
-- NativeWorksModel.peek(J)I
noncomputable def bs_X13_peek : List rBl := [sq (h_ld isR 0) (sq (h_v (.inl 0)) (sq (h_put 15 0 isI) (sq (h_ld isR 0) (sq (h_ld isJ 1) (sq (h_v (.inl 0)) (sq (h_call 3 (rRecv rFo 15) ev_X13_find) (sq (h_st isI 3) (sq (h_ld isI 3) (t_if (fun a => rNot (rLt a 0)) 2 1))))))))),
  sq (h_v (.inl 4294967295)) (t_go 3),
  t_no,
  t_retv isI]
noncomputable def ev_X13_peek : rEv := fun as w n => rIni 4 as (fun ls => rRun bs_X13_peek 100000 0 ls [] w n 0)
set_option maxRecDepth 100000 in
set_option maxHeartbeats 4000000 in
theorem ok_X13_peek (l : Launch) : rMet vwCl rFo rZs rRs rNs rTs l yX13_peek cX13_peek 4 ((Option.some FieldType.int)) 1 29 ev_X13_peek := met_of (pcs := [0, 16, 20, 25]) (by decide +kernel) rfl (fun G n0 =>
  AllB.c (pb := 0) (
    BS.sq (pc' := 1) (s_aload_n (k := 0) 0 rfl dX13_peek_0) <|
    BS.sq (pc' := 2) (s_iconst 0 (by decide +kernel) dX13_peek_1) <|
    BS.sq (pc' := 5) (s_put tyX13 0 isI inX13 tyX13_ok nmX13 kc15 (by decide) kw793 rfl rfl (okf_I G) dX13_peek_2) <|
    BS.sq (pc' := 6) (s_aload_n (k := 0) 0 rfl dX13_peek_5) <|
    BS.sq (pc' := 7) (s_lload_n (k := 1) 1 rfl dX13_peek_6) <|
    BS.sq (pc' := 8) (s_iconst 0 (by decide +kernel) dX13_peek_7) <|
    BS.sq (pc' := 11) (s_callV 2 15 kc15 (ok_X13_find l) kGood kw885 kw886 kw887 kw315 kw884 (by decide +kernel) (by decide) (by decide) dX13_peek_8) <|
    BS.sq (pc' := 12) (s_istore_n (k := 3) 3 rfl (by decide) dX13_peek_11) <|
    BS.sq (pc' := 13) (s_iload_n (k := 3) 3 rfl dX13_peek_12) <|
    s_if_ge rfl rfl (by decide) dX13_peek_13) <|
  AllB.c (pb := 16) (
    BS.sq (pc' := 17) (s_iconst 4294967295 (by decide +kernel) dX13_peek_16) <|
    s_goto rfl (by decide) dX13_peek_17) <|
  AllB.c (pb := 20) (
    BS.no) <|
  AllB.c (pb := 25) (
    s_reti isI rfl okr_I dX13_peek_25) <|
  AllB.n)
-- NativeWorksModel.poke(JI)Z
noncomputable def bs_X13_poke : List rBl := [sq (h_ld isR 0) (sq (h_v (.inl 0)) (sq (h_put 15 0 isI) (sq (h_ld isR 0) (sq (h_ld isJ 1) (sq (h_v (.inl 1)) (sq (h_call 3 (rRecv rFo 15) ev_X13_find) (sq (h_st isI 4) (sq (h_ld isI 4) (t_if (fun a => rLt a 0) 2 1))))))))),
  t_no,
  sq (h_ld isI 4) (t_if (fun a => rLt a 0) 4 3),
  t_no,
  sq (h_v (.inl 0)) (t_go 5),
  t_retv isZ]
noncomputable def ev_X13_poke : rEv := fun as w n => rIni 5 as (fun ls => rRun bs_X13_poke 100000 0 ls [] w n 0)
set_option maxRecDepth 100000 in
set_option maxHeartbeats 4000000 in
theorem ok_X13_poke (l : Launch) : rMet vwCl rFo rZs rRs rNs rTs l yX13_poke cX13_poke 5 ((Option.some FieldType.boolean)) 1 29 ev_X13_poke := met_of (pcs := [0, 18, 25, 30, 34, 35]) (by decide +kernel) rfl (fun G n0 =>
  AllB.c (pb := 0) (
    BS.sq (pc' := 1) (s_aload_n (k := 0) 0 rfl dX13_poke_0) <|
    BS.sq (pc' := 2) (s_iconst 0 (by decide +kernel) dX13_poke_1) <|
    BS.sq (pc' := 5) (s_put tyX13 0 isI inX13 tyX13_ok nmX13 kc15 (by decide) kw793 rfl rfl (okf_I G) dX13_poke_2) <|
    BS.sq (pc' := 6) (s_aload_n (k := 0) 0 rfl dX13_poke_5) <|
    BS.sq (pc' := 7) (s_lload_n (k := 1) 1 rfl dX13_poke_6) <|
    BS.sq (pc' := 8) (s_iconst 1 (by decide +kernel) dX13_poke_7) <|
    BS.sq (pc' := 11) (s_callV 2 15 kc15 (ok_X13_find l) kGood kw885 kw886 kw887 kw315 kw884 (by decide +kernel) (by decide) (by decide) dX13_poke_8) <|
    BS.sq (pc' := 13) (s_istore 4 (by decide) dX13_poke_11) <|
    BS.sq (pc' := 15) (s_iload 4 dX13_poke_13) <|
    s_if_lt rfl rfl (by decide) dX13_poke_15) <|
  AllB.c (pb := 18) (
    BS.no) <|
  AllB.c (pb := 25) (
    BS.sq (pc' := 27) (s_iload 4 dX13_poke_25) <|
    s_if_lt rfl rfl (by decide) dX13_poke_27) <|
  AllB.c (pb := 30) (
    BS.no) <|
  AllB.c (pb := 34) (
    BS.sq (pc' := 35) (s_iconst 0 (by decide +kernel) dX13_poke_34) <|
    BS.go rfl) <|
  AllB.c (pb := 35) (
    s_reti isZ rfl okr_Z dX13_poke_35) <|
  AllB.n)
-- NativeWorksModel.isPlace(J)Z
noncomputable def bs_X13_isPlace : List rBl := [sq (h_v (.inl 0)) (sq (h_st isI 3) (t_go 1)),
  sq (h_ld isI 3) (sq (h_ld isR 0) (sq (h_get rFo 15 200) (t_icmp (fun a b => rNot (rLt a b)) 5 2))),
  t_no,
  t_no,
  t_no,
  sq (h_v (.inl 0)) (t_retv isZ)]
noncomputable def ev_X13_isPlace : rEv := fun as w n => rIni 4 as (fun ls => rRun bs_X13_isPlace 100000 0 ls [] w n 0)
set_option maxRecDepth 100000 in
set_option maxHeartbeats 4000000 in
theorem ok_X13_isPlace (l : Launch) : rMet vwCl rFo rZs rRs rNs rTs l yX13_isPlace cX13_isPlace 4 ((Option.some FieldType.boolean)) 0 0 ev_X13_isPlace := met_of (pcs := [0, 2, 10, 21, 23, 29]) (by decide +kernel) rfl (fun G n0 =>
  AllB.c (pb := 0) (
    BS.sq (pc' := 1) (s_iconst 0 (by decide +kernel) dX13_isPlace_0) <|
    BS.sq (pc' := 2) (s_istore_n (k := 3) 3 rfl (by decide) dX13_isPlace_1) <|
    BS.go rfl) <|
  AllB.c (pb := 2) (
    BS.sq (pc' := 3) (s_iload_n (k := 3) 3 rfl dX13_isPlace_2) <|
    BS.sq (pc' := 4) (s_aload_n (k := 0) 0 rfl dX13_isPlace_3) <|
    BS.sq (pc' := 7) (s_get 200 inX13 kc15 (by decide) kw888 rfl dX13_isPlace_4) <|
    s_icmp_ge rfl rfl (by decide) dX13_isPlace_7) <|
  AllB.c (pb := 10) (
    BS.no) <|
  AllB.c (pb := 21) (
    BS.no) <|
  AllB.c (pb := 23) (
    BS.no) <|
  AllB.c (pb := 29) (
    BS.sq (pc' := 30) (s_iconst 0 (by decide +kernel) dX13_isPlace_29) <|
    s_reti isZ rfl okr_Z dX13_isPlace_30) <|
  AllB.n)
