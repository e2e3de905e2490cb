/-! METHODS -/
-- NativeWorksModel.row(IIIIIII)V
noncomputable def bs_X13_row : List rBl := [sq (h_ld isR 0) (sq (h_get rFo 15 142) (sq (h_ld isR 0) (sq (h_get rFo 15 141) (sq (h_ld isI 1) (sq (h_ast okI) (sq (h_ld isR 0) (sq (h_get rFo 15 143) (sq (h_ld isR 0) (sq (h_get rFo 15 141) (sq (h_ld isI 2) (sq (h_ast okI) (sq (h_ld isR 0) (sq (h_get rFo 15 144) (sq (h_ld isR 0) (sq (h_get rFo 15 141) (sq (h_ld isI 3) (sq (h_ast okI) (sq (h_ld isR 0) (sq (h_get rFo 15 145) (sq (h_ld isR 0) (sq (h_get rFo 15 141) (sq (h_ld isI 4) (sq (h_ast okI) (sq (h_ld isR 0) (sq (h_get rFo 15 146) (sq (h_ld isR 0) (sq (h_get rFo 15 141) (sq (h_ld isI 5) (sq (h_ast okI) (sq (h_ld isR 0) (sq (h_get rFo 15 147) (sq (h_ld isR 0) (sq (h_get rFo 15 141) (sq (h_ld isI 6) (sq (h_ast okI) (sq (h_ld isR 0) (sq (h_get rFo 15 148) (sq (h_ld isR 0) (sq (h_get rFo 15 141) (sq (h_ld isI 7) (sq (h_ast okI) (sq (h_ld isR 0) (sq (h_dup) (sq (h_get rFo 15 141) (sq (h_v (.inl 1)) (sq (h_bin (fun _ _ => true) rAdd) (sq (h_put 15 141 isI) (t_ret))))))))))))))))))))))))))))))))))))))))))))))))]
noncomputable def ev_X13_row : rEv := fun as w n => rIni 8 as (fun ls => rRun bs_X13_row 100000 0 ls [] w n 0)
set_option maxRecDepth 100000 in
set_option maxHeartbeats 4000000 in
theorem ok_X13_row (l : Launch) : rMet vwCl rFo rZs rRs rNs rTs l yX13_row cX13_row 8 ((Option.none : Option FieldType)) 0 0 ev_X13_row := met_of (pcs := [0]) (by decide +kernel) rfl (fun G n0 =>
  AllB.c (pb := 0) (
    BS.sq (pc' := 1) (s_aload_n (k := 0) 0 rfl dX13_row_0) <|
    BS.sq (pc' := 4) (s_get 142 inX13 kc15 (by decide) kw433 rfl dX13_row_1) <|
    BS.sq (pc' := 5) (s_aload_n (k := 0) 0 rfl dX13_row_4) <|
    BS.sq (pc' := 8) (s_get 141 inX13 kc15 (by decide) kw434 rfl dX13_row_5) <|
    BS.sq (pc' := 9) (s_iload_n (k := 1) 1 rfl dX13_row_8) <|
    BS.sq (pc' := 10) (s_iastore dX13_row_9) <|
    BS.sq (pc' := 11) (s_aload_n (k := 0) 0 rfl dX13_row_10) <|
    BS.sq (pc' := 14) (s_get 143 inX13 kc15 (by decide) kw435 rfl dX13_row_11) <|
    BS.sq (pc' := 15) (s_aload_n (k := 0) 0 rfl dX13_row_14) <|
    BS.sq (pc' := 18) (s_get 141 inX13 kc15 (by decide) kw434 rfl dX13_row_15) <|
    BS.sq (pc' := 19) (s_iload_n (k := 2) 2 rfl dX13_row_18) <|
    BS.sq (pc' := 20) (s_iastore dX13_row_19) <|
    BS.sq (pc' := 21) (s_aload_n (k := 0) 0 rfl dX13_row_20) <|
    BS.sq (pc' := 24) (s_get 144 inX13 kc15 (by decide) kw436 rfl dX13_row_21) <|
    BS.sq (pc' := 25) (s_aload_n (k := 0) 0 rfl dX13_row_24) <|
    BS.sq (pc' := 28) (s_get 141 inX13 kc15 (by decide) kw434 rfl dX13_row_25) <|
    BS.sq (pc' := 29) (s_iload_n (k := 3) 3 rfl dX13_row_28) <|
    BS.sq (pc' := 30) (s_iastore dX13_row_29) <|
    BS.sq (pc' := 31) (s_aload_n (k := 0) 0 rfl dX13_row_30) <|
    BS.sq (pc' := 34) (s_get 145 inX13 kc15 (by decide) kw437 rfl dX13_row_31) <|
    BS.sq (pc' := 35) (s_aload_n (k := 0) 0 rfl dX13_row_34) <|
    BS.sq (pc' := 38) (s_get 141 inX13 kc15 (by decide) kw434 rfl dX13_row_35) <|
    BS.sq (pc' := 40) (s_iload 4 dX13_row_38) <|
    BS.sq (pc' := 41) (s_iastore dX13_row_40) <|
    BS.sq (pc' := 42) (s_aload_n (k := 0) 0 rfl dX13_row_41) <|
    BS.sq (pc' := 45) (s_get 146 inX13 kc15 (by decide) kw438 rfl dX13_row_42) <|
    BS.sq (pc' := 46) (s_aload_n (k := 0) 0 rfl dX13_row_45) <|
    BS.sq (pc' := 49) (s_get 141 inX13 kc15 (by decide) kw434 rfl dX13_row_46) <|
    BS.sq (pc' := 51) (s_iload 5 dX13_row_49) <|
    BS.sq (pc' := 52) (s_iastore dX13_row_51) <|
    BS.sq (pc' := 53) (s_aload_n (k := 0) 0 rfl dX13_row_52) <|
    BS.sq (pc' := 56) (s_get 147 inX13 kc15 (by decide) kw439 rfl dX13_row_53) <|
    BS.sq (pc' := 57) (s_aload_n (k := 0) 0 rfl dX13_row_56) <|
    BS.sq (pc' := 60) (s_get 141 inX13 kc15 (by decide) kw434 rfl dX13_row_57) <|
    BS.sq (pc' := 62) (s_iload 6 dX13_row_60) <|
    BS.sq (pc' := 63) (s_iastore dX13_row_62) <|
    BS.sq (pc' := 64) (s_aload_n (k := 0) 0 rfl dX13_row_63) <|
    BS.sq (pc' := 67) (s_get 148 inX13 kc15 (by decide) kw440 rfl dX13_row_64) <|
    BS.sq (pc' := 68) (s_aload_n (k := 0) 0 rfl dX13_row_67) <|
    BS.sq (pc' := 71) (s_get 141 inX13 kc15 (by decide) kw434 rfl dX13_row_68) <|
    BS.sq (pc' := 73) (s_iload 7 dX13_row_71) <|
    BS.sq (pc' := 74) (s_iastore dX13_row_73) <|
    BS.sq (pc' := 75) (s_aload_n (k := 0) 0 rfl dX13_row_74) <|
    BS.sq (pc' := 76) (s_dup dX13_row_75) <|
    BS.sq (pc' := 79) (s_get 141 inX13 kc15 (by decide) kw434 rfl dX13_row_76) <|
    BS.sq (pc' := 80) (s_iconst 1 (by decide +kernel) dX13_row_79) <|
    BS.sq (pc' := 81) (s_iadd dX13_row_80) <|
    BS.sq (pc' := 84) (s_put tyX13 141 isI inX13 tyX13_ok nmX13 kc15 (by decide) kw434 rfl rfl (okf_I G) dX13_row_81) <|
    s_ret rfl dX13_row_84) <|
  AllB.n)
-- NativeWorksModel.fillRest()V
noncomputable def bs_X13_fillRest : List rBl := [sq (h_ld isR 0) (sq (h_v (.inl 29)) (sq (h_v (.inl 2)) (sq (h_v (.inl 5)) (sq (h_v (.inl 0)) (sq (h_v (.inl 80)) (sq (h_v (.inl 9)) (sq (h_v (.inl 0)) (sq (h_call 8 (rRecv rFo 15) ev_X13_row) (sq (h_ld isR 0) (sq (h_v (.inl 29)) (sq (h_v (.inl 2)) (sq (h_v (.inl 10)) (sq (h_v (.inl 0)) (sq (h_v (.inl 104)) (sq (h_v (.inl 9)) (sq (h_v (.inl 3)) (sq (h_call 8 (rRecv rFo 15) ev_X13_row) (sq (h_ld isR 0) (sq (h_v (.inl 29)) (sq (h_v (.inl 2)) (sq (h_v (.inl 10)) (sq (h_v (.inl 0)) (sq (h_v (.inl 106)) (sq (h_v (.inl 9)) (sq (h_v (.inl 2)) (sq (h_call 8 (rRecv rFo 15) ev_X13_row) (sq (h_ld isR 0) (sq (h_v (.inl 29)) (sq (h_v (.inl 2)) (sq (h_v (.inl 8)) (sq (h_v (.inl 0)) (sq (h_v (.inl 255)) (sq (h_v (.inl 6)) (sq (h_v (.inl 0)) (sq (h_call 8 (rRecv rFo 15) ev_X13_row) (sq (h_ld isR 0) (sq (h_v (.inl 30)) (sq (h_v (.inl 2)) (sq (h_v (.inl 5)) (sq (h_v (.inl 0)) (sq (h_v (.inl 88)) (sq (h_v (.inl 9)) (sq (h_v (.inl 0)) (sq (h_call 8 (rRecv rFo 15) ev_X13_row) (sq (h_ld isR 0) (sq (h_v (.inl 30)) (sq (h_v (.inl 2)) (sq (h_v (.inl 8)) (sq (h_v (.inl 0)) (sq (h_v (.inl 143)) (sq (h_v (.inl 0)) (sq (h_v (.inl 0)) (sq (h_call 8 (rRecv rFo 15) ev_X13_row) (sq (h_ld isR 0) (sq (h_v (.inl 31)) (sq (h_v (.inl 4)) (sq (h_v (.inl 8)) (sq (h_v (.inl 0)) (sq (h_v (.inl 255)) (t_go 1)))))))))))))))))))))))))))))))))))))))))))))))))))))))))))),
  sq (h_v (.inl 4)) (sq (h_v (.inl 0)) (sq (h_call 8 (rRecv rFo 15) ev_X13_row) (sq (h_ld isR 0) (sq (h_v (.inl 32)) (sq (h_v (.inl 4)) (sq (h_v (.inl 8)) (sq (h_v (.inl 0)) (sq (h_v (.inl 255)) (sq (h_v (.inl 2)) (sq (h_v (.inl 0)) (sq (h_call 8 (rRecv rFo 15) ev_X13_row) (sq (h_ld isR 0) (sq (h_v (.inl 33)) (sq (h_v (.inl 4)) (sq (h_v (.inl 0)) (sq (h_v (.inl 0)) (sq (h_v (.inl 195)) (sq (h_v (.inl 9)) (sq (h_v (.inl 0)) (sq (h_call 8 (rRecv rFo 15) ev_X13_row) (sq (h_ld isR 0) (sq (h_v (.inl 33)) (sq (h_v (.inl 4)) (sq (h_v (.inl 10)) (sq (h_v (.inl 0)) (sq (h_v (.inl 194)) (sq (h_v (.inl 9)) (sq (h_v (.inl 5)) (sq (h_call 8 (rRecv rFo 15) ev_X13_row) (sq (h_ld isR 0) (sq (h_v (.inl 35)) (sq (h_v (.inl 5)) (sq (h_v (.inl 8)) (sq (h_v (.inl 15)) (sq (h_v (.inl 144)) (sq (h_v (.inl 8)) (sq (h_v (.inl 0)) (sq (h_call 8 (rRecv rFo 15) ev_X13_row) (sq (h_ld isR 0) (sq (h_v (.inl 36)) (sq (h_v (.inl 1)) (sq (h_v (.inl 2)) (sq (h_v (.inl 15)) (sq (h_v (.inl 64)) (sq (h_v (.inl 9)) (sq (h_v (.inl 0)) (sq (h_call 8 (rRecv rFo 15) ev_X13_row) (sq (h_ld isR 0) (sq (h_v (.inl 37)) (sq (h_v (.inl 1)) (sq (h_v (.inl 0)) (sq (h_v (.inl 0)) (sq (h_v (.inl 153)) (sq (h_v (.inl 9)) (sq (h_v (.inl 0)) (sq (h_call 8 (rRecv rFo 15) ev_X13_row) (sq (h_ld isR 0) (sq (h_v (.inl 38)) (sq (h_v (.inl 1)) (t_go 2)))))))))))))))))))))))))))))))))))))))))))))))))))))))))))),
  sq (h_v (.inl 0)) (sq (h_v (.inl 0)) (sq (h_v (.inl 152)) (sq (h_v (.inl 9)) (sq (h_v (.inl 0)) (sq (h_call 8 (rRecv rFo 15) ev_X13_row) (sq (h_ld isR 0) (sq (h_v (.inl 39)) (sq (h_v (.inl 4)) (sq (h_v (.inl 0)) (sq (h_v (.inl 0)) (sq (h_v (.inl 144)) (sq (h_v (.inl 9)) (sq (h_v (.inl 0)) (sq (h_call 8 (rRecv rFo 15) ev_X13_row) (sq (h_ld isR 0) (sq (h_v (.inl 40)) (sq (h_v (.inl 4)) (sq (h_v (.inl 0)) (sq (h_v (.inl 0)) (sq (h_v (.inl 204)) (sq (h_v (.inl 9)) (sq (h_v (.inl 0)) (sq (h_call 8 (rRecv rFo 15) ev_X13_row) (sq (h_ld isR 0) (sq (h_v (.inl 41)) (sq (h_v (.inl 4)) (sq (h_v (.inl 0)) (sq (h_v (.inl 15)) (sq (h_v (.inl 11)) (sq (h_v (.inl 9)) (sq (h_v (.inl 0)) (sq (h_call 8 (rRecv rFo 15) ev_X13_row) (sq (h_ld isR 0) (sq (h_v (.inl 42)) (sq (h_v (.inl 4)) (sq (h_v (.inl 0)) (sq (h_v (.inl 15)) (sq (h_v (.inl 5)) (sq (h_v (.inl 9)) (sq (h_v (.inl 0)) (sq (h_call 8 (rRecv rFo 15) ev_X13_row) (sq (h_ld isR 0) (sq (h_v (.inl 43)) (sq (h_v (.inl 4)) (sq (h_v (.inl 0)) (sq (h_v (.inl 0)) (sq (h_v (.inl 201)) (sq (h_v (.inl 9)) (sq (h_v (.inl 0)) (sq (h_call 8 (rRecv rFo 15) ev_X13_row) (sq (h_ld isR 0) (sq (h_v (.inl 44)) (sq (h_v (.inl 1)) (sq (h_v (.inl 2)) (sq (h_v (.inl 15)) (sq (h_v (.inl 188)) (sq (h_v (.inl 9)) (sq (h_v (.inl 0)) (sq (h_call 8 (rRecv rFo 15) ev_X13_row) (t_go 3)))))))))))))))))))))))))))))))))))))))))))))))))))))))))))),
  sq (h_ld isR 0) (sq (h_v (.inl 45)) (sq (h_v (.inl 1)) (sq (h_v (.inl 2)) (sq (h_v (.inl 15)) (sq (h_v (.inl 189)) (sq (h_v (.inl 9)) (sq (h_v (.inl 0)) (sq (h_call 8 (rRecv rFo 15) ev_X13_row) (sq (h_ld isR 0) (sq (h_v (.inl 46)) (sq (h_v (.inl 1)) (sq (h_v (.inl 5)) (sq (h_v (.inl 15)) (sq (h_v (.inl 200)) (sq (h_v (.inl 9)) (sq (h_v (.inl 0)) (sq (h_call 8 (rRecv rFo 15) ev_X13_row) (sq (h_ld isR 0) (sq (h_v (.inl 47)) (sq (h_v (.inl 1)) (sq (h_v (.inl 1)) (sq (h_v (.inl 15)) (sq (h_v (.inl 163)) (sq (h_v (.inl 9)) (sq (h_v (.inl 0)) (sq (h_call 8 (rRecv rFo 15) ev_X13_row) (sq (h_ld isR 0) (sq (h_v (.inl 47)) (sq (h_v (.inl 1)) (sq (h_v (.inl 4)) (sq (h_v (.inl 15)) (sq (h_v (.inl 186)) (sq (h_v (.inl 4)) (sq (h_v (.inl 6)) (sq (h_call 8 (rRecv rFo 15) ev_X13_row) (sq (h_ld isR 0) (sq (h_v (.inl 48)) (sq (h_v (.inl 0)) (sq (h_v (.inl 1)) (sq (h_v (.inl 15)) (sq (h_v (.inl 192)) (sq (h_v (.inl 9)) (sq (h_v (.inl 0)) (sq (h_call 8 (rRecv rFo 15) ev_X13_row) (sq (h_ld isR 0) (sq (h_v (.inl 49)) (sq (h_v (.inl 0)) (sq (h_v (.inl 1)) (sq (h_v (.inl 15)) (sq (h_v (.inl 176)) (sq (h_v (.inl 9)) (sq (h_v (.inl 0)) (sq (h_call 8 (rRecv rFo 15) ev_X13_row) (sq (h_v (.inl 0)) (sq (h_st isI 1) (t_go 4)))))))))))))))))))))))))))))))))))))))))))))))))))))))),
  sq (h_ld isI 1) (sq (h_v (.inl 4)) (t_icmp (fun a b => rNot (rLt a b)) 12 5)),
  sq (h_ld isR 0) (sq (h_v (.inl 50)) (sq (h_ld isI 1) (sq (h_bin (fun _ _ => true) rAdd) (sq (h_v (.inl 0)) (sq (h_v (.inl 0)) (sq (h_ld isI 1) (sq (h_v (.inl 2)) (t_icmp (fun a b => rNot (rLt a b)) 7 6)))))))),
  sq (h_v (.inl 0)) (t_go 8),
  sq (h_v (.inl 243)) (t_go 8),
  sq (h_ld isI 1) (sq (h_v (.inl 2)) (sq (h_bin rDok Nat.mod) (t_if (fun a => rNot (rEq a 0)) 10 9))),
  sq (h_v (.inl 164)) (t_go 11),
  sq (h_v (.inl 170)) (t_go 11),
  sq (h_v (.inl 9)) (sq (h_v (.inl 0)) (sq (h_call 8 (rRecv rFo 15) ev_X13_row) (sq (h_inc 1 1) (t_go 4)))),
  t_ret]
noncomputable def ev_X13_fillRest : rEv := fun as w n => rIni 2 as (fun ls => rRun bs_X13_fillRest 100000 0 ls [] w n 0)
set_option maxRecDepth 100000 in
set_option maxHeartbeats 4000000 in
theorem ok_X13_fillRest (l : Launch) : rMet vwCl rFo rZs rRs rNs rTs l yX13_fillRest cX13_fillRest 2 ((Option.none : Option FieldType)) 1 27 ev_X13_fillRest := met_of (pcs := [0, 99, 201, 302, 400, 405, 417, 421, 424, 430, 436, 439, 451]) (by decide +kernel) rfl (fun G n0 =>
  AllB.c (pb := 0) (
    BS.sq (pc' := 1) (s_aload_n (k := 0) 0 rfl dX13_fillRest_0) <|
    BS.sq (pc' := 3) (s_bipush 29 (by decide +kernel) dX13_fillRest_1) <|
    BS.sq (pc' := 4) (s_iconst 2 (by decide +kernel) dX13_fillRest_3) <|
    BS.sq (pc' := 5) (s_iconst 5 (by decide +kernel) dX13_fillRest_4) <|
    BS.sq (pc' := 6) (s_iconst 0 (by decide +kernel) dX13_fillRest_5) <|
    BS.sq (pc' := 8) (s_bipush 80 (by decide +kernel) dX13_fillRest_6) <|
    BS.sq (pc' := 10) (s_bipush 9 (by decide +kernel) dX13_fillRest_8) <|
    BS.sq (pc' := 11) (s_iconst 0 (by decide +kernel) dX13_fillRest_10) <|
    BS.sq (pc' := 14) (s_callV 7 15 kc15 (ok_X13_row l) kGood kw442 kw443 kw444 kw315 kw441 (by decide +kernel) (by decide) (by decide) dX13_fillRest_11) <|
    BS.sq (pc' := 15) (s_aload_n (k := 0) 0 rfl dX13_fillRest_14) <|
    BS.sq (pc' := 17) (s_bipush 29 (by decide +kernel) dX13_fillRest_15) <|
    BS.sq (pc' := 18) (s_iconst 2 (by decide +kernel) dX13_fillRest_17) <|
    BS.sq (pc' := 20) (s_bipush 10 (by decide +kernel) dX13_fillRest_18) <|
    BS.sq (pc' := 21) (s_iconst 0 (by decide +kernel) dX13_fillRest_20) <|
    BS.sq (pc' := 23) (s_bipush 104 (by decide +kernel) dX13_fillRest_21) <|
    BS.sq (pc' := 25) (s_bipush 9 (by decide +kernel) dX13_fillRest_23) <|
    BS.sq (pc' := 26) (s_iconst 3 (by decide +kernel) dX13_fillRest_25) <|
    BS.sq (pc' := 29) (s_callV 7 15 kc15 (ok_X13_row l) kGood kw442 kw443 kw444 kw315 kw441 (by decide +kernel) (by decide) (by decide) dX13_fillRest_26) <|
    BS.sq (pc' := 30) (s_aload_n (k := 0) 0 rfl dX13_fillRest_29) <|
    BS.sq (pc' := 32) (s_bipush 29 (by decide +kernel) dX13_fillRest_30) <|
    BS.sq (pc' := 33) (s_iconst 2 (by decide +kernel) dX13_fillRest_32) <|
    BS.sq (pc' := 35) (s_bipush 10 (by decide +kernel) dX13_fillRest_33) <|
    BS.sq (pc' := 36) (s_iconst 0 (by decide +kernel) dX13_fillRest_35) <|
    BS.sq (pc' := 38) (s_bipush 106 (by decide +kernel) dX13_fillRest_36) <|
    BS.sq (pc' := 40) (s_bipush 9 (by decide +kernel) dX13_fillRest_38) <|
    BS.sq (pc' := 41) (s_iconst 2 (by decide +kernel) dX13_fillRest_40) <|
    BS.sq (pc' := 44) (s_callV 7 15 kc15 (ok_X13_row l) kGood kw442 kw443 kw444 kw315 kw441 (by decide +kernel) (by decide) (by decide) dX13_fillRest_41) <|
    BS.sq (pc' := 45) (s_aload_n (k := 0) 0 rfl dX13_fillRest_44) <|
    BS.sq (pc' := 47) (s_bipush 29 (by decide +kernel) dX13_fillRest_45) <|
    BS.sq (pc' := 48) (s_iconst 2 (by decide +kernel) dX13_fillRest_47) <|
    BS.sq (pc' := 50) (s_bipush 8 (by decide +kernel) dX13_fillRest_48) <|
    BS.sq (pc' := 51) (s_iconst 0 (by decide +kernel) dX13_fillRest_50) <|
    BS.sq (pc' := 54) (s_sipush 255 (by decide +kernel) dX13_fillRest_51) <|
    BS.sq (pc' := 56) (s_bipush 6 (by decide +kernel) dX13_fillRest_54) <|
    BS.sq (pc' := 57) (s_iconst 0 (by decide +kernel) dX13_fillRest_56) <|
    BS.sq (pc' := 60) (s_callV 7 15 kc15 (ok_X13_row l) kGood kw442 kw443 kw444 kw315 kw441 (by decide +kernel) (by decide) (by decide) dX13_fillRest_57) <|
    BS.sq (pc' := 61) (s_aload_n (k := 0) 0 rfl dX13_fillRest_60) <|
    BS.sq (pc' := 63) (s_bipush 30 (by decide +kernel) dX13_fillRest_61) <|
    BS.sq (pc' := 64) (s_iconst 2 (by decide +kernel) dX13_fillRest_63) <|
    BS.sq (pc' := 65) (s_iconst 5 (by decide +kernel) dX13_fillRest_64) <|
    BS.sq (pc' := 66) (s_iconst 0 (by decide +kernel) dX13_fillRest_65) <|
    BS.sq (pc' := 68) (s_bipush 88 (by decide +kernel) dX13_fillRest_66) <|
    BS.sq (pc' := 70) (s_bipush 9 (by decide +kernel) dX13_fillRest_68) <|
    BS.sq (pc' := 71) (s_iconst 0 (by decide +kernel) dX13_fillRest_70) <|
    BS.sq (pc' := 74) (s_callV 7 15 kc15 (ok_X13_row l) kGood kw442 kw443 kw444 kw315 kw441 (by decide +kernel) (by decide) (by decide) dX13_fillRest_71) <|
    BS.sq (pc' := 75) (s_aload_n (k := 0) 0 rfl dX13_fillRest_74) <|
    BS.sq (pc' := 77) (s_bipush 30 (by decide +kernel) dX13_fillRest_75) <|
    BS.sq (pc' := 78) (s_iconst 2 (by decide +kernel) dX13_fillRest_77) <|
    BS.sq (pc' := 80) (s_bipush 8 (by decide +kernel) dX13_fillRest_78) <|
    BS.sq (pc' := 81) (s_iconst 0 (by decide +kernel) dX13_fillRest_80) <|
    BS.sq (pc' := 84) (s_sipush 143 (by decide +kernel) dX13_fillRest_81) <|
    BS.sq (pc' := 85) (s_iconst 0 (by decide +kernel) dX13_fillRest_84) <|
    BS.sq (pc' := 86) (s_iconst 0 (by decide +kernel) dX13_fillRest_85) <|
    BS.sq (pc' := 89) (s_callV 7 15 kc15 (ok_X13_row l) kGood kw442 kw443 kw444 kw315 kw441 (by decide +kernel) (by decide) (by decide) dX13_fillRest_86) <|
    BS.sq (pc' := 90) (s_aload_n (k := 0) 0 rfl dX13_fillRest_89) <|
    BS.sq (pc' := 92) (s_bipush 31 (by decide +kernel) dX13_fillRest_90) <|
    BS.sq (pc' := 93) (s_iconst 4 (by decide +kernel) dX13_fillRest_92) <|
    BS.sq (pc' := 95) (s_bipush 8 (by decide +kernel) dX13_fillRest_93) <|
    BS.sq (pc' := 96) (s_iconst 0 (by decide +kernel) dX13_fillRest_95) <|
    BS.sq (pc' := 99) (s_sipush 255 (by decide +kernel) dX13_fillRest_96) <|
    BS.go rfl) <|
  AllB.c (pb := 99) (
    BS.sq (pc' := 100) (s_iconst 4 (by decide +kernel) dX13_fillRest_99) <|
    BS.sq (pc' := 101) (s_iconst 0 (by decide +kernel) dX13_fillRest_100) <|
    BS.sq (pc' := 104) (s_callV 7 15 kc15 (ok_X13_row l) kGood kw442 kw443 kw444 kw315 kw441 (by decide +kernel) (by decide) (by decide) dX13_fillRest_101) <|
    BS.sq (pc' := 105) (s_aload_n (k := 0) 0 rfl dX13_fillRest_104) <|
    BS.sq (pc' := 107) (s_bipush 32 (by decide +kernel) dX13_fillRest_105) <|
    BS.sq (pc' := 108) (s_iconst 4 (by decide +kernel) dX13_fillRest_107) <|
    BS.sq (pc' := 110) (s_bipush 8 (by decide +kernel) dX13_fillRest_108) <|
    BS.sq (pc' := 111) (s_iconst 0 (by decide +kernel) dX13_fillRest_110) <|
    BS.sq (pc' := 114) (s_sipush 255 (by decide +kernel) dX13_fillRest_111) <|
    BS.sq (pc' := 115) (s_iconst 2 (by decide +kernel) dX13_fillRest_114) <|
    BS.sq (pc' := 116) (s_iconst 0 (by decide +kernel) dX13_fillRest_115) <|
    BS.sq (pc' := 119) (s_callV 7 15 kc15 (ok_X13_row l) kGood kw442 kw443 kw444 kw315 kw441 (by decide +kernel) (by decide) (by decide) dX13_fillRest_116) <|
    BS.sq (pc' := 120) (s_aload_n (k := 0) 0 rfl dX13_fillRest_119) <|
    BS.sq (pc' := 122) (s_bipush 33 (by decide +kernel) dX13_fillRest_120) <|
    BS.sq (pc' := 123) (s_iconst 4 (by decide +kernel) dX13_fillRest_122) <|
    BS.sq (pc' := 124) (s_iconst 0 (by decide +kernel) dX13_fillRest_123) <|
    BS.sq (pc' := 125) (s_iconst 0 (by decide +kernel) dX13_fillRest_124) <|
    BS.sq (pc' := 128) (s_sipush 195 (by decide +kernel) dX13_fillRest_125) <|
    BS.sq (pc' := 130) (s_bipush 9 (by decide +kernel) dX13_fillRest_128) <|
    BS.sq (pc' := 131) (s_iconst 0 (by decide +kernel) dX13_fillRest_130) <|
    BS.sq (pc' := 134) (s_callV 7 15 kc15 (ok_X13_row l) kGood kw442 kw443 kw444 kw315 kw441 (by decide +kernel) (by decide) (by decide) dX13_fillRest_131) <|
    BS.sq (pc' := 135) (s_aload_n (k := 0) 0 rfl dX13_fillRest_134) <|
    BS.sq (pc' := 137) (s_bipush 33 (by decide +kernel) dX13_fillRest_135) <|
    BS.sq (pc' := 138) (s_iconst 4 (by decide +kernel) dX13_fillRest_137) <|
    BS.sq (pc' := 140) (s_bipush 10 (by decide +kernel) dX13_fillRest_138) <|
    BS.sq (pc' := 141) (s_iconst 0 (by decide +kernel) dX13_fillRest_140) <|
    BS.sq (pc' := 144) (s_sipush 194 (by decide +kernel) dX13_fillRest_141) <|
    BS.sq (pc' := 146) (s_bipush 9 (by decide +kernel) dX13_fillRest_144) <|
    BS.sq (pc' := 147) (s_iconst 5 (by decide +kernel) dX13_fillRest_146) <|
    BS.sq (pc' := 150) (s_callV 7 15 kc15 (ok_X13_row l) kGood kw442 kw443 kw444 kw315 kw441 (by decide +kernel) (by decide) (by decide) dX13_fillRest_147) <|
    BS.sq (pc' := 151) (s_aload_n (k := 0) 0 rfl dX13_fillRest_150) <|
    BS.sq (pc' := 153) (s_bipush 35 (by decide +kernel) dX13_fillRest_151) <|
    BS.sq (pc' := 154) (s_iconst 5 (by decide +kernel) dX13_fillRest_153) <|
    BS.sq (pc' := 156) (s_bipush 8 (by decide +kernel) dX13_fillRest_154) <|
    BS.sq (pc' := 158) (s_bipush 15 (by decide +kernel) dX13_fillRest_156) <|
    BS.sq (pc' := 161) (s_sipush 144 (by decide +kernel) dX13_fillRest_158) <|
    BS.sq (pc' := 163) (s_bipush 8 (by decide +kernel) dX13_fillRest_161) <|
    BS.sq (pc' := 164) (s_iconst 0 (by decide +kernel) dX13_fillRest_163) <|
    BS.sq (pc' := 167) (s_callV 7 15 kc15 (ok_X13_row l) kGood kw442 kw443 kw444 kw315 kw441 (by decide +kernel) (by decide) (by decide) dX13_fillRest_164) <|
    BS.sq (pc' := 168) (s_aload_n (k := 0) 0 rfl dX13_fillRest_167) <|
    BS.sq (pc' := 170) (s_bipush 36 (by decide +kernel) dX13_fillRest_168) <|
    BS.sq (pc' := 171) (s_iconst 1 (by decide +kernel) dX13_fillRest_170) <|
    BS.sq (pc' := 172) (s_iconst 2 (by decide +kernel) dX13_fillRest_171) <|
    BS.sq (pc' := 174) (s_bipush 15 (by decide +kernel) dX13_fillRest_172) <|
    BS.sq (pc' := 176) (s_bipush 64 (by decide +kernel) dX13_fillRest_174) <|
    BS.sq (pc' := 178) (s_bipush 9 (by decide +kernel) dX13_fillRest_176) <|
    BS.sq (pc' := 179) (s_iconst 0 (by decide +kernel) dX13_fillRest_178) <|
    BS.sq (pc' := 182) (s_callV 7 15 kc15 (ok_X13_row l) kGood kw442 kw443 kw444 kw315 kw441 (by decide +kernel) (by decide) (by decide) dX13_fillRest_179) <|
    BS.sq (pc' := 183) (s_aload_n (k := 0) 0 rfl dX13_fillRest_182) <|
    BS.sq (pc' := 185) (s_bipush 37 (by decide +kernel) dX13_fillRest_183) <|
    BS.sq (pc' := 186) (s_iconst 1 (by decide +kernel) dX13_fillRest_185) <|
    BS.sq (pc' := 187) (s_iconst 0 (by decide +kernel) dX13_fillRest_186) <|
    BS.sq (pc' := 188) (s_iconst 0 (by decide +kernel) dX13_fillRest_187) <|
    BS.sq (pc' := 191) (s_sipush 153 (by decide +kernel) dX13_fillRest_188) <|
    BS.sq (pc' := 193) (s_bipush 9 (by decide +kernel) dX13_fillRest_191) <|
    BS.sq (pc' := 194) (s_iconst 0 (by decide +kernel) dX13_fillRest_193) <|
    BS.sq (pc' := 197) (s_callV 7 15 kc15 (ok_X13_row l) kGood kw442 kw443 kw444 kw315 kw441 (by decide +kernel) (by decide) (by decide) dX13_fillRest_194) <|
    BS.sq (pc' := 198) (s_aload_n (k := 0) 0 rfl dX13_fillRest_197) <|
    BS.sq (pc' := 200) (s_bipush 38 (by decide +kernel) dX13_fillRest_198) <|
    BS.sq (pc' := 201) (s_iconst 1 (by decide +kernel) dX13_fillRest_200) <|
    BS.go rfl) <|
  AllB.c (pb := 201) (
    BS.sq (pc' := 202) (s_iconst 0 (by decide +kernel) dX13_fillRest_201) <|
    BS.sq (pc' := 203) (s_iconst 0 (by decide +kernel) dX13_fillRest_202) <|
    BS.sq (pc' := 206) (s_sipush 152 (by decide +kernel) dX13_fillRest_203) <|
    BS.sq (pc' := 208) (s_bipush 9 (by decide +kernel) dX13_fillRest_206) <|
    BS.sq (pc' := 209) (s_iconst 0 (by decide +kernel) dX13_fillRest_208) <|
    BS.sq (pc' := 212) (s_callV 7 15 kc15 (ok_X13_row l) kGood kw442 kw443 kw444 kw315 kw441 (by decide +kernel) (by decide) (by decide) dX13_fillRest_209) <|
    BS.sq (pc' := 213) (s_aload_n (k := 0) 0 rfl dX13_fillRest_212) <|
    BS.sq (pc' := 215) (s_bipush 39 (by decide +kernel) dX13_fillRest_213) <|
    BS.sq (pc' := 216) (s_iconst 4 (by decide +kernel) dX13_fillRest_215) <|
    BS.sq (pc' := 217) (s_iconst 0 (by decide +kernel) dX13_fillRest_216) <|
    BS.sq (pc' := 218) (s_iconst 0 (by decide +kernel) dX13_fillRest_217) <|
    BS.sq (pc' := 221) (s_sipush 144 (by decide +kernel) dX13_fillRest_218) <|
    BS.sq (pc' := 223) (s_bipush 9 (by decide +kernel) dX13_fillRest_221) <|
    BS.sq (pc' := 224) (s_iconst 0 (by decide +kernel) dX13_fillRest_223) <|
    BS.sq (pc' := 227) (s_callV 7 15 kc15 (ok_X13_row l) kGood kw442 kw443 kw444 kw315 kw441 (by decide +kernel) (by decide) (by decide) dX13_fillRest_224) <|
    BS.sq (pc' := 228) (s_aload_n (k := 0) 0 rfl dX13_fillRest_227) <|
    BS.sq (pc' := 230) (s_bipush 40 (by decide +kernel) dX13_fillRest_228) <|
    BS.sq (pc' := 231) (s_iconst 4 (by decide +kernel) dX13_fillRest_230) <|
    BS.sq (pc' := 232) (s_iconst 0 (by decide +kernel) dX13_fillRest_231) <|
    BS.sq (pc' := 233) (s_iconst 0 (by decide +kernel) dX13_fillRest_232) <|
    BS.sq (pc' := 236) (s_sipush 204 (by decide +kernel) dX13_fillRest_233) <|
    BS.sq (pc' := 238) (s_bipush 9 (by decide +kernel) dX13_fillRest_236) <|
    BS.sq (pc' := 239) (s_iconst 0 (by decide +kernel) dX13_fillRest_238) <|
    BS.sq (pc' := 242) (s_callV 7 15 kc15 (ok_X13_row l) kGood kw442 kw443 kw444 kw315 kw441 (by decide +kernel) (by decide) (by decide) dX13_fillRest_239) <|
    BS.sq (pc' := 243) (s_aload_n (k := 0) 0 rfl dX13_fillRest_242) <|
    BS.sq (pc' := 245) (s_bipush 41 (by decide +kernel) dX13_fillRest_243) <|
    BS.sq (pc' := 246) (s_iconst 4 (by decide +kernel) dX13_fillRest_245) <|
    BS.sq (pc' := 247) (s_iconst 0 (by decide +kernel) dX13_fillRest_246) <|
    BS.sq (pc' := 249) (s_bipush 15 (by decide +kernel) dX13_fillRest_247) <|
    BS.sq (pc' := 251) (s_bipush 11 (by decide +kernel) dX13_fillRest_249) <|
    BS.sq (pc' := 253) (s_bipush 9 (by decide +kernel) dX13_fillRest_251) <|
    BS.sq (pc' := 254) (s_iconst 0 (by decide +kernel) dX13_fillRest_253) <|
    BS.sq (pc' := 257) (s_callV 7 15 kc15 (ok_X13_row l) kGood kw442 kw443 kw444 kw315 kw441 (by decide +kernel) (by decide) (by decide) dX13_fillRest_254) <|
    BS.sq (pc' := 258) (s_aload_n (k := 0) 0 rfl dX13_fillRest_257) <|
    BS.sq (pc' := 260) (s_bipush 42 (by decide +kernel) dX13_fillRest_258) <|
    BS.sq (pc' := 261) (s_iconst 4 (by decide +kernel) dX13_fillRest_260) <|
    BS.sq (pc' := 262) (s_iconst 0 (by decide +kernel) dX13_fillRest_261) <|
    BS.sq (pc' := 264) (s_bipush 15 (by decide +kernel) dX13_fillRest_262) <|
    BS.sq (pc' := 265) (s_iconst 5 (by decide +kernel) dX13_fillRest_264) <|
    BS.sq (pc' := 267) (s_bipush 9 (by decide +kernel) dX13_fillRest_265) <|
    BS.sq (pc' := 268) (s_iconst 0 (by decide +kernel) dX13_fillRest_267) <|
    BS.sq (pc' := 271) (s_callV 7 15 kc15 (ok_X13_row l) kGood kw442 kw443 kw444 kw315 kw441 (by decide +kernel) (by decide) (by decide) dX13_fillRest_268) <|
    BS.sq (pc' := 272) (s_aload_n (k := 0) 0 rfl dX13_fillRest_271) <|
    BS.sq (pc' := 274) (s_bipush 43 (by decide +kernel) dX13_fillRest_272) <|
    BS.sq (pc' := 275) (s_iconst 4 (by decide +kernel) dX13_fillRest_274) <|
    BS.sq (pc' := 276) (s_iconst 0 (by decide +kernel) dX13_fillRest_275) <|
    BS.sq (pc' := 277) (s_iconst 0 (by decide +kernel) dX13_fillRest_276) <|
    BS.sq (pc' := 280) (s_sipush 201 (by decide +kernel) dX13_fillRest_277) <|
    BS.sq (pc' := 282) (s_bipush 9 (by decide +kernel) dX13_fillRest_280) <|
    BS.sq (pc' := 283) (s_iconst 0 (by decide +kernel) dX13_fillRest_282) <|
    BS.sq (pc' := 286) (s_callV 7 15 kc15 (ok_X13_row l) kGood kw442 kw443 kw444 kw315 kw441 (by decide +kernel) (by decide) (by decide) dX13_fillRest_283) <|
    BS.sq (pc' := 287) (s_aload_n (k := 0) 0 rfl dX13_fillRest_286) <|
    BS.sq (pc' := 289) (s_bipush 44 (by decide +kernel) dX13_fillRest_287) <|
    BS.sq (pc' := 290) (s_iconst 1 (by decide +kernel) dX13_fillRest_289) <|
    BS.sq (pc' := 291) (s_iconst 2 (by decide +kernel) dX13_fillRest_290) <|
    BS.sq (pc' := 293) (s_bipush 15 (by decide +kernel) dX13_fillRest_291) <|
    BS.sq (pc' := 296) (s_sipush 188 (by decide +kernel) dX13_fillRest_293) <|
    BS.sq (pc' := 298) (s_bipush 9 (by decide +kernel) dX13_fillRest_296) <|
    BS.sq (pc' := 299) (s_iconst 0 (by decide +kernel) dX13_fillRest_298) <|
    BS.sq (pc' := 302) (s_callV 7 15 kc15 (ok_X13_row l) kGood kw442 kw443 kw444 kw315 kw441 (by decide +kernel) (by decide) (by decide) dX13_fillRest_299) <|
    BS.go rfl) <|
  AllB.c (pb := 302) (
    BS.sq (pc' := 303) (s_aload_n (k := 0) 0 rfl dX13_fillRest_302) <|
    BS.sq (pc' := 305) (s_bipush 45 (by decide +kernel) dX13_fillRest_303) <|
    BS.sq (pc' := 306) (s_iconst 1 (by decide +kernel) dX13_fillRest_305) <|
    BS.sq (pc' := 307) (s_iconst 2 (by decide +kernel) dX13_fillRest_306) <|
    BS.sq (pc' := 309) (s_bipush 15 (by decide +kernel) dX13_fillRest_307) <|
    BS.sq (pc' := 312) (s_sipush 189 (by decide +kernel) dX13_fillRest_309) <|
    BS.sq (pc' := 314) (s_bipush 9 (by decide +kernel) dX13_fillRest_312) <|
    BS.sq (pc' := 315) (s_iconst 0 (by decide +kernel) dX13_fillRest_314) <|
    BS.sq (pc' := 318) (s_callV 7 15 kc15 (ok_X13_row l) kGood kw442 kw443 kw444 kw315 kw441 (by decide +kernel) (by decide) (by decide) dX13_fillRest_315) <|
    BS.sq (pc' := 319) (s_aload_n (k := 0) 0 rfl dX13_fillRest_318) <|
    BS.sq (pc' := 321) (s_bipush 46 (by decide +kernel) dX13_fillRest_319) <|
    BS.sq (pc' := 322) (s_iconst 1 (by decide +kernel) dX13_fillRest_321) <|
    BS.sq (pc' := 323) (s_iconst 5 (by decide +kernel) dX13_fillRest_322) <|
    BS.sq (pc' := 325) (s_bipush 15 (by decide +kernel) dX13_fillRest_323) <|
    BS.sq (pc' := 328) (s_sipush 200 (by decide +kernel) dX13_fillRest_325) <|
    BS.sq (pc' := 330) (s_bipush 9 (by decide +kernel) dX13_fillRest_328) <|
    BS.sq (pc' := 331) (s_iconst 0 (by decide +kernel) dX13_fillRest_330) <|
    BS.sq (pc' := 334) (s_callV 7 15 kc15 (ok_X13_row l) kGood kw442 kw443 kw444 kw315 kw441 (by decide +kernel) (by decide) (by decide) dX13_fillRest_331) <|
    BS.sq (pc' := 335) (s_aload_n (k := 0) 0 rfl dX13_fillRest_334) <|
    BS.sq (pc' := 337) (s_bipush 47 (by decide +kernel) dX13_fillRest_335) <|
    BS.sq (pc' := 338) (s_iconst 1 (by decide +kernel) dX13_fillRest_337) <|
    BS.sq (pc' := 339) (s_iconst 1 (by decide +kernel) dX13_fillRest_338) <|
    BS.sq (pc' := 341) (s_bipush 15 (by decide +kernel) dX13_fillRest_339) <|
    BS.sq (pc' := 344) (s_sipush 163 (by decide +kernel) dX13_fillRest_341) <|
    BS.sq (pc' := 346) (s_bipush 9 (by decide +kernel) dX13_fillRest_344) <|
    BS.sq (pc' := 347) (s_iconst 0 (by decide +kernel) dX13_fillRest_346) <|
    BS.sq (pc' := 350) (s_callV 7 15 kc15 (ok_X13_row l) kGood kw442 kw443 kw444 kw315 kw441 (by decide +kernel) (by decide) (by decide) dX13_fillRest_347) <|
    BS.sq (pc' := 351) (s_aload_n (k := 0) 0 rfl dX13_fillRest_350) <|
    BS.sq (pc' := 353) (s_bipush 47 (by decide +kernel) dX13_fillRest_351) <|
    BS.sq (pc' := 354) (s_iconst 1 (by decide +kernel) dX13_fillRest_353) <|
    BS.sq (pc' := 355) (s_iconst 4 (by decide +kernel) dX13_fillRest_354) <|
    BS.sq (pc' := 357) (s_bipush 15 (by decide +kernel) dX13_fillRest_355) <|
    BS.sq (pc' := 360) (s_sipush 186 (by decide +kernel) dX13_fillRest_357) <|
    BS.sq (pc' := 361) (s_iconst 4 (by decide +kernel) dX13_fillRest_360) <|
    BS.sq (pc' := 363) (s_bipush 6 (by decide +kernel) dX13_fillRest_361) <|
    BS.sq (pc' := 366) (s_callV 7 15 kc15 (ok_X13_row l) kGood kw442 kw443 kw444 kw315 kw441 (by decide +kernel) (by decide) (by decide) dX13_fillRest_363) <|
    BS.sq (pc' := 367) (s_aload_n (k := 0) 0 rfl dX13_fillRest_366) <|
    BS.sq (pc' := 369) (s_bipush 48 (by decide +kernel) dX13_fillRest_367) <|
    BS.sq (pc' := 370) (s_iconst 0 (by decide +kernel) dX13_fillRest_369) <|
    BS.sq (pc' := 371) (s_iconst 1 (by decide +kernel) dX13_fillRest_370) <|
    BS.sq (pc' := 373) (s_bipush 15 (by decide +kernel) dX13_fillRest_371) <|
    BS.sq (pc' := 376) (s_sipush 192 (by decide +kernel) dX13_fillRest_373) <|
    BS.sq (pc' := 378) (s_bipush 9 (by decide +kernel) dX13_fillRest_376) <|
    BS.sq (pc' := 379) (s_iconst 0 (by decide +kernel) dX13_fillRest_378) <|
    BS.sq (pc' := 382) (s_callV 7 15 kc15 (ok_X13_row l) kGood kw442 kw443 kw444 kw315 kw441 (by decide +kernel) (by decide) (by decide) dX13_fillRest_379) <|
    BS.sq (pc' := 383) (s_aload_n (k := 0) 0 rfl dX13_fillRest_382) <|
    BS.sq (pc' := 385) (s_bipush 49 (by decide +kernel) dX13_fillRest_383) <|
    BS.sq (pc' := 386) (s_iconst 0 (by decide +kernel) dX13_fillRest_385) <|
    BS.sq (pc' := 387) (s_iconst 1 (by decide +kernel) dX13_fillRest_386) <|
    BS.sq (pc' := 389) (s_bipush 15 (by decide +kernel) dX13_fillRest_387) <|
    BS.sq (pc' := 392) (s_sipush 176 (by decide +kernel) dX13_fillRest_389) <|
    BS.sq (pc' := 394) (s_bipush 9 (by decide +kernel) dX13_fillRest_392) <|
    BS.sq (pc' := 395) (s_iconst 0 (by decide +kernel) dX13_fillRest_394) <|
    BS.sq (pc' := 398) (s_callV 7 15 kc15 (ok_X13_row l) kGood kw442 kw443 kw444 kw315 kw441 (by decide +kernel) (by decide) (by decide) dX13_fillRest_395) <|
    BS.sq (pc' := 399) (s_iconst 0 (by decide +kernel) dX13_fillRest_398) <|
    BS.sq (pc' := 400) (s_istore_n (k := 1) 1 rfl (by decide) dX13_fillRest_399) <|
    BS.go rfl) <|
  AllB.c (pb := 400) (
    BS.sq (pc' := 401) (s_iload_n (k := 1) 1 rfl dX13_fillRest_400) <|
    BS.sq (pc' := 402) (s_iconst 4 (by decide +kernel) dX13_fillRest_401) <|
    s_icmp_ge rfl rfl (by decide) dX13_fillRest_402) <|
  AllB.c (pb := 405) (
    BS.sq (pc' := 406) (s_aload_n (k := 0) 0 rfl dX13_fillRest_405) <|
    BS.sq (pc' := 408) (s_bipush 50 (by decide +kernel) dX13_fillRest_406) <|
    BS.sq (pc' := 409) (s_iload_n (k := 1) 1 rfl dX13_fillRest_408) <|
    BS.sq (pc' := 410) (s_iadd dX13_fillRest_409) <|
    BS.sq (pc' := 411) (s_iconst 0 (by decide +kernel) dX13_fillRest_410) <|
    BS.sq (pc' := 412) (s_iconst 0 (by decide +kernel) dX13_fillRest_411) <|
    BS.sq (pc' := 413) (s_iload_n (k := 1) 1 rfl dX13_fillRest_412) <|
    BS.sq (pc' := 414) (s_iconst 2 (by decide +kernel) dX13_fillRest_413) <|
    s_icmp_ge rfl rfl (by decide) dX13_fillRest_414) <|
  AllB.c (pb := 417) (
    BS.sq (pc' := 418) (s_iconst 0 (by decide +kernel) dX13_fillRest_417) <|
    s_goto rfl (by decide) dX13_fillRest_418) <|
  AllB.c (pb := 421) (
    BS.sq (pc' := 424) (s_sipush 243 (by decide +kernel) dX13_fillRest_421) <|
    BS.go rfl) <|
  AllB.c (pb := 424) (
    BS.sq (pc' := 425) (s_iload_n (k := 1) 1 rfl dX13_fillRest_424) <|
    BS.sq (pc' := 426) (s_iconst 2 (by decide +kernel) dX13_fillRest_425) <|
    BS.sq (pc' := 427) (s_irem dX13_fillRest_426) <|
    s_if_ne rfl rfl (by decide) dX13_fillRest_427) <|
  AllB.c (pb := 430) (
    BS.sq (pc' := 433) (s_sipush 164 (by decide +kernel) dX13_fillRest_430) <|
    s_goto rfl (by decide) dX13_fillRest_433) <|
  AllB.c (pb := 436) (
    BS.sq (pc' := 439) (s_sipush 170 (by decide +kernel) dX13_fillRest_436) <|
    BS.go rfl) <|
  AllB.c (pb := 439) (
    BS.sq (pc' := 441) (s_bipush 9 (by decide +kernel) dX13_fillRest_439) <|
    BS.sq (pc' := 442) (s_iconst 0 (by decide +kernel) dX13_fillRest_441) <|
    BS.sq (pc' := 445) (s_callV 7 15 kc15 (ok_X13_row l) kGood kw442 kw443 kw444 kw315 kw441 (by decide +kernel) (by decide) (by decide) dX13_fillRest_442) <|
    BS.sq (pc' := 448) (s_iinc 1 1 (1) (by decide +kernel) (by decide) dX13_fillRest_445) <|
    s_goto rfl (by decide) dX13_fillRest_448) <|
  AllB.c (pb := 451) (
    s_ret rfl dX13_fillRest_451) <|
  AllB.n)
-- NativeWorksModel.fillTable()V
noncomputable def bs_X13_fillTable : List rBl := [sq (h_v (.inl 0)) (sq (h_st isI 1) (t_go 1)),
  sq (h_ld isI 1) (sq (h_v (.inl 8)) (t_icmp (fun a b => rNot (rLt a b)) 3 2)),
  sq (h_ld isR 0) (sq (h_ld isI 1) (sq (h_v (.inl 0)) (sq (h_v (.inl 1)) (sq (h_v (.inl 0)) (sq (h_v (.inl 8)) (sq (h_ld isI 1) (sq (h_bin (fun _ _ => true) rMul) (sq (h_v (.inl 9)) (sq (h_v (.inl 0)) (sq (h_call 8 (rRecv rFo 15) ev_X13_row) (sq (h_ld isR 0) (sq (h_ld isI 1) (sq (h_v (.inl 0)) (sq (h_v (.inl 2)) (sq (h_v (.inl 0)) (sq (h_v (.inl 8)) (sq (h_ld isI 1) (sq (h_bin (fun _ _ => true) rMul) (sq (h_v (.inl 2)) (sq (h_bin (fun _ _ => true) rAdd) (sq (h_v (.inl 9)) (sq (h_v (.inl 0)) (sq (h_call 8 (rRecv rFo 15) ev_X13_row) (sq (h_ld isR 0) (sq (h_ld isI 1) (sq (h_v (.inl 0)) (sq (h_v (.inl 3)) (sq (h_v (.inl 0)) (sq (h_v (.inl 8)) (sq (h_ld isI 1) (sq (h_bin (fun _ _ => true) rMul) (sq (h_v (.inl 4)) (sq (h_bin (fun _ _ => true) rAdd) (sq (h_v (.inl 9)) (sq (h_v (.inl 1)) (sq (h_call 8 (rRecv rFo 15) ev_X13_row) (sq (h_ld isR 0) (sq (h_ld isI 1) (sq (h_v (.inl 0)) (sq (h_v (.inl 4)) (sq (h_v (.inl 0)) (sq (h_v (.inl 128)) (sq (h_ld isI 1) (sq (h_v (.inl 1)) (sq (h_call 8 (rRecv rFo 15) ev_X13_row) (sq (h_ld isR 0) (sq (h_ld isI 1) (sq (h_v (.inl 1)) (sq (h_v (.inl 4)) (sq (h_v (.inl 0)) (sq (h_v (.inl 131)) (sq (h_ld isI 1) (sq (h_v (.inl 2)) (sq (h_call 8 (rRecv rFo 15) ev_X13_row) (sq (h_inc 1 1) (t_go 1)))))))))))))))))))))))))))))))))))))))))))))))))))))))),
  sq (h_ld isR 0) (sq (h_v (.inl 8)) (sq (h_v (.inl 0)) (sq (h_v (.inl 1)) (sq (h_v (.inl 0)) (sq (h_v (.inl 136)) (sq (h_v (.inl 9)) (sq (h_v (.inl 0)) (sq (h_call 8 (rRecv rFo 15) ev_X13_row) (sq (h_ld isR 0) (sq (h_v (.inl 8)) (sq (h_v (.inl 0)) (sq (h_v (.inl 2)) (sq (h_v (.inl 0)) (sq (h_v (.inl 138)) (sq (h_v (.inl 9)) (sq (h_v (.inl 0)) (sq (h_call 8 (rRecv rFo 15) ev_X13_row) (sq (h_ld isR 0) (sq (h_v (.inl 8)) (sq (h_v (.inl 0)) (sq (h_v (.inl 4)) (sq (h_v (.inl 0)) (sq (h_v (.inl 198)) (sq (h_v (.inl 0)) (sq (h_v (.inl 1)) (sq (h_call 8 (rRecv rFo 15) ev_X13_row) (sq (h_ld isR 0) (sq (h_v (.inl 8)) (sq (h_v (.inl 5)) (sq (h_v (.inl 6)) (sq (h_v (.inl 0)) (sq (h_v (.inl 176)) (sq (h_v (.inl 9)) (sq (h_v (.inl 2)) (sq (h_call 8 (rRecv rFo 15) ev_X13_row) (sq (h_ld isR 0) (sq (h_v (.inl 8)) (sq (h_v (.inl 6)) (sq (h_v (.inl 6)) (sq (h_v (.inl 0)) (sq (h_v (.inl 184)) (sq (h_v (.inl 9)) (sq (h_v (.inl 3)) (sq (h_call 8 (rRecv rFo 15) ev_X13_row) (sq (h_ld isR 0) (sq (h_v (.inl 8)) (sq (h_v (.inl 7)) (sq (h_v (.inl 6)) (sq (h_v (.inl 0)) (sq (h_v (.inl 184)) (sq (h_v (.inl 9)) (sq (h_v (.inl 4)) (sq (h_call 8 (rRecv rFo 15) ev_X13_row) (sq (h_ld isR 0) (sq (h_v (.inl 9)) (sq (h_v (.inl 0)) (sq (h_v (.inl 1)) (sq (h_v (.inl 0)) (sq (h_v (.inl 132)) (t_go 4)))))))))))))))))))))))))))))))))))))))))))))))))))))))))))),
  sq (h_v (.inl 9)) (sq (h_v (.inl 0)) (sq (h_call 8 (rRecv rFo 15) ev_X13_row) (sq (h_ld isR 0) (sq (h_v (.inl 9)) (sq (h_v (.inl 0)) (sq (h_v (.inl 3)) (sq (h_v (.inl 0)) (sq (h_v (.inl 168)) (sq (h_v (.inl 9)) (sq (h_v (.inl 1)) (sq (h_call 8 (rRecv rFo 15) ev_X13_row) (sq (h_ld isR 0) (sq (h_v (.inl 9)) (sq (h_v (.inl 0)) (sq (h_v (.inl 4)) (sq (h_v (.inl 0)) (sq (h_v (.inl 246)) (sq (h_v (.inl 0)) (sq (h_v (.inl 1)) (sq (h_call 8 (rRecv rFo 15) ev_X13_row) (sq (h_ld isR 0) (sq (h_v (.inl 10)) (sq (h_v (.inl 0)) (sq (h_v (.inl 1)) (sq (h_v (.inl 0)) (sq (h_v (.inl 134)) (sq (h_v (.inl 9)) (sq (h_v (.inl 0)) (sq (h_call 8 (rRecv rFo 15) ev_X13_row) (sq (h_ld isR 0) (sq (h_v (.inl 11)) (sq (h_v (.inl 1)) (sq (h_v (.inl 7)) (sq (h_v (.inl 0)) (sq (h_v (.inl 141)) (sq (h_v (.inl 9)) (sq (h_v (.inl 0)) (sq (h_call 8 (rRecv rFo 15) ev_X13_row) (sq (h_ld isR 0) (sq (h_v (.inl 12)) (sq (h_v (.inl 1)) (sq (h_v (.inl 2)) (sq (h_v (.inl 15)) (sq (h_v (.inl 182)) (sq (h_v (.inl 9)) (sq (h_v (.inl 0)) (sq (h_call 8 (rRecv rFo 15) ev_X13_row) (sq (h_ld isR 0) (sq (h_v (.inl 13)) (sq (h_v (.inl 1)) (sq (h_v (.inl 2)) (sq (h_v (.inl 15)) (sq (h_v (.inl 190)) (sq (h_v (.inl 9)) (sq (h_v (.inl 0)) (sq (h_call 8 (rRecv rFo 15) ev_X13_row) (sq (h_ld isR 0) (sq (h_v (.inl 14)) (sq (h_v (.inl 3)) (t_go 5)))))))))))))))))))))))))))))))))))))))))))))))))))))))))))),
  sq (h_v (.inl 2)) (sq (h_v (.inl 0)) (sq (h_v (.inl 99)) (sq (h_v (.inl 9)) (sq (h_v (.inl 0)) (sq (h_call 8 (rRecv rFo 15) ev_X13_row) (sq (h_v (.inl 2)) (sq (h_st isI 1) (t_go 6)))))))),
  sq (h_ld isI 1) (sq (h_v (.inl 8)) (t_icmp (fun a b => rNot (rLt a b)) 8 7)),
  sq (h_ld isR 0) (sq (h_v (.inl 13)) (sq (h_ld isI 1) (sq (h_bin (fun _ _ => true) rAdd) (sq (h_v (.inl 0)) (sq (h_v (.inl 8)) (sq (h_v (.inl 0)) (sq (h_v (.inl 246)) (sq (h_ld isI 1) (sq (h_v (.inl 0)) (sq (h_call 8 (rRecv rFo 15) ev_X13_row) (sq (h_inc 1 1) (t_go 6)))))))))))),
  sq (h_ld isR 0) (sq (h_v (.inl 21)) (sq (h_v (.inl 0)) (sq (h_v (.inl 8)) (sq (h_v (.inl 0)) (sq (h_v (.inl 254)) (sq (h_v (.inl 0)) (sq (h_v (.inl 0)) (sq (h_call 8 (rRecv rFo 15) ev_X13_row) (sq (h_ld isR 0) (sq (h_v (.inl 22)) (sq (h_v (.inl 0)) (sq (h_v (.inl 8)) (sq (h_v (.inl 0)) (sq (h_v (.inl 254)) (sq (h_v (.inl 1)) (sq (h_v (.inl 0)) (sq (h_call 8 (rRecv rFo 15) ev_X13_row) (sq (h_ld isR 0) (sq (h_v (.inl 23)) (sq (h_v (.inl 1)) (sq (h_v (.inl 2)) (sq (h_v (.inl 15)) (sq (h_v (.inl 175)) (sq (h_v (.inl 9)) (sq (h_v (.inl 0)) (sq (h_call 8 (rRecv rFo 15) ev_X13_row) (sq (h_ld isR 0) (sq (h_v (.inl 23)) (sq (h_v (.inl 1)) (sq (h_v (.inl 9)) (sq (h_v (.inl 0)) (sq (h_v (.inl 105)) (sq (h_v (.inl 9)) (sq (h_v (.inl 3)) (sq (h_call 8 (rRecv rFo 15) ev_X13_row) (sq (h_ld isR 0) (sq (h_v (.inl 23)) (sq (h_v (.inl 1)) (sq (h_v (.inl 9)) (sq (h_v (.inl 0)) (sq (h_v (.inl 107)) (sq (h_v (.inl 9)) (sq (h_v (.inl 2)) (sq (h_call 8 (rRecv rFo 15) ev_X13_row) (sq (h_v (.inl 0)) (sq (h_st isI 1) (t_go 9))))))))))))))))))))))))))))))))))))))))))))))),
  sq (h_ld isI 1) (sq (h_v (.inl 5)) (t_icmp (fun a b => rNot (rLt a b)) 16 10)),
  sq (h_ld isI 1) (sq (h_v (.inl 2)) (t_icmp (fun a b => rNot (rLt a b)) 12 11)),
  sq (h_ld isI 1) (t_go 15),
  sq (h_ld isI 1) (sq (h_v (.inl 4)) (t_icmp (fun a b => rNot (rLt a b)) 14 13)),
  sq (h_ld isI 1) (sq (h_v (.inl 2)) (sq (h_bin (fun _ _ => true) rAdd) (t_go 15))),
  sq (h_v (.inl 7)) (t_go 15),
  sq (h_st isI 2) (sq (h_ld isR 0) (sq (h_v (.inl 24)) (sq (h_ld isI 1) (sq (h_bin (fun _ _ => true) rAdd) (sq (h_v (.inl 0)) (sq (h_v (.inl 4)) (sq (h_v (.inl 0)) (sq (h_v (.inl 192)) (sq (h_ld isI 2) (sq (h_v (.inl 6)) (sq (h_call 8 (rRecv rFo 15) ev_X13_row) (sq (h_ld isR 0) (sq (h_v (.inl 24)) (sq (h_ld isI 1) (sq (h_bin (fun _ _ => true) rAdd) (sq (h_v (.inl 0)) (sq (h_v (.inl 11)) (sq (h_v (.inl 0)) (sq (h_v (.inl 208)) (sq (h_ld isI 2) (sq (h_v (.inl 0)) (sq (h_call 8 (rRecv rFo 15) ev_X13_row) (sq (h_ld isR 0) (sq (h_v (.inl 24)) (sq (h_ld isI 1) (sq (h_bin (fun _ _ => true) rAdd) (sq (h_v (.inl 0)) (sq (h_v (.inl 12)) (sq (h_v (.inl 0)) (sq (h_v (.inl 210)) (sq (h_ld isI 2) (sq (h_v (.inl 0)) (sq (h_call 8 (rRecv rFo 15) ev_X13_row) (sq (h_inc 1 1) (t_go 9))))))))))))))))))))))))))))))))))),
  sq (h_ld isR 0) (sq (h_call 1 (rRecv rFo 15) ev_X13_fillRest) (t_ret))]
noncomputable def ev_X13_fillTable : rEv := fun as w n => rIni 3 as (fun ls => rRun bs_X13_fillTable 100000 0 ls [] w n 0)
set_option maxRecDepth 100000 in
set_option maxHeartbeats 4000000 in
theorem ok_X13_fillTable (l : Launch) : rMet vwCl rFo rZs rRs rNs rTs l yX13_fillTable cX13_fillTable 3 ((Option.none : Option FieldType)) 2 48 ev_X13_fillTable := met_of (pcs := [0, 2, 8, 89, 192, 294, 306, 312, 335, 413, 418, 423, 427, 432, 438, 440, 498]) (by decide +kernel) rfl (fun G n0 =>
  AllB.c (pb := 0) (
    BS.sq (pc' := 1) (s_iconst 0 (by decide +kernel) dX13_fillTable_0) <|
    BS.sq (pc' := 2) (s_istore_n (k := 1) 1 rfl (by decide) dX13_fillTable_1) <|
    BS.go rfl) <|
  AllB.c (pb := 2) (
    BS.sq (pc' := 3) (s_iload_n (k := 1) 1 rfl dX13_fillTable_2) <|
    BS.sq (pc' := 5) (s_bipush 8 (by decide +kernel) dX13_fillTable_3) <|
    s_icmp_ge rfl rfl (by decide) dX13_fillTable_5) <|
  AllB.c (pb := 8) (
    BS.sq (pc' := 9) (s_aload_n (k := 0) 0 rfl dX13_fillTable_8) <|
    BS.sq (pc' := 10) (s_iload_n (k := 1) 1 rfl dX13_fillTable_9) <|
    BS.sq (pc' := 11) (s_iconst 0 (by decide +kernel) dX13_fillTable_10) <|
    BS.sq (pc' := 12) (s_iconst 1 (by decide +kernel) dX13_fillTable_11) <|
    BS.sq (pc' := 13) (s_iconst 0 (by decide +kernel) dX13_fillTable_12) <|
    BS.sq (pc' := 15) (s_bipush 8 (by decide +kernel) dX13_fillTable_13) <|
    BS.sq (pc' := 16) (s_iload_n (k := 1) 1 rfl dX13_fillTable_15) <|
    BS.sq (pc' := 17) (s_imul dX13_fillTable_16) <|
    BS.sq (pc' := 19) (s_bipush 9 (by decide +kernel) dX13_fillTable_17) <|
    BS.sq (pc' := 20) (s_iconst 0 (by decide +kernel) dX13_fillTable_19) <|
    BS.sq (pc' := 23) (s_callV 7 15 kc15 (ok_X13_row l) kGood kw442 kw443 kw444 kw315 kw441 (by decide +kernel) (by decide) (by decide) dX13_fillTable_20) <|
    BS.sq (pc' := 24) (s_aload_n (k := 0) 0 rfl dX13_fillTable_23) <|
    BS.sq (pc' := 25) (s_iload_n (k := 1) 1 rfl dX13_fillTable_24) <|
    BS.sq (pc' := 26) (s_iconst 0 (by decide +kernel) dX13_fillTable_25) <|
    BS.sq (pc' := 27) (s_iconst 2 (by decide +kernel) dX13_fillTable_26) <|
    BS.sq (pc' := 28) (s_iconst 0 (by decide +kernel) dX13_fillTable_27) <|
    BS.sq (pc' := 30) (s_bipush 8 (by decide +kernel) dX13_fillTable_28) <|
    BS.sq (pc' := 31) (s_iload_n (k := 1) 1 rfl dX13_fillTable_30) <|
    BS.sq (pc' := 32) (s_imul dX13_fillTable_31) <|
    BS.sq (pc' := 33) (s_iconst 2 (by decide +kernel) dX13_fillTable_32) <|
    BS.sq (pc' := 34) (s_iadd dX13_fillTable_33) <|
    BS.sq (pc' := 36) (s_bipush 9 (by decide +kernel) dX13_fillTable_34) <|
    BS.sq (pc' := 37) (s_iconst 0 (by decide +kernel) dX13_fillTable_36) <|
    BS.sq (pc' := 40) (s_callV 7 15 kc15 (ok_X13_row l) kGood kw442 kw443 kw444 kw315 kw441 (by decide +kernel) (by decide) (by decide) dX13_fillTable_37) <|
    BS.sq (pc' := 41) (s_aload_n (k := 0) 0 rfl dX13_fillTable_40) <|
    BS.sq (pc' := 42) (s_iload_n (k := 1) 1 rfl dX13_fillTable_41) <|
    BS.sq (pc' := 43) (s_iconst 0 (by decide +kernel) dX13_fillTable_42) <|
    BS.sq (pc' := 44) (s_iconst 3 (by decide +kernel) dX13_fillTable_43) <|
    BS.sq (pc' := 45) (s_iconst 0 (by decide +kernel) dX13_fillTable_44) <|
    BS.sq (pc' := 47) (s_bipush 8 (by decide +kernel) dX13_fillTable_45) <|
    BS.sq (pc' := 48) (s_iload_n (k := 1) 1 rfl dX13_fillTable_47) <|
    BS.sq (pc' := 49) (s_imul dX13_fillTable_48) <|
    BS.sq (pc' := 50) (s_iconst 4 (by decide +kernel) dX13_fillTable_49) <|
    BS.sq (pc' := 51) (s_iadd dX13_fillTable_50) <|
    BS.sq (pc' := 53) (s_bipush 9 (by decide +kernel) dX13_fillTable_51) <|
    BS.sq (pc' := 54) (s_iconst 1 (by decide +kernel) dX13_fillTable_53) <|
    BS.sq (pc' := 57) (s_callV 7 15 kc15 (ok_X13_row l) kGood kw442 kw443 kw444 kw315 kw441 (by decide +kernel) (by decide) (by decide) dX13_fillTable_54) <|
    BS.sq (pc' := 58) (s_aload_n (k := 0) 0 rfl dX13_fillTable_57) <|
    BS.sq (pc' := 59) (s_iload_n (k := 1) 1 rfl dX13_fillTable_58) <|
    BS.sq (pc' := 60) (s_iconst 0 (by decide +kernel) dX13_fillTable_59) <|
    BS.sq (pc' := 61) (s_iconst 4 (by decide +kernel) dX13_fillTable_60) <|
    BS.sq (pc' := 62) (s_iconst 0 (by decide +kernel) dX13_fillTable_61) <|
    BS.sq (pc' := 65) (s_sipush 128 (by decide +kernel) dX13_fillTable_62) <|
    BS.sq (pc' := 66) (s_iload_n (k := 1) 1 rfl dX13_fillTable_65) <|
    BS.sq (pc' := 67) (s_iconst 1 (by decide +kernel) dX13_fillTable_66) <|
    BS.sq (pc' := 70) (s_callV 7 15 kc15 (ok_X13_row l) kGood kw442 kw443 kw444 kw315 kw441 (by decide +kernel) (by decide) (by decide) dX13_fillTable_67) <|
    BS.sq (pc' := 71) (s_aload_n (k := 0) 0 rfl dX13_fillTable_70) <|
    BS.sq (pc' := 72) (s_iload_n (k := 1) 1 rfl dX13_fillTable_71) <|
    BS.sq (pc' := 73) (s_iconst 1 (by decide +kernel) dX13_fillTable_72) <|
    BS.sq (pc' := 74) (s_iconst 4 (by decide +kernel) dX13_fillTable_73) <|
    BS.sq (pc' := 75) (s_iconst 0 (by decide +kernel) dX13_fillTable_74) <|
    BS.sq (pc' := 78) (s_sipush 131 (by decide +kernel) dX13_fillTable_75) <|
    BS.sq (pc' := 79) (s_iload_n (k := 1) 1 rfl dX13_fillTable_78) <|
    BS.sq (pc' := 80) (s_iconst 2 (by decide +kernel) dX13_fillTable_79) <|
    BS.sq (pc' := 83) (s_callV 7 15 kc15 (ok_X13_row l) kGood kw442 kw443 kw444 kw315 kw441 (by decide +kernel) (by decide) (by decide) dX13_fillTable_80) <|
    BS.sq (pc' := 86) (s_iinc 1 1 (1) (by decide +kernel) (by decide) dX13_fillTable_83) <|
    s_goto rfl (by decide) dX13_fillTable_86) <|
  AllB.c (pb := 89) (
    BS.sq (pc' := 90) (s_aload_n (k := 0) 0 rfl dX13_fillTable_89) <|
    BS.sq (pc' := 92) (s_bipush 8 (by decide +kernel) dX13_fillTable_90) <|
    BS.sq (pc' := 93) (s_iconst 0 (by decide +kernel) dX13_fillTable_92) <|
    BS.sq (pc' := 94) (s_iconst 1 (by decide +kernel) dX13_fillTable_93) <|
    BS.sq (pc' := 95) (s_iconst 0 (by decide +kernel) dX13_fillTable_94) <|
    BS.sq (pc' := 98) (s_sipush 136 (by decide +kernel) dX13_fillTable_95) <|
    BS.sq (pc' := 100) (s_bipush 9 (by decide +kernel) dX13_fillTable_98) <|
    BS.sq (pc' := 101) (s_iconst 0 (by decide +kernel) dX13_fillTable_100) <|
    BS.sq (pc' := 104) (s_callV 7 15 kc15 (ok_X13_row l) kGood kw442 kw443 kw444 kw315 kw441 (by decide +kernel) (by decide) (by decide) dX13_fillTable_101) <|
    BS.sq (pc' := 105) (s_aload_n (k := 0) 0 rfl dX13_fillTable_104) <|
    BS.sq (pc' := 107) (s_bipush 8 (by decide +kernel) dX13_fillTable_105) <|
    BS.sq (pc' := 108) (s_iconst 0 (by decide +kernel) dX13_fillTable_107) <|
    BS.sq (pc' := 109) (s_iconst 2 (by decide +kernel) dX13_fillTable_108) <|
    BS.sq (pc' := 110) (s_iconst 0 (by decide +kernel) dX13_fillTable_109) <|
    BS.sq (pc' := 113) (s_sipush 138 (by decide +kernel) dX13_fillTable_110) <|
    BS.sq (pc' := 115) (s_bipush 9 (by decide +kernel) dX13_fillTable_113) <|
    BS.sq (pc' := 116) (s_iconst 0 (by decide +kernel) dX13_fillTable_115) <|
    BS.sq (pc' := 119) (s_callV 7 15 kc15 (ok_X13_row l) kGood kw442 kw443 kw444 kw315 kw441 (by decide +kernel) (by decide) (by decide) dX13_fillTable_116) <|
    BS.sq (pc' := 120) (s_aload_n (k := 0) 0 rfl dX13_fillTable_119) <|
    BS.sq (pc' := 122) (s_bipush 8 (by decide +kernel) dX13_fillTable_120) <|
    BS.sq (pc' := 123) (s_iconst 0 (by decide +kernel) dX13_fillTable_122) <|
    BS.sq (pc' := 124) (s_iconst 4 (by decide +kernel) dX13_fillTable_123) <|
    BS.sq (pc' := 125) (s_iconst 0 (by decide +kernel) dX13_fillTable_124) <|
    BS.sq (pc' := 128) (s_sipush 198 (by decide +kernel) dX13_fillTable_125) <|
    BS.sq (pc' := 129) (s_iconst 0 (by decide +kernel) dX13_fillTable_128) <|
    BS.sq (pc' := 130) (s_iconst 1 (by decide +kernel) dX13_fillTable_129) <|
    BS.sq (pc' := 133) (s_callV 7 15 kc15 (ok_X13_row l) kGood kw442 kw443 kw444 kw315 kw441 (by decide +kernel) (by decide) (by decide) dX13_fillTable_130) <|
    BS.sq (pc' := 134) (s_aload_n (k := 0) 0 rfl dX13_fillTable_133) <|
    BS.sq (pc' := 136) (s_bipush 8 (by decide +kernel) dX13_fillTable_134) <|
    BS.sq (pc' := 137) (s_iconst 5 (by decide +kernel) dX13_fillTable_136) <|
    BS.sq (pc' := 139) (s_bipush 6 (by decide +kernel) dX13_fillTable_137) <|
    BS.sq (pc' := 140) (s_iconst 0 (by decide +kernel) dX13_fillTable_139) <|
    BS.sq (pc' := 143) (s_sipush 176 (by decide +kernel) dX13_fillTable_140) <|
    BS.sq (pc' := 145) (s_bipush 9 (by decide +kernel) dX13_fillTable_143) <|
    BS.sq (pc' := 146) (s_iconst 2 (by decide +kernel) dX13_fillTable_145) <|
    BS.sq (pc' := 149) (s_callV 7 15 kc15 (ok_X13_row l) kGood kw442 kw443 kw444 kw315 kw441 (by decide +kernel) (by decide) (by decide) dX13_fillTable_146) <|
    BS.sq (pc' := 150) (s_aload_n (k := 0) 0 rfl dX13_fillTable_149) <|
    BS.sq (pc' := 152) (s_bipush 8 (by decide +kernel) dX13_fillTable_150) <|
    BS.sq (pc' := 154) (s_bipush 6 (by decide +kernel) dX13_fillTable_152) <|
    BS.sq (pc' := 156) (s_bipush 6 (by decide +kernel) dX13_fillTable_154) <|
    BS.sq (pc' := 157) (s_iconst 0 (by decide +kernel) dX13_fillTable_156) <|
    BS.sq (pc' := 160) (s_sipush 184 (by decide +kernel) dX13_fillTable_157) <|
    BS.sq (pc' := 162) (s_bipush 9 (by decide +kernel) dX13_fillTable_160) <|
    BS.sq (pc' := 163) (s_iconst 3 (by decide +kernel) dX13_fillTable_162) <|
    BS.sq (pc' := 166) (s_callV 7 15 kc15 (ok_X13_row l) kGood kw442 kw443 kw444 kw315 kw441 (by decide +kernel) (by decide) (by decide) dX13_fillTable_163) <|
    BS.sq (pc' := 167) (s_aload_n (k := 0) 0 rfl dX13_fillTable_166) <|
    BS.sq (pc' := 169) (s_bipush 8 (by decide +kernel) dX13_fillTable_167) <|
    BS.sq (pc' := 171) (s_bipush 7 (by decide +kernel) dX13_fillTable_169) <|
    BS.sq (pc' := 173) (s_bipush 6 (by decide +kernel) dX13_fillTable_171) <|
    BS.sq (pc' := 174) (s_iconst 0 (by decide +kernel) dX13_fillTable_173) <|
    BS.sq (pc' := 177) (s_sipush 184 (by decide +kernel) dX13_fillTable_174) <|
    BS.sq (pc' := 179) (s_bipush 9 (by decide +kernel) dX13_fillTable_177) <|
    BS.sq (pc' := 180) (s_iconst 4 (by decide +kernel) dX13_fillTable_179) <|
    BS.sq (pc' := 183) (s_callV 7 15 kc15 (ok_X13_row l) kGood kw442 kw443 kw444 kw315 kw441 (by decide +kernel) (by decide) (by decide) dX13_fillTable_180) <|
    BS.sq (pc' := 184) (s_aload_n (k := 0) 0 rfl dX13_fillTable_183) <|
    BS.sq (pc' := 186) (s_bipush 9 (by decide +kernel) dX13_fillTable_184) <|
    BS.sq (pc' := 187) (s_iconst 0 (by decide +kernel) dX13_fillTable_186) <|
    BS.sq (pc' := 188) (s_iconst 1 (by decide +kernel) dX13_fillTable_187) <|
    BS.sq (pc' := 189) (s_iconst 0 (by decide +kernel) dX13_fillTable_188) <|
    BS.sq (pc' := 192) (s_sipush 132 (by decide +kernel) dX13_fillTable_189) <|
    BS.go rfl) <|
  AllB.c (pb := 192) (
    BS.sq (pc' := 194) (s_bipush 9 (by decide +kernel) dX13_fillTable_192) <|
    BS.sq (pc' := 195) (s_iconst 0 (by decide +kernel) dX13_fillTable_194) <|
    BS.sq (pc' := 198) (s_callV 7 15 kc15 (ok_X13_row l) kGood kw442 kw443 kw444 kw315 kw441 (by decide +kernel) (by decide) (by decide) dX13_fillTable_195) <|
    BS.sq (pc' := 199) (s_aload_n (k := 0) 0 rfl dX13_fillTable_198) <|
    BS.sq (pc' := 201) (s_bipush 9 (by decide +kernel) dX13_fillTable_199) <|
    BS.sq (pc' := 202) (s_iconst 0 (by decide +kernel) dX13_fillTable_201) <|
    BS.sq (pc' := 203) (s_iconst 3 (by decide +kernel) dX13_fillTable_202) <|
    BS.sq (pc' := 204) (s_iconst 0 (by decide +kernel) dX13_fillTable_203) <|
    BS.sq (pc' := 207) (s_sipush 168 (by decide +kernel) dX13_fillTable_204) <|
    BS.sq (pc' := 209) (s_bipush 9 (by decide +kernel) dX13_fillTable_207) <|
    BS.sq (pc' := 210) (s_iconst 1 (by decide +kernel) dX13_fillTable_209) <|
    BS.sq (pc' := 213) (s_callV 7 15 kc15 (ok_X13_row l) kGood kw442 kw443 kw444 kw315 kw441 (by decide +kernel) (by decide) (by decide) dX13_fillTable_210) <|
    BS.sq (pc' := 214) (s_aload_n (k := 0) 0 rfl dX13_fillTable_213) <|
    BS.sq (pc' := 216) (s_bipush 9 (by decide +kernel) dX13_fillTable_214) <|
    BS.sq (pc' := 217) (s_iconst 0 (by decide +kernel) dX13_fillTable_216) <|
    BS.sq (pc' := 218) (s_iconst 4 (by decide +kernel) dX13_fillTable_217) <|
    BS.sq (pc' := 219) (s_iconst 0 (by decide +kernel) dX13_fillTable_218) <|
    BS.sq (pc' := 222) (s_sipush 246 (by decide +kernel) dX13_fillTable_219) <|
    BS.sq (pc' := 223) (s_iconst 0 (by decide +kernel) dX13_fillTable_222) <|
    BS.sq (pc' := 224) (s_iconst 1 (by decide +kernel) dX13_fillTable_223) <|
    BS.sq (pc' := 227) (s_callV 7 15 kc15 (ok_X13_row l) kGood kw442 kw443 kw444 kw315 kw441 (by decide +kernel) (by decide) (by decide) dX13_fillTable_224) <|
    BS.sq (pc' := 228) (s_aload_n (k := 0) 0 rfl dX13_fillTable_227) <|
    BS.sq (pc' := 230) (s_bipush 10 (by decide +kernel) dX13_fillTable_228) <|
    BS.sq (pc' := 231) (s_iconst 0 (by decide +kernel) dX13_fillTable_230) <|
    BS.sq (pc' := 232) (s_iconst 1 (by decide +kernel) dX13_fillTable_231) <|
    BS.sq (pc' := 233) (s_iconst 0 (by decide +kernel) dX13_fillTable_232) <|
    BS.sq (pc' := 236) (s_sipush 134 (by decide +kernel) dX13_fillTable_233) <|
    BS.sq (pc' := 238) (s_bipush 9 (by decide +kernel) dX13_fillTable_236) <|
    BS.sq (pc' := 239) (s_iconst 0 (by decide +kernel) dX13_fillTable_238) <|
    BS.sq (pc' := 242) (s_callV 7 15 kc15 (ok_X13_row l) kGood kw442 kw443 kw444 kw315 kw441 (by decide +kernel) (by decide) (by decide) dX13_fillTable_239) <|
    BS.sq (pc' := 243) (s_aload_n (k := 0) 0 rfl dX13_fillTable_242) <|
    BS.sq (pc' := 245) (s_bipush 11 (by decide +kernel) dX13_fillTable_243) <|
    BS.sq (pc' := 246) (s_iconst 1 (by decide +kernel) dX13_fillTable_245) <|
    BS.sq (pc' := 248) (s_bipush 7 (by decide +kernel) dX13_fillTable_246) <|
    BS.sq (pc' := 249) (s_iconst 0 (by decide +kernel) dX13_fillTable_248) <|
    BS.sq (pc' := 252) (s_sipush 141 (by decide +kernel) dX13_fillTable_249) <|
    BS.sq (pc' := 254) (s_bipush 9 (by decide +kernel) dX13_fillTable_252) <|
    BS.sq (pc' := 255) (s_iconst 0 (by decide +kernel) dX13_fillTable_254) <|
    BS.sq (pc' := 258) (s_callV 7 15 kc15 (ok_X13_row l) kGood kw442 kw443 kw444 kw315 kw441 (by decide +kernel) (by decide) (by decide) dX13_fillTable_255) <|
    BS.sq (pc' := 259) (s_aload_n (k := 0) 0 rfl dX13_fillTable_258) <|
    BS.sq (pc' := 261) (s_bipush 12 (by decide +kernel) dX13_fillTable_259) <|
    BS.sq (pc' := 262) (s_iconst 1 (by decide +kernel) dX13_fillTable_261) <|
    BS.sq (pc' := 263) (s_iconst 2 (by decide +kernel) dX13_fillTable_262) <|
    BS.sq (pc' := 265) (s_bipush 15 (by decide +kernel) dX13_fillTable_263) <|
    BS.sq (pc' := 268) (s_sipush 182 (by decide +kernel) dX13_fillTable_265) <|
    BS.sq (pc' := 270) (s_bipush 9 (by decide +kernel) dX13_fillTable_268) <|
    BS.sq (pc' := 271) (s_iconst 0 (by decide +kernel) dX13_fillTable_270) <|
    BS.sq (pc' := 274) (s_callV 7 15 kc15 (ok_X13_row l) kGood kw442 kw443 kw444 kw315 kw441 (by decide +kernel) (by decide) (by decide) dX13_fillTable_271) <|
    BS.sq (pc' := 275) (s_aload_n (k := 0) 0 rfl dX13_fillTable_274) <|
    BS.sq (pc' := 277) (s_bipush 13 (by decide +kernel) dX13_fillTable_275) <|
    BS.sq (pc' := 278) (s_iconst 1 (by decide +kernel) dX13_fillTable_277) <|
    BS.sq (pc' := 279) (s_iconst 2 (by decide +kernel) dX13_fillTable_278) <|
    BS.sq (pc' := 281) (s_bipush 15 (by decide +kernel) dX13_fillTable_279) <|
    BS.sq (pc' := 284) (s_sipush 190 (by decide +kernel) dX13_fillTable_281) <|
    BS.sq (pc' := 286) (s_bipush 9 (by decide +kernel) dX13_fillTable_284) <|
    BS.sq (pc' := 287) (s_iconst 0 (by decide +kernel) dX13_fillTable_286) <|
    BS.sq (pc' := 290) (s_callV 7 15 kc15 (ok_X13_row l) kGood kw442 kw443 kw444 kw315 kw441 (by decide +kernel) (by decide) (by decide) dX13_fillTable_287) <|
    BS.sq (pc' := 291) (s_aload_n (k := 0) 0 rfl dX13_fillTable_290) <|
    BS.sq (pc' := 293) (s_bipush 14 (by decide +kernel) dX13_fillTable_291) <|
    BS.sq (pc' := 294) (s_iconst 3 (by decide +kernel) dX13_fillTable_293) <|
    BS.go rfl) <|
  AllB.c (pb := 294) (
    BS.sq (pc' := 295) (s_iconst 2 (by decide +kernel) dX13_fillTable_294) <|
    BS.sq (pc' := 296) (s_iconst 0 (by decide +kernel) dX13_fillTable_295) <|
    BS.sq (pc' := 298) (s_bipush 99 (by decide +kernel) dX13_fillTable_296) <|
    BS.sq (pc' := 300) (s_bipush 9 (by decide +kernel) dX13_fillTable_298) <|
    BS.sq (pc' := 301) (s_iconst 0 (by decide +kernel) dX13_fillTable_300) <|
    BS.sq (pc' := 304) (s_callV 7 15 kc15 (ok_X13_row l) kGood kw442 kw443 kw444 kw315 kw441 (by decide +kernel) (by decide) (by decide) dX13_fillTable_301) <|
    BS.sq (pc' := 305) (s_iconst 2 (by decide +kernel) dX13_fillTable_304) <|
    BS.sq (pc' := 306) (s_istore_n (k := 1) 1 rfl (by decide) dX13_fillTable_305) <|
    BS.go rfl) <|
  AllB.c (pb := 306) (
    BS.sq (pc' := 307) (s_iload_n (k := 1) 1 rfl dX13_fillTable_306) <|
    BS.sq (pc' := 309) (s_bipush 8 (by decide +kernel) dX13_fillTable_307) <|
    s_icmp_ge rfl rfl (by decide) dX13_fillTable_309) <|
  AllB.c (pb := 312) (
    BS.sq (pc' := 313) (s_aload_n (k := 0) 0 rfl dX13_fillTable_312) <|
    BS.sq (pc' := 315) (s_bipush 13 (by decide +kernel) dX13_fillTable_313) <|
    BS.sq (pc' := 316) (s_iload_n (k := 1) 1 rfl dX13_fillTable_315) <|
    BS.sq (pc' := 317) (s_iadd dX13_fillTable_316) <|
    BS.sq (pc' := 318) (s_iconst 0 (by decide +kernel) dX13_fillTable_317) <|
    BS.sq (pc' := 320) (s_bipush 8 (by decide +kernel) dX13_fillTable_318) <|
    BS.sq (pc' := 321) (s_iconst 0 (by decide +kernel) dX13_fillTable_320) <|
    BS.sq (pc' := 324) (s_sipush 246 (by decide +kernel) dX13_fillTable_321) <|
    BS.sq (pc' := 325) (s_iload_n (k := 1) 1 rfl dX13_fillTable_324) <|
    BS.sq (pc' := 326) (s_iconst 0 (by decide +kernel) dX13_fillTable_325) <|
    BS.sq (pc' := 329) (s_callV 7 15 kc15 (ok_X13_row l) kGood kw442 kw443 kw444 kw315 kw441 (by decide +kernel) (by decide) (by decide) dX13_fillTable_326) <|
    BS.sq (pc' := 332) (s_iinc 1 1 (1) (by decide +kernel) (by decide) dX13_fillTable_329) <|
    s_goto rfl (by decide) dX13_fillTable_332) <|
  AllB.c (pb := 335) (
    BS.sq (pc' := 336) (s_aload_n (k := 0) 0 rfl dX13_fillTable_335) <|
    BS.sq (pc' := 338) (s_bipush 21 (by decide +kernel) dX13_fillTable_336) <|
    BS.sq (pc' := 339) (s_iconst 0 (by decide +kernel) dX13_fillTable_338) <|
    BS.sq (pc' := 341) (s_bipush 8 (by decide +kernel) dX13_fillTable_339) <|
    BS.sq (pc' := 342) (s_iconst 0 (by decide +kernel) dX13_fillTable_341) <|
    BS.sq (pc' := 345) (s_sipush 254 (by decide +kernel) dX13_fillTable_342) <|
    BS.sq (pc' := 346) (s_iconst 0 (by decide +kernel) dX13_fillTable_345) <|
    BS.sq (pc' := 347) (s_iconst 0 (by decide +kernel) dX13_fillTable_346) <|
    BS.sq (pc' := 350) (s_callV 7 15 kc15 (ok_X13_row l) kGood kw442 kw443 kw444 kw315 kw441 (by decide +kernel) (by decide) (by decide) dX13_fillTable_347) <|
    BS.sq (pc' := 351) (s_aload_n (k := 0) 0 rfl dX13_fillTable_350) <|
    BS.sq (pc' := 353) (s_bipush 22 (by decide +kernel) dX13_fillTable_351) <|
    BS.sq (pc' := 354) (s_iconst 0 (by decide +kernel) dX13_fillTable_353) <|
    BS.sq (pc' := 356) (s_bipush 8 (by decide +kernel) dX13_fillTable_354) <|
    BS.sq (pc' := 357) (s_iconst 0 (by decide +kernel) dX13_fillTable_356) <|
    BS.sq (pc' := 360) (s_sipush 254 (by decide +kernel) dX13_fillTable_357) <|
    BS.sq (pc' := 361) (s_iconst 1 (by decide +kernel) dX13_fillTable_360) <|
    BS.sq (pc' := 362) (s_iconst 0 (by decide +kernel) dX13_fillTable_361) <|
    BS.sq (pc' := 365) (s_callV 7 15 kc15 (ok_X13_row l) kGood kw442 kw443 kw444 kw315 kw441 (by decide +kernel) (by decide) (by decide) dX13_fillTable_362) <|
    BS.sq (pc' := 366) (s_aload_n (k := 0) 0 rfl dX13_fillTable_365) <|
    BS.sq (pc' := 368) (s_bipush 23 (by decide +kernel) dX13_fillTable_366) <|
    BS.sq (pc' := 369) (s_iconst 1 (by decide +kernel) dX13_fillTable_368) <|
    BS.sq (pc' := 370) (s_iconst 2 (by decide +kernel) dX13_fillTable_369) <|
    BS.sq (pc' := 372) (s_bipush 15 (by decide +kernel) dX13_fillTable_370) <|
    BS.sq (pc' := 375) (s_sipush 175 (by decide +kernel) dX13_fillTable_372) <|
    BS.sq (pc' := 377) (s_bipush 9 (by decide +kernel) dX13_fillTable_375) <|
    BS.sq (pc' := 378) (s_iconst 0 (by decide +kernel) dX13_fillTable_377) <|
    BS.sq (pc' := 381) (s_callV 7 15 kc15 (ok_X13_row l) kGood kw442 kw443 kw444 kw315 kw441 (by decide +kernel) (by decide) (by decide) dX13_fillTable_378) <|
    BS.sq (pc' := 382) (s_aload_n (k := 0) 0 rfl dX13_fillTable_381) <|
    BS.sq (pc' := 384) (s_bipush 23 (by decide +kernel) dX13_fillTable_382) <|
    BS.sq (pc' := 385) (s_iconst 1 (by decide +kernel) dX13_fillTable_384) <|
    BS.sq (pc' := 387) (s_bipush 9 (by decide +kernel) dX13_fillTable_385) <|
    BS.sq (pc' := 388) (s_iconst 0 (by decide +kernel) dX13_fillTable_387) <|
    BS.sq (pc' := 390) (s_bipush 105 (by decide +kernel) dX13_fillTable_388) <|
    BS.sq (pc' := 392) (s_bipush 9 (by decide +kernel) dX13_fillTable_390) <|
    BS.sq (pc' := 393) (s_iconst 3 (by decide +kernel) dX13_fillTable_392) <|
    BS.sq (pc' := 396) (s_callV 7 15 kc15 (ok_X13_row l) kGood kw442 kw443 kw444 kw315 kw441 (by decide +kernel) (by decide) (by decide) dX13_fillTable_393) <|
    BS.sq (pc' := 397) (s_aload_n (k := 0) 0 rfl dX13_fillTable_396) <|
    BS.sq (pc' := 399) (s_bipush 23 (by decide +kernel) dX13_fillTable_397) <|
    BS.sq (pc' := 400) (s_iconst 1 (by decide +kernel) dX13_fillTable_399) <|
    BS.sq (pc' := 402) (s_bipush 9 (by decide +kernel) dX13_fillTable_400) <|
    BS.sq (pc' := 403) (s_iconst 0 (by decide +kernel) dX13_fillTable_402) <|
    BS.sq (pc' := 405) (s_bipush 107 (by decide +kernel) dX13_fillTable_403) <|
    BS.sq (pc' := 407) (s_bipush 9 (by decide +kernel) dX13_fillTable_405) <|
    BS.sq (pc' := 408) (s_iconst 2 (by decide +kernel) dX13_fillTable_407) <|
    BS.sq (pc' := 411) (s_callV 7 15 kc15 (ok_X13_row l) kGood kw442 kw443 kw444 kw315 kw441 (by decide +kernel) (by decide) (by decide) dX13_fillTable_408) <|
    BS.sq (pc' := 412) (s_iconst 0 (by decide +kernel) dX13_fillTable_411) <|
    BS.sq (pc' := 413) (s_istore_n (k := 1) 1 rfl (by decide) dX13_fillTable_412) <|
    BS.go rfl) <|
  AllB.c (pb := 413) (
    BS.sq (pc' := 414) (s_iload_n (k := 1) 1 rfl dX13_fillTable_413) <|
    BS.sq (pc' := 415) (s_iconst 5 (by decide +kernel) dX13_fillTable_414) <|
    s_icmp_ge rfl rfl (by decide) dX13_fillTable_415) <|
  AllB.c (pb := 418) (
    BS.sq (pc' := 419) (s_iload_n (k := 1) 1 rfl dX13_fillTable_418) <|
    BS.sq (pc' := 420) (s_iconst 2 (by decide +kernel) dX13_fillTable_419) <|
    s_icmp_ge rfl rfl (by decide) dX13_fillTable_420) <|
  AllB.c (pb := 423) (
    BS.sq (pc' := 424) (s_iload_n (k := 1) 1 rfl dX13_fillTable_423) <|
    s_goto rfl (by decide) dX13_fillTable_424) <|
  AllB.c (pb := 427) (
    BS.sq (pc' := 428) (s_iload_n (k := 1) 1 rfl dX13_fillTable_427) <|
    BS.sq (pc' := 429) (s_iconst 4 (by decide +kernel) dX13_fillTable_428) <|
    s_icmp_ge rfl rfl (by decide) dX13_fillTable_429) <|
  AllB.c (pb := 432) (
    BS.sq (pc' := 433) (s_iload_n (k := 1) 1 rfl dX13_fillTable_432) <|
    BS.sq (pc' := 434) (s_iconst 2 (by decide +kernel) dX13_fillTable_433) <|
    BS.sq (pc' := 435) (s_iadd dX13_fillTable_434) <|
    s_goto rfl (by decide) dX13_fillTable_435) <|
  AllB.c (pb := 438) (
    BS.sq (pc' := 440) (s_bipush 7 (by decide +kernel) dX13_fillTable_438) <|
    BS.go rfl) <|
  AllB.c (pb := 440) (
    BS.sq (pc' := 441) (s_istore_n (k := 2) 2 rfl (by decide) dX13_fillTable_440) <|
    BS.sq (pc' := 442) (s_aload_n (k := 0) 0 rfl dX13_fillTable_441) <|
    BS.sq (pc' := 444) (s_bipush 24 (by decide +kernel) dX13_fillTable_442) <|
    BS.sq (pc' := 445) (s_iload_n (k := 1) 1 rfl dX13_fillTable_444) <|
    BS.sq (pc' := 446) (s_iadd dX13_fillTable_445) <|
    BS.sq (pc' := 447) (s_iconst 0 (by decide +kernel) dX13_fillTable_446) <|
    BS.sq (pc' := 448) (s_iconst 4 (by decide +kernel) dX13_fillTable_447) <|
    BS.sq (pc' := 449) (s_iconst 0 (by decide +kernel) dX13_fillTable_448) <|
    BS.sq (pc' := 452) (s_sipush 192 (by decide +kernel) dX13_fillTable_449) <|
    BS.sq (pc' := 453) (s_iload_n (k := 2) 2 rfl dX13_fillTable_452) <|
    BS.sq (pc' := 455) (s_bipush 6 (by decide +kernel) dX13_fillTable_453) <|
    BS.sq (pc' := 458) (s_callV 7 15 kc15 (ok_X13_row l) kGood kw442 kw443 kw444 kw315 kw441 (by decide +kernel) (by decide) (by decide) dX13_fillTable_455) <|
    BS.sq (pc' := 459) (s_aload_n (k := 0) 0 rfl dX13_fillTable_458) <|
    BS.sq (pc' := 461) (s_bipush 24 (by decide +kernel) dX13_fillTable_459) <|
    BS.sq (pc' := 462) (s_iload_n (k := 1) 1 rfl dX13_fillTable_461) <|
    BS.sq (pc' := 463) (s_iadd dX13_fillTable_462) <|
    BS.sq (pc' := 464) (s_iconst 0 (by decide +kernel) dX13_fillTable_463) <|
    BS.sq (pc' := 466) (s_bipush 11 (by decide +kernel) dX13_fillTable_464) <|
    BS.sq (pc' := 467) (s_iconst 0 (by decide +kernel) dX13_fillTable_466) <|
    BS.sq (pc' := 470) (s_sipush 208 (by decide +kernel) dX13_fillTable_467) <|
    BS.sq (pc' := 471) (s_iload_n (k := 2) 2 rfl dX13_fillTable_470) <|
    BS.sq (pc' := 472) (s_iconst 0 (by decide +kernel) dX13_fillTable_471) <|
    BS.sq (pc' := 475) (s_callV 7 15 kc15 (ok_X13_row l) kGood kw442 kw443 kw444 kw315 kw441 (by decide +kernel) (by decide) (by decide) dX13_fillTable_472) <|
    BS.sq (pc' := 476) (s_aload_n (k := 0) 0 rfl dX13_fillTable_475) <|
    BS.sq (pc' := 478) (s_bipush 24 (by decide +kernel) dX13_fillTable_476) <|
    BS.sq (pc' := 479) (s_iload_n (k := 1) 1 rfl dX13_fillTable_478) <|
    BS.sq (pc' := 480) (s_iadd dX13_fillTable_479) <|
    BS.sq (pc' := 481) (s_iconst 0 (by decide +kernel) dX13_fillTable_480) <|
    BS.sq (pc' := 483) (s_bipush 12 (by decide +kernel) dX13_fillTable_481) <|
    BS.sq (pc' := 484) (s_iconst 0 (by decide +kernel) dX13_fillTable_483) <|
    BS.sq (pc' := 487) (s_sipush 210 (by decide +kernel) dX13_fillTable_484) <|
    BS.sq (pc' := 488) (s_iload_n (k := 2) 2 rfl dX13_fillTable_487) <|
    BS.sq (pc' := 489) (s_iconst 0 (by decide +kernel) dX13_fillTable_488) <|
    BS.sq (pc' := 492) (s_callV 7 15 kc15 (ok_X13_row l) kGood kw442 kw443 kw444 kw315 kw441 (by decide +kernel) (by decide) (by decide) dX13_fillTable_489) <|
    BS.sq (pc' := 495) (s_iinc 1 1 (1) (by decide +kernel) (by decide) dX13_fillTable_492) <|
    s_goto rfl (by decide) dX13_fillTable_495) <|
  AllB.c (pb := 498) (
    BS.sq (pc' := 499) (s_aload_n (k := 0) 0 rfl dX13_fillTable_498) <|
    BS.sq (pc' := 502) (s_callV 0 15 kc15 (ok_X13_fillRest l) kGood kw446 kw447 kw448 kw315 kw445 (by decide +kernel) (by decide) (by decide) dX13_fillTable_499) <|
    s_ret rfl dX13_fillTable_502) <|
  AllB.n)
