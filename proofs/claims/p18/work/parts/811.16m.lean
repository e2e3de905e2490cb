/-! METHODS -/
-- NativeWorksModel.registerNamed(Ljava/lang/String;I)V
noncomputable def bs_X13_registerNamed : List rBl := [sq (h_ld isR 0) (sq (h_get rFo 15 6) (sq (h_ld isR 0) (sq (h_get rFo 15 4) (sq (h_ld isR 1) (sq (h_call 1 rAny ev_X13_pack) (sq (h_ast okJ) (sq (h_ld isR 0) (sq (h_get rFo 15 8) (sq (h_ld isR 0) (sq (h_get rFo 15 4) (sq (h_ld isI 2) (sq (h_ast okI) (sq (h_ld isR 0) (sq (h_dup) (sq (h_get rFo 15 4) (sq (h_v (.inl 1)) (sq (h_bin (fun _ _ => true) rAdd) (sq (h_put 15 4 isI) (t_ret)))))))))))))))))))]
noncomputable def ev_X13_registerNamed : rEv := fun as w n => rIni 3 as (fun ls => rRun bs_X13_registerNamed 100000 0 ls [] w n 0)
set_option maxRecDepth 100000 in
set_option maxHeartbeats 4000000 in
theorem ok_X13_registerNamed (l : Launch) : rMet vwCl rFo rZs rRs rNs rTs l yX13_registerNamed cX13_registerNamed 3 ((Option.none : Option FieldType)) 5 108 ev_X13_registerNamed := met_of (pcs := [0]) (by decide +kernel) rfl (fun G n0 =>
  AllB.c (pb := 0) (
    BS.sq (pc' := 1) (s_aload_n (k := 0) 0 rfl dX13_registerNamed_0) <|
    BS.sq (pc' := 4) (s_get 6 inX13 kc15 (by decide) kw405 rfl dX13_registerNamed_1) <|
    BS.sq (pc' := 5) (s_aload_n (k := 0) 0 rfl dX13_registerNamed_4) <|
    BS.sq (pc' := 8) (s_get 4 inX13 kc15 (by decide) kw406 rfl dX13_registerNamed_5) <|
    BS.sq (pc' := 9) (s_aload_n (k := 1) 1 rfl dX13_registerNamed_8) <|
    BS.sq (pc' := 12) (s_callS 1 (ok_X13_pack l) kGood kw313 kw314 kw315 kw312 (by decide +kernel) (by decide) (by decide) dX13_registerNamed_9) <|
    BS.sq (pc' := 13) (s_lastore dX13_registerNamed_12) <|
    BS.sq (pc' := 14) (s_aload_n (k := 0) 0 rfl dX13_registerNamed_13) <|
    BS.sq (pc' := 17) (s_get 8 inX13 kc15 (by decide) kw407 rfl dX13_registerNamed_14) <|
    BS.sq (pc' := 18) (s_aload_n (k := 0) 0 rfl dX13_registerNamed_17) <|
    BS.sq (pc' := 21) (s_get 4 inX13 kc15 (by decide) kw406 rfl dX13_registerNamed_18) <|
    BS.sq (pc' := 22) (s_iload_n (k := 2) 2 rfl dX13_registerNamed_21) <|
    BS.sq (pc' := 23) (s_iastore dX13_registerNamed_22) <|
    BS.sq (pc' := 24) (s_aload_n (k := 0) 0 rfl dX13_registerNamed_23) <|
    BS.sq (pc' := 25) (s_dup dX13_registerNamed_24) <|
    BS.sq (pc' := 28) (s_get 4 inX13 kc15 (by decide) kw406 rfl dX13_registerNamed_25) <|
    BS.sq (pc' := 29) (s_iconst 1 (by decide +kernel) dX13_registerNamed_28) <|
    BS.sq (pc' := 30) (s_iadd dX13_registerNamed_29) <|
    BS.sq (pc' := 33) (s_put tyX13 4 isI inX13 tyX13_ok nmX13 kc15 (by decide) kw406 rfl rfl (okf_I G) dX13_registerNamed_30) <|
    s_ret rfl dX13_registerNamed_33) <|
  AllB.n)
-- java/lang/Integer.stringSize(I)I
noncomputable def bs_J6_stringSize_0f7a4 : List rBl := [sq (h_v (.inl 1)) (sq (h_st isI 1) (sq (h_ld isI 0) (t_if (fun a => rLt a 0) 2 1))),
  sq (h_v (.inl 0)) (sq (h_st isI 1) (sq (h_ld isI 0) (sq (h_un (fun _ => true) rNeg) (sq (h_st isI 0) (t_go 2))))),
  sq (h_v (.inl 4294967286)) (sq (h_st isI 2) (sq (h_v (.inl 1)) (sq (h_st isI 3) (t_go 3)))),
  sq (h_ld isI 3) (sq (h_v (.inl 10)) (t_icmp (fun a b => rNot (rLt a b)) 7 4)),
  sq (h_ld isI 0) (sq (h_ld isI 2) (t_icmp rLe 6 5)),
  sq (h_ld isI 3) (sq (h_ld isI 1) (sq (h_bin (fun _ _ => true) rAdd) (t_retv isI))),
  sq (h_v (.inl 10)) (sq (h_ld isI 2) (sq (h_bin (fun _ _ => true) rMul) (sq (h_st isI 2) (sq (h_inc 3 1) (t_go 3))))),
  t_no]
noncomputable def ev_J6_stringSize_0f7a4 : rEv := fun as w n => rIni 4 as (fun ls => rRun bs_J6_stringSize_0f7a4 100000 0 ls [] w n 0)
set_option maxRecDepth 100000 in
set_option maxHeartbeats 4000000 in
theorem ok_J6_stringSize_0f7a4 (l : Launch) : rMet vwCl rFo rZs rRs rNs rTs l yJ6_stringSize_0f7a4 cJ6_stringSize_0f7a4 4 ((Option.some FieldType.int)) 0 0 ev_J6_stringSize_0f7a4 := met_of (pcs := [0, 6, 11, 16, 22, 27, 31, 42]) (by decide +kernel) rfl (fun G n0 =>
  AllB.c (pb := 0) (
    BS.sq (pc' := 1) (s_iconst 1 (by decide +kernel) dJ6_stringSize_0f7a4_0) <|
    BS.sq (pc' := 2) (s_istore_n (k := 1) 1 rfl (by decide) dJ6_stringSize_0f7a4_1) <|
    BS.sq (pc' := 3) (s_iload_n (k := 0) 0 rfl dJ6_stringSize_0f7a4_2) <|
    s_if_lt rfl rfl (by decide) dJ6_stringSize_0f7a4_3) <|
  AllB.c (pb := 6) (
    BS.sq (pc' := 7) (s_iconst 0 (by decide +kernel) dJ6_stringSize_0f7a4_6) <|
    BS.sq (pc' := 8) (s_istore_n (k := 1) 1 rfl (by decide) dJ6_stringSize_0f7a4_7) <|
    BS.sq (pc' := 9) (s_iload_n (k := 0) 0 rfl dJ6_stringSize_0f7a4_8) <|
    BS.sq (pc' := 10) (s_ineg dJ6_stringSize_0f7a4_9) <|
    BS.sq (pc' := 11) (s_istore_n (k := 0) 0 rfl (by decide) dJ6_stringSize_0f7a4_10) <|
    BS.go rfl) <|
  AllB.c (pb := 11) (
    BS.sq (pc' := 13) (s_bipush 4294967286 (by decide +kernel) dJ6_stringSize_0f7a4_11) <|
    BS.sq (pc' := 14) (s_istore_n (k := 2) 2 rfl (by decide) dJ6_stringSize_0f7a4_13) <|
    BS.sq (pc' := 15) (s_iconst 1 (by decide +kernel) dJ6_stringSize_0f7a4_14) <|
    BS.sq (pc' := 16) (s_istore_n (k := 3) 3 rfl (by decide) dJ6_stringSize_0f7a4_15) <|
    BS.go rfl) <|
  AllB.c (pb := 16) (
    BS.sq (pc' := 17) (s_iload_n (k := 3) 3 rfl dJ6_stringSize_0f7a4_16) <|
    BS.sq (pc' := 19) (s_bipush 10 (by decide +kernel) dJ6_stringSize_0f7a4_17) <|
    s_icmp_ge rfl rfl (by decide) dJ6_stringSize_0f7a4_19) <|
  AllB.c (pb := 22) (
    BS.sq (pc' := 23) (s_iload_n (k := 0) 0 rfl dJ6_stringSize_0f7a4_22) <|
    BS.sq (pc' := 24) (s_iload_n (k := 2) 2 rfl dJ6_stringSize_0f7a4_23) <|
    s_icmp_le rfl rfl (by decide) dJ6_stringSize_0f7a4_24) <|
  AllB.c (pb := 27) (
    BS.sq (pc' := 28) (s_iload_n (k := 3) 3 rfl dJ6_stringSize_0f7a4_27) <|
    BS.sq (pc' := 29) (s_iload_n (k := 1) 1 rfl dJ6_stringSize_0f7a4_28) <|
    BS.sq (pc' := 30) (s_iadd dJ6_stringSize_0f7a4_29) <|
    s_reti isI rfl okr_I dJ6_stringSize_0f7a4_30) <|
  AllB.c (pb := 31) (
    BS.sq (pc' := 33) (s_bipush 10 (by decide +kernel) dJ6_stringSize_0f7a4_31) <|
    BS.sq (pc' := 34) (s_iload_n (k := 2) 2 rfl dJ6_stringSize_0f7a4_33) <|
    BS.sq (pc' := 35) (s_imul dJ6_stringSize_0f7a4_34) <|
    BS.sq (pc' := 36) (s_istore_n (k := 2) 2 rfl (by decide) dJ6_stringSize_0f7a4_35) <|
    BS.sq (pc' := 39) (s_iinc 3 1 (1) (by decide +kernel) (by decide) dJ6_stringSize_0f7a4_36) <|
    s_goto rfl (by decide) dJ6_stringSize_0f7a4_39) <|
  AllB.c (pb := 42) (
    BS.no) <|
  AllB.n)
-- java/lang/Integer.getChars(II[B)I
noncomputable def bs_J6_getChars_ba4f3 : List rBl := [sq (h_ld isI 1) (sq (h_st isI 5) (sq (h_ld isI 0) (t_if (fun a => rNot (rLt a 0)) 2 1))),
  t_no,
  sq (h_v (.inl 0)) (t_go 3),
  sq (h_st isI 6) (sq (h_ld isI 6) (t_if (fun a => rNot (rEq a 0)) 5 4)),
  sq (h_ld isI 0) (sq (h_un (fun _ => true) rNeg) (sq (h_st isI 0) (t_go 5))),
  sq (h_ld isI 0) (sq (h_v (.inl 4294967196)) (t_icmp (fun a b => rNot (rLe a b)) 7 6)),
  t_no,
  sq (h_ld isR 2) (sq (h_inc 5 4294967295) (sq (h_ld isI 5) (sq (h_v (.inr (.inr 156))) (sq (h_ld isI 0) (sq (h_un (fun _ => true) rNeg) (sq (h_ald rFo okB) (sq (h_ast okB) (sq (h_ld isI 0) (sq (h_v (.inl 4294967287)) (t_icmp (fun a b => rNot (rLt a b)) 9 8)))))))))),
  sq (h_ld isR 2) (sq (h_inc 5 4294967295) (sq (h_ld isI 5) (sq (h_v (.inr (.inr 158))) (sq (h_ld isI 0) (sq (h_un (fun _ => true) rNeg) (sq (h_ald rFo okB) (sq (h_ast okB) (t_go 9)))))))),
  sq (h_ld isI 6) (t_if (fun a => rEq a 0) 11 10),
  t_no,
  sq (h_ld isI 5) (t_retv isI)]
noncomputable def ev_J6_getChars_ba4f3 : rEv := fun as w n => rIni 7 as (fun ls => rRun bs_J6_getChars_ba4f3 100000 0 ls [] w n 0)
set_option maxRecDepth 100000 in
set_option maxHeartbeats 4000000 in
theorem ok_J6_getChars_ba4f3 (l : Launch) : rMet vwCl rFo rZs rRs rNs rTs l yJ6_getChars_ba4f3 cJ6_getChars_ba4f3 7 ((Option.some FieldType.int)) 0 0 ev_J6_getChars_ba4f3 := met_of (pcs := [0, 7, 11, 12, 19, 22, 28, 72, 91, 104, 109, 118]) (by decide +kernel) rfl (fun G n0 =>
  AllB.c (pb := 0) (
    BS.sq (pc' := 1) (s_iload_n (k := 1) 1 rfl dJ6_getChars_ba4f3_0) <|
    BS.sq (pc' := 3) (s_istore 5 (by decide) dJ6_getChars_ba4f3_1) <|
    BS.sq (pc' := 4) (s_iload_n (k := 0) 0 rfl dJ6_getChars_ba4f3_3) <|
    s_if_ge rfl rfl (by decide) dJ6_getChars_ba4f3_4) <|
  AllB.c (pb := 7) (
    BS.no) <|
  AllB.c (pb := 11) (
    BS.sq (pc' := 12) (s_iconst 0 (by decide +kernel) dJ6_getChars_ba4f3_11) <|
    BS.go rfl) <|
  AllB.c (pb := 12) (
    BS.sq (pc' := 14) (s_istore 6 (by decide) dJ6_getChars_ba4f3_12) <|
    BS.sq (pc' := 16) (s_iload 6 dJ6_getChars_ba4f3_14) <|
    s_if_ne rfl rfl (by decide) dJ6_getChars_ba4f3_16) <|
  AllB.c (pb := 19) (
    BS.sq (pc' := 20) (s_iload_n (k := 0) 0 rfl dJ6_getChars_ba4f3_19) <|
    BS.sq (pc' := 21) (s_ineg dJ6_getChars_ba4f3_20) <|
    BS.sq (pc' := 22) (s_istore_n (k := 0) 0 rfl (by decide) dJ6_getChars_ba4f3_21) <|
    BS.go rfl) <|
  AllB.c (pb := 22) (
    BS.sq (pc' := 23) (s_iload_n (k := 0) 0 rfl dJ6_getChars_ba4f3_22) <|
    BS.sq (pc' := 25) (s_bipush 4294967196 (by decide +kernel) dJ6_getChars_ba4f3_23) <|
    s_icmp_gt rfl rfl (by decide) dJ6_getChars_ba4f3_25) <|
  AllB.c (pb := 28) (
    BS.no) <|
  AllB.c (pb := 72) (
    BS.sq (pc' := 73) (s_aload_n (k := 2) 2 rfl dJ6_getChars_ba4f3_72) <|
    BS.sq (pc' := 76) (s_iinc 5 4294967295 (-1) (by decide +kernel) (by decide) dJ6_getChars_ba4f3_73) <|
    BS.sq (pc' := 78) (s_iload 5 dJ6_getChars_ba4f3_76) <|
    BS.sq (pc' := 81) (s_gets (.inr (.inr 156)) kz5 kw408 rfl dJ6_getChars_ba4f3_78) <|
    BS.sq (pc' := 82) (s_iload_n (k := 0) 0 rfl dJ6_getChars_ba4f3_81) <|
    BS.sq (pc' := 83) (s_ineg dJ6_getChars_ba4f3_82) <|
    BS.sq (pc' := 84) (s_baload dJ6_getChars_ba4f3_83) <|
    BS.sq (pc' := 85) (s_bastore dJ6_getChars_ba4f3_84) <|
    BS.sq (pc' := 86) (s_iload_n (k := 0) 0 rfl dJ6_getChars_ba4f3_85) <|
    BS.sq (pc' := 88) (s_bipush 4294967287 (by decide +kernel) dJ6_getChars_ba4f3_86) <|
    s_icmp_ge rfl rfl (by decide) dJ6_getChars_ba4f3_88) <|
  AllB.c (pb := 91) (
    BS.sq (pc' := 92) (s_aload_n (k := 2) 2 rfl dJ6_getChars_ba4f3_91) <|
    BS.sq (pc' := 95) (s_iinc 5 4294967295 (-1) (by decide +kernel) (by decide) dJ6_getChars_ba4f3_92) <|
    BS.sq (pc' := 97) (s_iload 5 dJ6_getChars_ba4f3_95) <|
    BS.sq (pc' := 100) (s_gets (.inr (.inr 158)) kz6 kw409 rfl dJ6_getChars_ba4f3_97) <|
    BS.sq (pc' := 101) (s_iload_n (k := 0) 0 rfl dJ6_getChars_ba4f3_100) <|
    BS.sq (pc' := 102) (s_ineg dJ6_getChars_ba4f3_101) <|
    BS.sq (pc' := 103) (s_baload dJ6_getChars_ba4f3_102) <|
    BS.sq (pc' := 104) (s_bastore dJ6_getChars_ba4f3_103) <|
    BS.go rfl) <|
  AllB.c (pb := 104) (
    BS.sq (pc' := 106) (s_iload 6 dJ6_getChars_ba4f3_104) <|
    s_if_eq rfl rfl (by decide) dJ6_getChars_ba4f3_106) <|
  AllB.c (pb := 109) (
    BS.no) <|
  AllB.c (pb := 118) (
    BS.sq (pc' := 120) (s_iload 5 dJ6_getChars_ba4f3_118) <|
    s_reti isI rfl okr_I dJ6_getChars_ba4f3_120) <|
  AllB.n)
-- java/lang/AbstractStringBuilder.append(I)Ljava/lang/AbstractStringBuilder;
noncomputable def bs_J5_append_c97b9 : List rBl := [sq (h_ld isR 0) (sq (h_get rFo 1 3) (sq (h_st isI 2) (sq (h_ld isI 2) (sq (h_ld isI 1) (sq (h_call 1 rAny ev_J6_stringSize_0f7a4) (sq (h_bin (fun _ _ => true) rAdd) (sq (h_st isI 3) (sq (h_ld isR 0) (sq (h_ld isI 3) (sq (h_call 2 (rRecv rFo 1) ev_J5_ensureCapacityInternal_d00df) (sq (h_ld isR 0) (sq (h_call 1 (rRecv rFo 1) ev_J5_isLatin1_aae02) (t_if (fun a => rEq a 0) 2 1))))))))))))),
  sq (h_ld isI 1) (sq (h_ld isI 3) (sq (h_ld isR 0) (sq (h_get rFo 1 0) (sq (h_call 3 rAny ev_J6_getChars_ba4f3) (sq (h_pop) (t_go 3)))))),
  t_no,
  sq (h_ld isR 0) (sq (h_ld isI 3) (sq (h_put 1 3 isI) (sq (h_ld isR 0) (t_retv isR))))]
noncomputable def ev_J5_append_c97b9 : rEv := fun as w n => rIni 4 as (fun ls => rRun bs_J5_append_c97b9 100000 0 ls [] w n 0)
set_option maxRecDepth 100000 in
set_option maxHeartbeats 4000000 in
theorem ok_J5_append_c97b9 (l : Launch) : rMet vwCl rFo rZs rRs rNs rTs l yJ5_append_c97b9 cJ5_append_c97b9 4 ((Option.some (FieldType.object "java/lang/AbstractStringBuilde\x72"))) 1 26 ev_J5_append_c97b9 := met_of (pcs := [0, 24, 37, 48]) (by decide +kernel) rfl (fun G n0 =>
  AllB.c (pb := 0) (
    BS.sq (pc' := 1) (s_aload_n (k := 0) 0 rfl dJ5_append_c97b9_0) <|
    BS.sq (pc' := 4) (s_get 3 inJ4 kc1 (by decide) kw345 rfl dJ5_append_c97b9_1) <|
    BS.sq (pc' := 5) (s_istore_n (k := 2) 2 rfl (by decide) dJ5_append_c97b9_4) <|
    BS.sq (pc' := 6) (s_iload_n (k := 2) 2 rfl dJ5_append_c97b9_5) <|
    BS.sq (pc' := 7) (s_iload_n (k := 1) 1 rfl dJ5_append_c97b9_6) <|
    BS.sq (pc' := 10) (s_callS 1 (ok_J6_stringSize_0f7a4 l) kGood kw411 kw412 kw413 kw410 (by decide +kernel) (by decide) (by decide) dJ5_append_c97b9_7) <|
    BS.sq (pc' := 11) (s_iadd dJ5_append_c97b9_10) <|
    BS.sq (pc' := 12) (s_istore_n (k := 3) 3 rfl (by decide) dJ5_append_c97b9_11) <|
    BS.sq (pc' := 13) (s_aload_n (k := 0) 0 rfl dJ5_append_c97b9_12) <|
    BS.sq (pc' := 14) (s_iload_n (k := 3) 3 rfl dJ5_append_c97b9_13) <|
    BS.sq (pc' := 17) (s_callU (x := ⟨"java/lang/AbstractStringBuilde\x72", "ensureCapacityInternal", "(I)V"⟩) (owner := "java/lang/AbstractStringBuilde\x72") 1 1 kc1 (ok_J5_ensureCapacityInternal_d00df l) kGood kw347 kw348 kw349 kw350 kw332 kw346 rfl (by decide +kernel) (by decide) (by decide) dJ5_append_c97b9_14) <|
    BS.sq (pc' := 18) (s_aload_n (k := 0) 0 rfl dJ5_append_c97b9_17) <|
    BS.sq (pc' := 21) (s_callU (x := ⟨"java/lang/AbstractStringBuilde\x72", "isLatin1", "()Z"⟩) (owner := "java/lang/AbstractStringBuilde\x72") 0 1 kc1 (ok_J5_isLatin1_aae02 l) kGood kw414 kw377 kw378 kw379 kw332 kw375 rfl (by decide +kernel) (by decide) (by decide) dJ5_append_c97b9_18) <|
    s_if_eq rfl rfl (by decide) dJ5_append_c97b9_21) <|
  AllB.c (pb := 24) (
    BS.sq (pc' := 25) (s_iload_n (k := 1) 1 rfl dJ5_append_c97b9_24) <|
    BS.sq (pc' := 26) (s_iload_n (k := 3) 3 rfl dJ5_append_c97b9_25) <|
    BS.sq (pc' := 27) (s_aload_n (k := 0) 0 rfl dJ5_append_c97b9_26) <|
    BS.sq (pc' := 30) (s_get 0 inJ4 kc1 (by decide) kw327 rfl dJ5_append_c97b9_27) <|
    BS.sq (pc' := 33) (s_callS 3 (ok_J6_getChars_ba4f3 l) kGood kw416 kw417 kw413 kw415 (by decide +kernel) (by decide) (by decide) dJ5_append_c97b9_30) <|
    BS.sq (pc' := 34) (s_pop dJ5_append_c97b9_33) <|
    s_goto rfl (by decide) dJ5_append_c97b9_34) <|
  AllB.c (pb := 37) (
    BS.no) <|
  AllB.c (pb := 48) (
    BS.sq (pc' := 49) (s_aload_n (k := 0) 0 rfl dJ5_append_c97b9_48) <|
    BS.sq (pc' := 50) (s_iload_n (k := 3) 3 rfl dJ5_append_c97b9_49) <|
    BS.sq (pc' := 53) (s_put tyJ4 3 isI inJ4 tyJ4_ok nmJ4 kc1 (by decide) kw345 rfl rfl (okf_I G) dJ5_append_c97b9_50) <|
    BS.sq (pc' := 54) (s_aload_n (k := 0) 0 rfl dJ5_append_c97b9_53) <|
    s_reta rfl (Or.inl ⟨_, rfl⟩) dJ5_append_c97b9_54) <|
  AllB.n)
-- java/lang/StringBuilder.append(I)Ljava/lang/StringBuilder;
noncomputable def bs_J4_append_bf812 : List rBl := [sq (h_ld isR 0) (sq (h_ld isI 1) (sq (h_call 2 (rRecv rFo 1) ev_J5_append_c97b9) (sq (h_pop) (sq (h_ld isR 0) (t_retv isR)))))]
noncomputable def ev_J4_append_bf812 : rEv := fun as w n => rIni 2 as (fun ls => rRun bs_J4_append_bf812 100000 0 ls [] w n 0)
set_option maxRecDepth 100000 in
set_option maxHeartbeats 4000000 in
theorem ok_J4_append_bf812 (l : Launch) : rMet vwCl rFo rZs rRs rNs rTs l yJ4_append_bf812 cJ4_append_bf812 2 ((Option.some (FieldType.object "java/lang/StringBuilde\x72"))) 2 49 ev_J4_append_bf812 := met_of (pcs := [0]) (by decide +kernel) rfl (fun G n0 =>
  AllB.c (pb := 0) (
    BS.sq (pc' := 1) (s_aload_n (k := 0) 0 rfl dJ4_append_bf812_0) <|
    BS.sq (pc' := 2) (s_iload_n (k := 1) 1 rfl dJ4_append_bf812_1) <|
    BS.sq (pc' := 5) (s_callSU 1 1 kc1 (ok_J5_append_c97b9 l) kGood kw419 kw420 kw359 kw421 kw332 kw418 (by decide +kernel) (by decide) (by decide) dJ4_append_bf812_2) <|
    BS.sq (pc' := 6) (s_pop dJ4_append_bf812_5) <|
    BS.sq (pc' := 7) (s_aload_n (k := 0) 0 rfl dJ4_append_bf812_6) <|
    s_reta rfl (Or.inl ⟨_, rfl⟩) dJ4_append_bf812_7) <|
  AllB.n)
-- NativeWorksModel.numbered(ILjava/lang/String;)Ljava/lang/String;
noncomputable def bs_X13_numbered : List rBl := [sq (h_new 1 4 [.inr (.inr 0), .inl 0, .inl 0, .inl 0]) (sq (h_dup) (sq (h_call 1 (rRecv rFo 1) ev_J4_init_da8c8) (sq (h_v (.inr (.inr 160))) (sq (h_call 2 (rRecv rFo 1) ev_J4_append_15ec4) (sq (h_ld isI 0) (sq (h_call 2 (rRecv rFo 1) ev_J4_append_bf812) (sq (h_ld isR 1) (sq (h_call 2 (rRecv rFo 1) ev_J4_append_15ec4) (sq (h_call 1 (rRecv rFo 1) ev_J4_toString_0e30d) (t_retv isR))))))))))]
noncomputable def ev_X13_numbered : rEv := fun as w n => rIni 2 as (fun ls => rRun bs_X13_numbered 100000 0 ls [] w n 0)
set_option maxRecDepth 100000 in
set_option maxHeartbeats 4000000 in
theorem ok_X13_numbered (l : Launch) : rMet vwCl rFo rZs rRs rNs rTs l yX13_numbered cX13_numbered 2 ((Option.some (FieldType.object "java/lang/String"))) 6 211 ev_X13_numbered := met_of (pcs := [0]) (by decide +kernel) rfl (fun G n0 =>
  AllB.c (pb := 0) (
    BS.sq (pc' := 3) (s_new tyJ4 inJ4 tyJ4_ok kc1 kw388 kw389 kw374 rfl rfl dX13_numbered_0) <|
    BS.sq (pc' := 4) (s_dup dX13_numbered_3) <|
    BS.sq (pc' := 7) (s_callI 0 1 kc1 (ok_J4_init_da8c8 l) kGood kw391 kw392 kw374 kw390 rfl (by decide +kernel) (by decide) (by decide) dX13_numbered_4) <|
    BS.sq (pc' := 10) (s_ldcSw 79 kr37 dX13_numbered_7) <|
    BS.sq (pc' := 13) (s_callV 1 1 kc1 (ok_J4_append_15ec4 l) kGood kw394 kw395 kw396 kw374 kw393 (by decide +kernel) (by decide) (by decide) dX13_numbered_10) <|
    BS.sq (pc' := 14) (s_iload_n (k := 0) 0 rfl dX13_numbered_13) <|
    BS.sq (pc' := 17) (s_callV 1 1 kc1 (ok_J4_append_bf812 l) kGood kw423 kw424 kw425 kw374 kw422 (by decide +kernel) (by decide) (by decide) dX13_numbered_14) <|
    BS.sq (pc' := 18) (s_aload_n (k := 1) 1 rfl dX13_numbered_17) <|
    BS.sq (pc' := 21) (s_callV 1 1 kc1 (ok_J4_append_15ec4 l) kGood kw394 kw395 kw396 kw374 kw393 (by decide +kernel) (by decide) (by decide) dX13_numbered_18) <|
    BS.sq (pc' := 24) (s_callV 0 1 kc1 (ok_J4_toString_0e30d l) kGood kw398 kw399 kw400 kw374 kw397 (by decide +kernel) (by decide) (by decide) dX13_numbered_21) <|
    s_reta rfl (Or.inl ⟨_, rfl⟩) dX13_numbered_24) <|
  AllB.n)
-- NativeWorksModel.registerNames()V
noncomputable def bs_X13_registerNames : List rBl := [sq (h_v (.inl 8)) (sq (h_anewa) (sq (h_dup) (sq (h_v (.inl 0)) (sq (h_v (.inr (.inr 164))) (sq (h_astS rFo) (sq (h_dup) (sq (h_v (.inl 1)) (sq (h_v (.inr (.inr 168))) (sq (h_astS rFo) (sq (h_dup) (sq (h_v (.inl 2)) (sq (h_v (.inr (.inr 172))) (sq (h_astS rFo) (sq (h_dup) (sq (h_v (.inl 3)) (sq (h_v (.inr (.inr 176))) (sq (h_astS rFo) (sq (h_dup) (sq (h_v (.inl 4)) (sq (h_v (.inr (.inr 180))) (sq (h_astS rFo) (sq (h_dup) (sq (h_v (.inl 5)) (sq (h_v (.inr (.inr 184))) (sq (h_astS rFo) (sq (h_dup) (sq (h_v (.inl 6)) (sq (h_v (.inr (.inr 188))) (sq (h_astS rFo) (sq (h_dup) (sq (h_v (.inl 7)) (sq (h_v (.inr (.inr 192))) (sq (h_astS rFo) (sq (h_st isR 1) (sq (h_v (.inl 8)) (sq (h_anewa) (sq (h_dup) (sq (h_v (.inl 0)) (sq (h_v (.inr (.inr 196))) (sq (h_astS rFo) (sq (h_dup) (sq (h_v (.inl 1)) (sq (h_v (.inr (.inr 200))) (sq (h_astS rFo) (sq (h_dup) (sq (h_v (.inl 2)) (sq (h_v (.inr (.inr 204))) (sq (h_astS rFo) (sq (h_dup) (sq (h_v (.inl 3)) (sq (h_v (.inr (.inr 208))) (sq (h_astS rFo) (sq (h_dup) (sq (h_v (.inl 4)) (sq (h_v (.inr (.inr 212))) (sq (h_astS rFo) (sq (h_dup) (sq (h_v (.inl 5)) (sq (h_v (.inr (.inr 216))) (t_go 1)))))))))))))))))))))))))))))))))))))))))))))))))))))))))))),
  sq (h_astS rFo) (sq (h_dup) (sq (h_v (.inl 6)) (sq (h_v (.inr (.inr 220))) (sq (h_astS rFo) (sq (h_dup) (sq (h_v (.inl 7)) (sq (h_v (.inr (.inr 224))) (sq (h_astS rFo) (sq (h_st isR 2) (sq (h_v (.inl 8)) (sq (h_anewa) (sq (h_dup) (sq (h_v (.inl 0)) (sq (h_v (.inr (.inr 228))) (sq (h_astS rFo) (sq (h_dup) (sq (h_v (.inl 1)) (sq (h_v (.inr (.inr 232))) (sq (h_astS rFo) (sq (h_dup) (sq (h_v (.inl 2)) (sq (h_v (.inr (.inr 236))) (sq (h_astS rFo) (sq (h_dup) (sq (h_v (.inl 3)) (sq (h_v (.inr (.inr 240))) (sq (h_astS rFo) (sq (h_dup) (sq (h_v (.inl 4)) (sq (h_v (.inr (.inr 244))) (sq (h_astS rFo) (sq (h_dup) (sq (h_v (.inl 5)) (sq (h_v (.inr (.inr 248))) (sq (h_astS rFo) (sq (h_dup) (sq (h_v (.inl 6)) (sq (h_v (.inr (.inr 252))) (sq (h_astS rFo) (sq (h_dup) (sq (h_v (.inl 7)) (sq (h_v (.inr (.inr 256))) (sq (h_astS rFo) (sq (h_st isR 3) (sq (h_v (.inl 0)) (sq (h_st isI 4) (t_go 2))))))))))))))))))))))))))))))))))))))))))))))),
  sq (h_ld isI 4) (sq (h_v (.inl 8)) (t_icmp (fun a b => rNot (rLt a b)) 5 3)),
  sq (h_ld isR 0) (sq (h_ld isR 1) (sq (h_ld isI 4) (sq (h_ald rFo okA) (sq (h_ld isI 4) (sq (h_v (.inl 2048)) (sq (h_bin (fun _ _ => true) Nat.lor) (sq (h_call 3 (rRecv rFo 15) ev_X13_registerNamed) (sq (h_ld isR 0) (sq (h_ld isR 2) (sq (h_ld isI 4) (sq (h_ald rFo okA) (sq (h_ld isI 4) (sq (h_v (.inl 1024)) (sq (h_bin (fun _ _ => true) Nat.lor) (sq (h_call 3 (rRecv rFo 15) ev_X13_registerNamed) (sq (h_ld isR 0) (sq (h_ld isR 3) (sq (h_ld isI 4) (sq (h_ald rFo okA) (sq (h_ld isI 4) (sq (h_v (.inl 256)) (sq (h_bin (fun _ _ => true) Nat.lor) (sq (h_call 3 (rRecv rFo 15) ev_X13_registerNamed) (sq (h_ld isR 0) (sq (h_v (.inl 8)) (sq (h_ld isI 4) (sq (h_bin (fun _ _ => true) rAdd) (sq (h_v (.inr (.inr 260))) (sq (h_call 2 rAny ev_X13_numbered) (sq (h_v (.inl 8)) (sq (h_ld isI 4) (sq (h_bin (fun _ _ => true) rAdd) (sq (h_v (.inl 2048)) (sq (h_bin (fun _ _ => true) Nat.lor) (sq (h_call 3 (rRecv rFo 15) ev_X13_registerNamed) (sq (h_ld isR 0) (sq (h_v (.inl 8)) (sq (h_ld isI 4) (sq (h_bin (fun _ _ => true) rAdd) (sq (h_v (.inr (.inr 264))) (sq (h_call 2 rAny ev_X13_numbered) (sq (h_v (.inl 8)) (sq (h_ld isI 4) (sq (h_bin (fun _ _ => true) rAdd) (sq (h_v (.inl 1024)) (sq (h_bin (fun _ _ => true) Nat.lor) (sq (h_call 3 (rRecv rFo 15) ev_X13_registerNamed) (sq (h_ld isR 0) (sq (h_v (.inl 8)) (sq (h_ld isI 4) (sq (h_bin (fun _ _ => true) rAdd) (sq (h_v (.inr (.inr 84))) (sq (h_call 2 rAny ev_X13_numbered) (sq (h_v (.inl 8)) (sq (h_ld isI 4) (sq (h_bin (fun _ _ => true) rAdd) (sq (h_v (.inl 256)) (sq (h_bin (fun _ _ => true) Nat.lor) (sq (h_call 3 (rRecv rFo 15) ev_X13_registerNamed) (t_go 4)))))))))))))))))))))))))))))))))))))))))))))))))))))))))))),
  sq (h_inc 4 1) (t_go 2),
  t_ret]
noncomputable def ev_X13_registerNames : rEv := fun as w n => rIni 5 as (fun ls => rRun bs_X13_registerNames 100000 0 ls [] w n 0)
set_option maxRecDepth 100000 in
set_option maxHeartbeats 4000000 in
theorem ok_X13_registerNames (l : Launch) : rMet vwCl rFo rZs rRs rNs rTs l yX13_registerNames cX13_registerNames 5 ((Option.none : Option FieldType)) 7 232 ev_X13_registerNames := met_of (pcs := [0, 96, 171, 178, 292, 298]) (by decide +kernel) rfl (fun G n0 =>
  AllB.c (pb := 0) (
    BS.sq (pc' := 2) (s_bipush 8 (by decide +kernel) dX13_registerNames_0) <|
    BS.sq (pc' := 5) (s_anewa kw401 kn1 dX13_registerNames_2) <|
    BS.sq (pc' := 6) (s_dup dX13_registerNames_5) <|
    BS.sq (pc' := 7) (s_iconst 0 (by decide +kernel) dX13_registerNames_6) <|
    BS.sq (pc' := 10) (s_ldcSw 81 kr38 dX13_registerNames_7) <|
    BS.sq (pc' := 11) (s_aastS kc0 dX13_registerNames_10) <|
    BS.sq (pc' := 12) (s_dup dX13_registerNames_11) <|
    BS.sq (pc' := 13) (s_iconst 1 (by decide +kernel) dX13_registerNames_12) <|
    BS.sq (pc' := 16) (s_ldcSw 83 kr39 dX13_registerNames_13) <|
    BS.sq (pc' := 17) (s_aastS kc0 dX13_registerNames_16) <|
    BS.sq (pc' := 18) (s_dup dX13_registerNames_17) <|
    BS.sq (pc' := 19) (s_iconst 2 (by decide +kernel) dX13_registerNames_18) <|
    BS.sq (pc' := 22) (s_ldcSw 85 kr40 dX13_registerNames_19) <|
    BS.sq (pc' := 23) (s_aastS kc0 dX13_registerNames_22) <|
    BS.sq (pc' := 24) (s_dup dX13_registerNames_23) <|
    BS.sq (pc' := 25) (s_iconst 3 (by decide +kernel) dX13_registerNames_24) <|
    BS.sq (pc' := 28) (s_ldcSw 87 kr41 dX13_registerNames_25) <|
    BS.sq (pc' := 29) (s_aastS kc0 dX13_registerNames_28) <|
    BS.sq (pc' := 30) (s_dup dX13_registerNames_29) <|
    BS.sq (pc' := 31) (s_iconst 4 (by decide +kernel) dX13_registerNames_30) <|
    BS.sq (pc' := 34) (s_ldcSw 89 kr42 dX13_registerNames_31) <|
    BS.sq (pc' := 35) (s_aastS kc0 dX13_registerNames_34) <|
    BS.sq (pc' := 36) (s_dup dX13_registerNames_35) <|
    BS.sq (pc' := 37) (s_iconst 5 (by decide +kernel) dX13_registerNames_36) <|
    BS.sq (pc' := 40) (s_ldcSw 91 kr43 dX13_registerNames_37) <|
    BS.sq (pc' := 41) (s_aastS kc0 dX13_registerNames_40) <|
    BS.sq (pc' := 42) (s_dup dX13_registerNames_41) <|
    BS.sq (pc' := 44) (s_bipush 6 (by decide +kernel) dX13_registerNames_42) <|
    BS.sq (pc' := 47) (s_ldcSw 93 kr44 dX13_registerNames_44) <|
    BS.sq (pc' := 48) (s_aastS kc0 dX13_registerNames_47) <|
    BS.sq (pc' := 49) (s_dup dX13_registerNames_48) <|
    BS.sq (pc' := 51) (s_bipush 7 (by decide +kernel) dX13_registerNames_49) <|
    BS.sq (pc' := 54) (s_ldcSw 95 kr45 dX13_registerNames_51) <|
    BS.sq (pc' := 55) (s_aastS kc0 dX13_registerNames_54) <|
    BS.sq (pc' := 56) (s_astore_n (k := 1) 1 rfl (by decide) dX13_registerNames_55) <|
    BS.sq (pc' := 58) (s_bipush 8 (by decide +kernel) dX13_registerNames_56) <|
    BS.sq (pc' := 61) (s_anewa kw401 kn1 dX13_registerNames_58) <|
    BS.sq (pc' := 62) (s_dup dX13_registerNames_61) <|
    BS.sq (pc' := 63) (s_iconst 0 (by decide +kernel) dX13_registerNames_62) <|
    BS.sq (pc' := 66) (s_ldcSw 97 kr46 dX13_registerNames_63) <|
    BS.sq (pc' := 67) (s_aastS kc0 dX13_registerNames_66) <|
    BS.sq (pc' := 68) (s_dup dX13_registerNames_67) <|
    BS.sq (pc' := 69) (s_iconst 1 (by decide +kernel) dX13_registerNames_68) <|
    BS.sq (pc' := 72) (s_ldcSw 99 kr47 dX13_registerNames_69) <|
    BS.sq (pc' := 73) (s_aastS kc0 dX13_registerNames_72) <|
    BS.sq (pc' := 74) (s_dup dX13_registerNames_73) <|
    BS.sq (pc' := 75) (s_iconst 2 (by decide +kernel) dX13_registerNames_74) <|
    BS.sq (pc' := 78) (s_ldcSw 101 kr48 dX13_registerNames_75) <|
    BS.sq (pc' := 79) (s_aastS kc0 dX13_registerNames_78) <|
    BS.sq (pc' := 80) (s_dup dX13_registerNames_79) <|
    BS.sq (pc' := 81) (s_iconst 3 (by decide +kernel) dX13_registerNames_80) <|
    BS.sq (pc' := 84) (s_ldcSw 103 kr49 dX13_registerNames_81) <|
    BS.sq (pc' := 85) (s_aastS kc0 dX13_registerNames_84) <|
    BS.sq (pc' := 86) (s_dup dX13_registerNames_85) <|
    BS.sq (pc' := 87) (s_iconst 4 (by decide +kernel) dX13_registerNames_86) <|
    BS.sq (pc' := 90) (s_ldcSw 105 kr50 dX13_registerNames_87) <|
    BS.sq (pc' := 91) (s_aastS kc0 dX13_registerNames_90) <|
    BS.sq (pc' := 92) (s_dup dX13_registerNames_91) <|
    BS.sq (pc' := 93) (s_iconst 5 (by decide +kernel) dX13_registerNames_92) <|
    BS.sq (pc' := 96) (s_ldcSw 107 kr51 dX13_registerNames_93) <|
    BS.go rfl) <|
  AllB.c (pb := 96) (
    BS.sq (pc' := 97) (s_aastS kc0 dX13_registerNames_96) <|
    BS.sq (pc' := 98) (s_dup dX13_registerNames_97) <|
    BS.sq (pc' := 100) (s_bipush 6 (by decide +kernel) dX13_registerNames_98) <|
    BS.sq (pc' := 103) (s_ldcSw 109 kr52 dX13_registerNames_100) <|
    BS.sq (pc' := 104) (s_aastS kc0 dX13_registerNames_103) <|
    BS.sq (pc' := 105) (s_dup dX13_registerNames_104) <|
    BS.sq (pc' := 107) (s_bipush 7 (by decide +kernel) dX13_registerNames_105) <|
    BS.sq (pc' := 110) (s_ldcSw 111 kr53 dX13_registerNames_107) <|
    BS.sq (pc' := 111) (s_aastS kc0 dX13_registerNames_110) <|
    BS.sq (pc' := 112) (s_astore_n (k := 2) 2 rfl (by decide) dX13_registerNames_111) <|
    BS.sq (pc' := 114) (s_bipush 8 (by decide +kernel) dX13_registerNames_112) <|
    BS.sq (pc' := 117) (s_anewa kw401 kn1 dX13_registerNames_114) <|
    BS.sq (pc' := 118) (s_dup dX13_registerNames_117) <|
    BS.sq (pc' := 119) (s_iconst 0 (by decide +kernel) dX13_registerNames_118) <|
    BS.sq (pc' := 122) (s_ldcSw 113 kr54 dX13_registerNames_119) <|
    BS.sq (pc' := 123) (s_aastS kc0 dX13_registerNames_122) <|
    BS.sq (pc' := 124) (s_dup dX13_registerNames_123) <|
    BS.sq (pc' := 125) (s_iconst 1 (by decide +kernel) dX13_registerNames_124) <|
    BS.sq (pc' := 128) (s_ldcSw 115 kr55 dX13_registerNames_125) <|
    BS.sq (pc' := 129) (s_aastS kc0 dX13_registerNames_128) <|
    BS.sq (pc' := 130) (s_dup dX13_registerNames_129) <|
    BS.sq (pc' := 131) (s_iconst 2 (by decide +kernel) dX13_registerNames_130) <|
    BS.sq (pc' := 134) (s_ldcSw 117 kr56 dX13_registerNames_131) <|
    BS.sq (pc' := 135) (s_aastS kc0 dX13_registerNames_134) <|
    BS.sq (pc' := 136) (s_dup dX13_registerNames_135) <|
    BS.sq (pc' := 137) (s_iconst 3 (by decide +kernel) dX13_registerNames_136) <|
    BS.sq (pc' := 140) (s_ldcSw 119 kr57 dX13_registerNames_137) <|
    BS.sq (pc' := 141) (s_aastS kc0 dX13_registerNames_140) <|
    BS.sq (pc' := 142) (s_dup dX13_registerNames_141) <|
    BS.sq (pc' := 143) (s_iconst 4 (by decide +kernel) dX13_registerNames_142) <|
    BS.sq (pc' := 146) (s_ldcSw 121 kr58 dX13_registerNames_143) <|
    BS.sq (pc' := 147) (s_aastS kc0 dX13_registerNames_146) <|
    BS.sq (pc' := 148) (s_dup dX13_registerNames_147) <|
    BS.sq (pc' := 149) (s_iconst 5 (by decide +kernel) dX13_registerNames_148) <|
    BS.sq (pc' := 152) (s_ldcSw 123 kr59 dX13_registerNames_149) <|
    BS.sq (pc' := 153) (s_aastS kc0 dX13_registerNames_152) <|
    BS.sq (pc' := 154) (s_dup dX13_registerNames_153) <|
    BS.sq (pc' := 156) (s_bipush 6 (by decide +kernel) dX13_registerNames_154) <|
    BS.sq (pc' := 159) (s_ldcSw 125 kr60 dX13_registerNames_156) <|
    BS.sq (pc' := 160) (s_aastS kc0 dX13_registerNames_159) <|
    BS.sq (pc' := 161) (s_dup dX13_registerNames_160) <|
    BS.sq (pc' := 163) (s_bipush 7 (by decide +kernel) dX13_registerNames_161) <|
    BS.sq (pc' := 166) (s_ldcSw 127 kr61 dX13_registerNames_163) <|
    BS.sq (pc' := 167) (s_aastS kc0 dX13_registerNames_166) <|
    BS.sq (pc' := 168) (s_astore_n (k := 3) 3 rfl (by decide) dX13_registerNames_167) <|
    BS.sq (pc' := 169) (s_iconst 0 (by decide +kernel) dX13_registerNames_168) <|
    BS.sq (pc' := 171) (s_istore 4 (by decide) dX13_registerNames_169) <|
    BS.go rfl) <|
  AllB.c (pb := 171) (
    BS.sq (pc' := 173) (s_iload 4 dX13_registerNames_171) <|
    BS.sq (pc' := 175) (s_bipush 8 (by decide +kernel) dX13_registerNames_173) <|
    s_icmp_ge rfl rfl (by decide) dX13_registerNames_175) <|
  AllB.c (pb := 178) (
    BS.sq (pc' := 179) (s_aload_n (k := 0) 0 rfl dX13_registerNames_178) <|
    BS.sq (pc' := 180) (s_aload_n (k := 1) 1 rfl dX13_registerNames_179) <|
    BS.sq (pc' := 182) (s_iload 4 dX13_registerNames_180) <|
    BS.sq (pc' := 183) (s_aaload dX13_registerNames_182) <|
    BS.sq (pc' := 185) (s_iload 4 dX13_registerNames_183) <|
    BS.sq (pc' := 188) (s_sipush 2048 (by decide +kernel) dX13_registerNames_185) <|
    BS.sq (pc' := 189) (s_ior dX13_registerNames_188) <|
    BS.sq (pc' := 192) (s_callV 2 15 kc15 (ok_X13_registerNamed l) kGood kw427 kw428 kw429 kw315 kw426 (by decide +kernel) (by decide) (by decide) dX13_registerNames_189) <|
    BS.sq (pc' := 193) (s_aload_n (k := 0) 0 rfl dX13_registerNames_192) <|
    BS.sq (pc' := 194) (s_aload_n (k := 2) 2 rfl dX13_registerNames_193) <|
    BS.sq (pc' := 196) (s_iload 4 dX13_registerNames_194) <|
    BS.sq (pc' := 197) (s_aaload dX13_registerNames_196) <|
    BS.sq (pc' := 199) (s_iload 4 dX13_registerNames_197) <|
    BS.sq (pc' := 202) (s_sipush 1024 (by decide +kernel) dX13_registerNames_199) <|
    BS.sq (pc' := 203) (s_ior dX13_registerNames_202) <|
    BS.sq (pc' := 206) (s_callV 2 15 kc15 (ok_X13_registerNamed l) kGood kw427 kw428 kw429 kw315 kw426 (by decide +kernel) (by decide) (by decide) dX13_registerNames_203) <|
    BS.sq (pc' := 207) (s_aload_n (k := 0) 0 rfl dX13_registerNames_206) <|
    BS.sq (pc' := 208) (s_aload_n (k := 3) 3 rfl dX13_registerNames_207) <|
    BS.sq (pc' := 210) (s_iload 4 dX13_registerNames_208) <|
    BS.sq (pc' := 211) (s_aaload dX13_registerNames_210) <|
    BS.sq (pc' := 213) (s_iload 4 dX13_registerNames_211) <|
    BS.sq (pc' := 216) (s_sipush 256 (by decide +kernel) dX13_registerNames_213) <|
    BS.sq (pc' := 217) (s_ior dX13_registerNames_216) <|
    BS.sq (pc' := 220) (s_callV 2 15 kc15 (ok_X13_registerNamed l) kGood kw427 kw428 kw429 kw315 kw426 (by decide +kernel) (by decide) (by decide) dX13_registerNames_217) <|
    BS.sq (pc' := 221) (s_aload_n (k := 0) 0 rfl dX13_registerNames_220) <|
    BS.sq (pc' := 223) (s_bipush 8 (by decide +kernel) dX13_registerNames_221) <|
    BS.sq (pc' := 225) (s_iload 4 dX13_registerNames_223) <|
    BS.sq (pc' := 226) (s_iadd dX13_registerNames_225) <|
    BS.sq (pc' := 229) (s_ldcSw 129 kr62 dX13_registerNames_226) <|
    BS.sq (pc' := 232) (s_callS 2 (ok_X13_numbered l) kGood kw431 kw432 kw315 kw430 (by decide +kernel) (by decide) (by decide) dX13_registerNames_229) <|
    BS.sq (pc' := 234) (s_bipush 8 (by decide +kernel) dX13_registerNames_232) <|
    BS.sq (pc' := 236) (s_iload 4 dX13_registerNames_234) <|
    BS.sq (pc' := 237) (s_iadd dX13_registerNames_236) <|
    BS.sq (pc' := 240) (s_sipush 2048 (by decide +kernel) dX13_registerNames_237) <|
    BS.sq (pc' := 241) (s_ior dX13_registerNames_240) <|
    BS.sq (pc' := 244) (s_callV 2 15 kc15 (ok_X13_registerNamed l) kGood kw427 kw428 kw429 kw315 kw426 (by decide +kernel) (by decide) (by decide) dX13_registerNames_241) <|
    BS.sq (pc' := 245) (s_aload_n (k := 0) 0 rfl dX13_registerNames_244) <|
    BS.sq (pc' := 247) (s_bipush 8 (by decide +kernel) dX13_registerNames_245) <|
    BS.sq (pc' := 249) (s_iload 4 dX13_registerNames_247) <|
    BS.sq (pc' := 250) (s_iadd dX13_registerNames_249) <|
    BS.sq (pc' := 253) (s_ldcSw 131 kr63 dX13_registerNames_250) <|
    BS.sq (pc' := 256) (s_callS 2 (ok_X13_numbered l) kGood kw431 kw432 kw315 kw430 (by decide +kernel) (by decide) (by decide) dX13_registerNames_253) <|
    BS.sq (pc' := 258) (s_bipush 8 (by decide +kernel) dX13_registerNames_256) <|
    BS.sq (pc' := 260) (s_iload 4 dX13_registerNames_258) <|
    BS.sq (pc' := 261) (s_iadd dX13_registerNames_260) <|
    BS.sq (pc' := 264) (s_sipush 1024 (by decide +kernel) dX13_registerNames_261) <|
    BS.sq (pc' := 265) (s_ior dX13_registerNames_264) <|
    BS.sq (pc' := 268) (s_callV 2 15 kc15 (ok_X13_registerNamed l) kGood kw427 kw428 kw429 kw315 kw426 (by decide +kernel) (by decide) (by decide) dX13_registerNames_265) <|
    BS.sq (pc' := 269) (s_aload_n (k := 0) 0 rfl dX13_registerNames_268) <|
    BS.sq (pc' := 271) (s_bipush 8 (by decide +kernel) dX13_registerNames_269) <|
    BS.sq (pc' := 273) (s_iload 4 dX13_registerNames_271) <|
    BS.sq (pc' := 274) (s_iadd dX13_registerNames_273) <|
    BS.sq (pc' := 277) (s_ldcSw 41 kr19 dX13_registerNames_274) <|
    BS.sq (pc' := 280) (s_callS 2 (ok_X13_numbered l) kGood kw431 kw432 kw315 kw430 (by decide +kernel) (by decide) (by decide) dX13_registerNames_277) <|
    BS.sq (pc' := 282) (s_bipush 8 (by decide +kernel) dX13_registerNames_280) <|
    BS.sq (pc' := 284) (s_iload 4 dX13_registerNames_282) <|
    BS.sq (pc' := 285) (s_iadd dX13_registerNames_284) <|
    BS.sq (pc' := 288) (s_sipush 256 (by decide +kernel) dX13_registerNames_285) <|
    BS.sq (pc' := 289) (s_ior dX13_registerNames_288) <|
    BS.sq (pc' := 292) (s_callV 2 15 kc15 (ok_X13_registerNamed l) kGood kw427 kw428 kw429 kw315 kw426 (by decide +kernel) (by decide) (by decide) dX13_registerNames_289) <|
    BS.go rfl) <|
  AllB.c (pb := 292) (
    BS.sq (pc' := 295) (s_iinc 4 1 (1) (by decide +kernel) (by decide) dX13_registerNames_292) <|
    s_goto rfl (by decide) dX13_registerNames_295) <|
  AllB.c (pb := 298) (
    s_ret rfl dX13_registerNames_298) <|
  AllB.n)
