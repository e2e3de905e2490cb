/-! METHODS -/
-- NativeWorksModel$Code.<init>()V
noncomputable def bs_X12_init : List rBl := [sq (h_ld isR 0) (sq (h_oinit) (sq (h_ld isR 0) (sq (h_v (.inl 8194)) (sq (h_newa 0 (.inl 0)) (sq (h_put 14 8 isR) (sq (h_ld isR 0) (sq (h_v (.inl 8194)) (sq (h_newa 0 (.inl 0)) (sq (h_put 14 9 isR) (sq (h_ld isR 0) (sq (h_v (.inl 8194)) (sq (h_newa 1 (.inr (.inl 0))) (sq (h_put 14 10 isR) (sq (h_ld isR 0) (sq (h_v (.inl 8194)) (sq (h_newa 1 (.inr (.inl 0))) (sq (h_put 14 11 isR) (sq (h_ld isR 0) (sq (h_v (.inl 8194)) (sq (h_newa 1 (.inr (.inl 0))) (sq (h_put 14 12 isR) (t_ret))))))))))))))))))))))]
noncomputable def ev_X12_init : rEv := fun as w n => rIni 1 as (fun ls => rRun bs_X12_init 100000 0 ls [] w n 0)
set_option maxRecDepth 100000 in
set_option maxHeartbeats 4000000 in
theorem ok_X12_init (l : Launch) : rMet vwCl rFo rZs rRs rNs rTs l yX12_init cX12_init 1 ((Option.none : Option FieldType)) 1 20 ev_X12_init := met_of (pcs := [0]) (by decide +kernel) rfl (fun G n0 =>
  AllB.c (pb := 0) (
    BS.sq (pc' := 1) (s_aload_n (k := 0) 0 rfl dX12_init_0) <|
    BS.sq (pc' := 4) (s_oinit kw272 kw2 kwObj (by decide) (by decide) dX12_init_1) <|
    BS.sq (pc' := 5) (s_aload_n (k := 0) 0 rfl dX12_init_4) <|
    BS.sq (pc' := 8) (s_sipush 8194 (by decide +kernel) dX12_init_5) <|
    BS.sq (pc' := 10) (s_newa 0 (.inl 0) (by decide) rfl rfl (fun _ _ h => h) (by decide) kw5 dX12_init_8) <|
    BS.sq (pc' := 13) (s_putF tyX12 8 isR inX12 tyX12_ok nmX12 kc14 (by decide) kw273 rfl rfl rfl rfl (okf_A G _) dX12_init_10) <|
    BS.sq (pc' := 14) (s_aload_n (k := 0) 0 rfl dX12_init_13) <|
    BS.sq (pc' := 17) (s_sipush 8194 (by decide +kernel) dX12_init_14) <|
    BS.sq (pc' := 19) (s_newa 0 (.inl 0) (by decide) rfl rfl (fun _ _ h => h) (by decide) kw5 dX12_init_17) <|
    BS.sq (pc' := 22) (s_putF tyX12 9 isR inX12 tyX12_ok nmX12 kc14 (by decide) kw274 rfl rfl rfl rfl (okf_A G _) dX12_init_19) <|
    BS.sq (pc' := 23) (s_aload_n (k := 0) 0 rfl dX12_init_22) <|
    BS.sq (pc' := 26) (s_sipush 8194 (by decide +kernel) dX12_init_23) <|
    BS.sq (pc' := 28) (s_newa 1 (.inr (.inl 0)) (by decide) rfl rfl (fun _ _ h => h) (by decide) kw26 dX12_init_26) <|
    BS.sq (pc' := 31) (s_putF tyX12 10 isR inX12 tyX12_ok nmX12 kc14 (by decide) kw275 rfl rfl rfl rfl (okf_A G _) dX12_init_28) <|
    BS.sq (pc' := 32) (s_aload_n (k := 0) 0 rfl dX12_init_31) <|
    BS.sq (pc' := 35) (s_sipush 8194 (by decide +kernel) dX12_init_32) <|
    BS.sq (pc' := 37) (s_newa 1 (.inr (.inl 0)) (by decide) rfl rfl (fun _ _ h => h) (by decide) kw26 dX12_init_35) <|
    BS.sq (pc' := 40) (s_putF tyX12 11 isR inX12 tyX12_ok nmX12 kc14 (by decide) kw276 rfl rfl rfl rfl (okf_A G _) dX12_init_37) <|
    BS.sq (pc' := 41) (s_aload_n (k := 0) 0 rfl dX12_init_40) <|
    BS.sq (pc' := 44) (s_sipush 8194 (by decide +kernel) dX12_init_41) <|
    BS.sq (pc' := 46) (s_newa 1 (.inr (.inl 0)) (by decide) rfl rfl (fun _ _ h => h) (by decide) kw26 dX12_init_44) <|
    BS.sq (pc' := 49) (s_putF tyX12 12 isR inX12 tyX12_ok nmX12 kc14 (by decide) kw277 rfl rfl rfl rfl (okf_A G _) dX12_init_46) <|
    s_ret rfl dX12_init_49) <|
  AllB.n)
-- jdk/internal/util/Preconditions.checkFromToIndex(IIILjava/util/function/BiFunction;)I
noncomputable def bs_J3_checkFromToIndex_8c36e : List rBl := [sq (h_ld isI 0) (t_if (fun a => rLt a 0) 3 1),
  sq (h_ld isI 0) (sq (h_ld isI 1) (t_icmp (fun a b => rNot (rLe a b)) 3 2)),
  sq (h_ld isI 1) (sq (h_ld isI 2) (t_icmp rLe 4 3)),
  t_no,
  sq (h_ld isI 0) (t_retv isI)]
noncomputable def ev_J3_checkFromToIndex_8c36e : rEv := fun as w n => rIni 4 as (fun ls => rRun bs_J3_checkFromToIndex_8c36e 100000 0 ls [] w n 0)
set_option maxRecDepth 100000 in
set_option maxHeartbeats 4000000 in
theorem ok_J3_checkFromToIndex_8c36e (l : Launch) : rMet vwCl rFo rZs rRs rNs rTs l yJ3_checkFromToIndex_8c36e cJ3_checkFromToIndex_8c36e 4 ((Option.some FieldType.int)) 0 0 ev_J3_checkFromToIndex_8c36e := met_of (pcs := [0, 4, 9, 14, 22]) (by decide +kernel) rfl (fun G n0 =>
  AllB.c (pb := 0) (
    BS.sq (pc' := 1) (s_iload_n (k := 0) 0 rfl dJ3_checkFromToIndex_8c36e_0) <|
    s_if_lt rfl rfl (by decide) dJ3_checkFromToIndex_8c36e_1) <|
  AllB.c (pb := 4) (
    BS.sq (pc' := 5) (s_iload_n (k := 0) 0 rfl dJ3_checkFromToIndex_8c36e_4) <|
    BS.sq (pc' := 6) (s_iload_n (k := 1) 1 rfl dJ3_checkFromToIndex_8c36e_5) <|
    s_icmp_gt rfl rfl (by decide) dJ3_checkFromToIndex_8c36e_6) <|
  AllB.c (pb := 9) (
    BS.sq (pc' := 10) (s_iload_n (k := 1) 1 rfl dJ3_checkFromToIndex_8c36e_9) <|
    BS.sq (pc' := 11) (s_iload_n (k := 2) 2 rfl dJ3_checkFromToIndex_8c36e_10) <|
    s_icmp_le rfl rfl (by decide) dJ3_checkFromToIndex_8c36e_11) <|
  AllB.c (pb := 14) (
    BS.no) <|
  AllB.c (pb := 22) (
    BS.sq (pc' := 23) (s_iload_n (k := 0) 0 rfl dJ3_checkFromToIndex_8c36e_22) <|
    s_reti isI rfl okr_I dJ3_checkFromToIndex_8c36e_23) <|
  AllB.n)
-- java/lang/String.checkBoundsBeginEnd(III)V
noncomputable def bs_J0_checkBoundsBeginEnd_23922 : List rBl := [sq (h_ld isI 0) (sq (h_ld isI 1) (sq (h_ld isI 2) (sq (h_v (.inr (.inr 20002))) (sq (h_call 4 rAny ev_J3_checkFromToIndex_8c36e) (sq (h_pop) (t_ret))))))]
noncomputable def ev_J0_checkBoundsBeginEnd_23922 : rEv := fun as w n => rIni 3 as (fun ls => rRun bs_J0_checkBoundsBeginEnd_23922 100000 0 ls [] w n 0)
set_option maxRecDepth 100000 in
set_option maxHeartbeats 4000000 in
theorem ok_J0_checkBoundsBeginEnd_23922 (l : Launch) : rMet vwCl rFo rZs rRs rNs rTs l yJ0_checkBoundsBeginEnd_23922 cJ0_checkBoundsBeginEnd_23922 3 ((Option.none : Option FieldType)) 1 23 ev_J0_checkBoundsBeginEnd_23922 := met_of (pcs := [0]) (by decide +kernel) rfl (fun G n0 =>
  AllB.c (pb := 0) (
    BS.sq (pc' := 1) (s_iload_n (k := 0) 0 rfl dJ0_checkBoundsBeginEnd_23922_0) <|
    BS.sq (pc' := 2) (s_iload_n (k := 1) 1 rfl dJ0_checkBoundsBeginEnd_23922_1) <|
    BS.sq (pc' := 3) (s_iload_n (k := 2) 2 rfl dJ0_checkBoundsBeginEnd_23922_2) <|
    BS.sq (pc' := 6) (s_gets (.inr (.inr 20002)) kz1 kw45 rfl dJ0_checkBoundsBeginEnd_23922_3) <|
    BS.sq (pc' := 9) (s_callS 4 (ok_J3_checkFromToIndex_8c36e l) kGood kw279 kw280 kw49 kw278 (by decide +kernel) (by decide) (by decide) dJ0_checkBoundsBeginEnd_23922_6) <|
    BS.sq (pc' := 10) (s_pop dJ0_checkBoundsBeginEnd_23922_9) <|
    s_ret rfl dJ0_checkBoundsBeginEnd_23922_10) <|
  AllB.n)
-- java/util/Arrays.checkLength(II)V
noncomputable def bs_J7_checkLength_df160 : List rBl := [sq (h_ld isI 1) (sq (h_ld isI 0) (t_icmp (fun a b => rNot (rLt a b)) 2 1)),
  t_no,
  t_ret]
noncomputable def ev_J7_checkLength_df160 : rEv := fun as w n => rIni 2 as (fun ls => rRun bs_J7_checkLength_df160 100000 0 ls [] w n 0)
set_option maxRecDepth 100000 in
set_option maxHeartbeats 4000000 in
theorem ok_J7_checkLength_df160 (l : Launch) : rMet vwCl rFo rZs rRs rNs rTs l yJ7_checkLength_df160 cJ7_checkLength_df160 2 ((Option.none : Option FieldType)) 0 0 ev_J7_checkLength_df160 := met_of (pcs := [0, 5, 37]) (by decide +kernel) rfl (fun G n0 =>
  AllB.c (pb := 0) (
    BS.sq (pc' := 1) (s_iload_n (k := 1) 1 rfl dJ7_checkLength_df160_0) <|
    BS.sq (pc' := 2) (s_iload_n (k := 0) 0 rfl dJ7_checkLength_df160_1) <|
    s_icmp_ge rfl rfl (by decide) dJ7_checkLength_df160_2) <|
  AllB.c (pb := 5) (
    BS.no) <|
  AllB.c (pb := 37) (
    s_ret rfl dJ7_checkLength_df160_37) <|
  AllB.n)
-- java/util/Arrays.copyOfRangeByte([BII)[B
noncomputable def bs_J7_copyOfRangeByte_39247 : List rBl := [sq (h_ld isI 1) (sq (h_ld isI 2) (sq (h_call 2 rAny ev_J7_checkLength_df160) (sq (h_ld isI 2) (sq (h_ld isI 1) (sq (h_bin (fun _ _ => true) rSub) (sq (h_st isI 3) (sq (h_ld isI 3) (sq (h_newa 2 (.inl 0)) (sq (h_st isR 4) (sq (h_ld isR 0) (sq (h_ld isI 1) (sq (h_ld isR 4) (sq (h_v (.inl 0)) (sq (h_ld isR 0) (sq (h_alen rFo) (sq (h_ld isI 1) (sq (h_bin (fun _ _ => true) rSub) (sq (h_ld isI 3) (sq (h_mmin) (sq (h_acopy rFo) (sq (h_ld isR 4) (t_retv isR))))))))))))))))))))))]
noncomputable def ev_J7_copyOfRangeByte_39247 : rEv := fun as w n => rIni 5 as (fun ls => rRun bs_J7_copyOfRangeByte_39247 100000 0 ls [] w n 0)
set_option maxRecDepth 100000 in
set_option maxHeartbeats 4000000 in
theorem ok_J7_copyOfRangeByte_39247 (l : Launch) : rMet vwCl rFo rZs rRs rNs rTs l yJ7_copyOfRangeByte_39247 cJ7_copyOfRangeByte_39247 5 ((Option.some (FieldType.array FieldType.byte))) 1 100 ev_J7_copyOfRangeByte_39247 := met_of (pcs := [0]) (by decide +kernel) rfl (fun G n0 =>
  AllB.c (pb := 0) (
    BS.sq (pc' := 1) (s_iload_n (k := 1) 1 rfl dJ7_copyOfRangeByte_39247_0) <|
    BS.sq (pc' := 2) (s_iload_n (k := 2) 2 rfl dJ7_copyOfRangeByte_39247_1) <|
    BS.sq (pc' := 5) (s_callS 2 (ok_J7_checkLength_df160 l) kGood kw282 kw283 kw13 kw281 (by decide +kernel) (by decide) (by decide) dJ7_copyOfRangeByte_39247_2) <|
    BS.sq (pc' := 6) (s_iload_n (k := 2) 2 rfl dJ7_copyOfRangeByte_39247_5) <|
    BS.sq (pc' := 7) (s_iload_n (k := 1) 1 rfl dJ7_copyOfRangeByte_39247_6) <|
    BS.sq (pc' := 8) (s_isub dJ7_copyOfRangeByte_39247_7) <|
    BS.sq (pc' := 9) (s_istore_n (k := 3) 3 rfl (by decide) dJ7_copyOfRangeByte_39247_8) <|
    BS.sq (pc' := 10) (s_iload_n (k := 3) 3 rfl dJ7_copyOfRangeByte_39247_9) <|
    BS.sq (pc' := 12) (s_newa 2 (.inl 0) (by decide) rfl rfl (fun _ _ h => h) (by decide) kw3 dJ7_copyOfRangeByte_39247_10) <|
    BS.sq (pc' := 14) (s_astore 4 (by decide) dJ7_copyOfRangeByte_39247_12) <|
    BS.sq (pc' := 15) (s_aload_n (k := 0) 0 rfl dJ7_copyOfRangeByte_39247_14) <|
    BS.sq (pc' := 16) (s_iload_n (k := 1) 1 rfl dJ7_copyOfRangeByte_39247_15) <|
    BS.sq (pc' := 18) (s_aload 4 dJ7_copyOfRangeByte_39247_16) <|
    BS.sq (pc' := 19) (s_iconst 0 (by decide +kernel) dJ7_copyOfRangeByte_39247_18) <|
    BS.sq (pc' := 20) (s_aload_n (k := 0) 0 rfl dJ7_copyOfRangeByte_39247_19) <|
    BS.sq (pc' := 21) (s_alen dJ7_copyOfRangeByte_39247_20) <|
    BS.sq (pc' := 22) (s_iload_n (k := 1) 1 rfl dJ7_copyOfRangeByte_39247_21) <|
    BS.sq (pc' := 23) (s_isub dJ7_copyOfRangeByte_39247_22) <|
    BS.sq (pc' := 24) (s_iload_n (k := 3) 3 rfl dJ7_copyOfRangeByte_39247_23) <|
    BS.sq (pc' := 27) (s_mmin kw284 kw285 kw286 kw287 (by decide) (by decide) dJ7_copyOfRangeByte_39247_24) <|
    BS.sq (pc' := 30) (s_acopy kw288 kw62 kw63 kw64 (by decide) (by decide) dJ7_copyOfRangeByte_39247_27) <|
    BS.sq (pc' := 32) (s_aload 4 dJ7_copyOfRangeByte_39247_30) <|
    s_reta rfl (Or.inr ⟨_, rfl⟩) dJ7_copyOfRangeByte_39247_32) <|
  AllB.n)
-- java/util/Arrays.copyOfRange([BII)[B
noncomputable def bs_J7_copyOfRange_39247 : List rBl := [sq (h_ld isI 1) (t_if (fun a => rNot (rEq a 0)) 2 1),
  sq (h_ld isI 2) (sq (h_ld isR 0) (sq (h_alen rFo) (t_icmp rEq 3 2))),
  sq (h_ld isR 0) (sq (h_ld isI 1) (sq (h_ld isI 2) (sq (h_call 3 rAny ev_J7_copyOfRangeByte_39247) (t_retv isR)))),
  t_no]
noncomputable def ev_J7_copyOfRange_39247 : rEv := fun as w n => rIni 3 as (fun ls => rRun bs_J7_copyOfRange_39247 100000 0 ls [] w n 0)
set_option maxRecDepth 100000 in
set_option maxHeartbeats 4000000 in
theorem ok_J7_copyOfRange_39247 (l : Launch) : rMet vwCl rFo rZs rRs rNs rTs l yJ7_copyOfRange_39247 cJ7_copyOfRange_39247 3 ((Option.some (FieldType.array FieldType.byte))) 2 124 ev_J7_copyOfRange_39247 := met_of (pcs := [0, 4, 10, 17]) (by decide +kernel) rfl (fun G n0 =>
  AllB.c (pb := 0) (
    BS.sq (pc' := 1) (s_iload_n (k := 1) 1 rfl dJ7_copyOfRange_39247_0) <|
    s_if_ne rfl rfl (by decide) dJ7_copyOfRange_39247_1) <|
  AllB.c (pb := 4) (
    BS.sq (pc' := 5) (s_iload_n (k := 2) 2 rfl dJ7_copyOfRange_39247_4) <|
    BS.sq (pc' := 6) (s_aload_n (k := 0) 0 rfl dJ7_copyOfRange_39247_5) <|
    BS.sq (pc' := 7) (s_alen dJ7_copyOfRange_39247_6) <|
    s_icmp_eq rfl rfl (by decide) dJ7_copyOfRange_39247_7) <|
  AllB.c (pb := 10) (
    BS.sq (pc' := 11) (s_aload_n (k := 0) 0 rfl dJ7_copyOfRange_39247_10) <|
    BS.sq (pc' := 12) (s_iload_n (k := 1) 1 rfl dJ7_copyOfRange_39247_11) <|
    BS.sq (pc' := 13) (s_iload_n (k := 2) 2 rfl dJ7_copyOfRange_39247_12) <|
    BS.sq (pc' := 16) (s_callS 3 (ok_J7_copyOfRangeByte_39247 l) kGood kw290 kw291 kw13 kw289 (by decide +kernel) (by decide) (by decide) dJ7_copyOfRange_39247_13) <|
    s_reta rfl (Or.inr ⟨_, rfl⟩) dJ7_copyOfRange_39247_16) <|
  AllB.c (pb := 17) (
    BS.no) <|
  AllB.n)
-- java/lang/String.<init>([BB)V
noncomputable def bs_J0_init_031fb : List rBl := [sq (h_ld isR 0) (sq (h_oinit) (sq (h_ld isR 0) (sq (h_ld isR 1) (sq (h_put 0 0 isR) (sq (h_ld isR 0) (sq (h_ld isI 2) (sq (h_put 0 1 isB) (t_ret))))))))]
noncomputable def ev_J0_init_031fb : rEv := fun as w n => rIni 3 as (fun ls => rRun bs_J0_init_031fb 100000 0 ls [] w n 0)
set_option maxRecDepth 100000 in
set_option maxHeartbeats 4000000 in
theorem ok_J0_init_031fb (l : Launch) : rMet vwCl rFo rZs rRs rNs rTs l yJ0_init_031fb cJ0_init_031fb 3 ((Option.none : Option FieldType)) 1 20 ev_J0_init_031fb := met_of (pcs := [0]) (by decide +kernel) rfl (fun G n0 =>
  AllB.c (pb := 0) (
    BS.sq (pc' := 1) (s_aload_n (k := 0) 0 rfl dJ0_init_031fb_0) <|
    BS.sq (pc' := 4) (s_oinit kw292 kw2 kwObj (by decide) (by decide) dJ0_init_031fb_1) <|
    BS.sq (pc' := 5) (s_aload_n (k := 0) 0 rfl dJ0_init_031fb_4) <|
    BS.sq (pc' := 6) (s_aload_n (k := 1) 1 rfl dJ0_init_031fb_5) <|
    BS.sq (pc' := 9) (s_putF tyJ0 0 isR inJ0 tyJ0_ok nmJ0 kc0 (by decide) kw39 rfl rfl rfl rfl (okf_A G _) dJ0_init_031fb_6) <|
    BS.sq (pc' := 10) (s_aload_n (k := 0) 0 rfl dJ0_init_031fb_9) <|
    BS.sq (pc' := 11) (s_iload_n (k := 2) 2 rfl dJ0_init_031fb_10) <|
    BS.sq (pc' := 14) (s_putF tyJ0 1 isB inJ0 tyJ0_ok nmJ0 kc0 (by decide) kw38 rfl rfl rfl rfl (okf_B G) dJ0_init_031fb_11) <|
    s_ret rfl dJ0_init_031fb_14) <|
  AllB.n)
-- java/lang/StringLatin1.newString([BII)Ljava/lang/String;
noncomputable def bs_J1_newString_b4f7a : List rBl := [sq (h_ld isI 2) (t_if (fun a => rNot (rEq a 0)) 2 1),
  t_no,
  sq (h_new 0 4 [.inr (.inr 0), .inl 0, .inl 0, .inl 0]) (sq (h_dup) (sq (h_ld isR 0) (sq (h_ld isI 1) (sq (h_ld isI 1) (sq (h_ld isI 2) (sq (h_bin (fun _ _ => true) rAdd) (sq (h_call 3 rAny ev_J7_copyOfRange_39247) (sq (h_v (.inl 0)) (sq (h_call 3 (rRecv rFo 0) ev_J0_init_031fb) (t_retv isR))))))))))]
noncomputable def ev_J1_newString_b4f7a : rEv := fun as w n => rIni 3 as (fun ls => rRun bs_J1_newString_b4f7a 100000 0 ls [] w n 0)
set_option maxRecDepth 100000 in
set_option maxHeartbeats 4000000 in
theorem ok_J1_newString_b4f7a (l : Launch) : rMet vwCl rFo rZs rRs rNs rTs l yJ1_newString_b4f7a cJ1_newString_b4f7a 3 ((Option.some (FieldType.object "java/lang/String"))) 3 146 ev_J1_newString_b4f7a := met_of (pcs := [0, 4, 7]) (by decide +kernel) rfl (fun G n0 =>
  AllB.c (pb := 0) (
    BS.sq (pc' := 1) (s_iload_n (k := 2) 2 rfl dJ1_newString_b4f7a_0) <|
    s_if_ne rfl rfl (by decide) dJ1_newString_b4f7a_1) <|
  AllB.c (pb := 4) (
    BS.no) <|
  AllB.c (pb := 7) (
    BS.sq (pc' := 10) (s_new tyJ0 inJ0 tyJ0_ok kc0 kw293 kw294 kw44 rfl rfl dJ1_newString_b4f7a_7) <|
    BS.sq (pc' := 11) (s_dup dJ1_newString_b4f7a_10) <|
    BS.sq (pc' := 12) (s_aload_n (k := 0) 0 rfl dJ1_newString_b4f7a_11) <|
    BS.sq (pc' := 13) (s_iload_n (k := 1) 1 rfl dJ1_newString_b4f7a_12) <|
    BS.sq (pc' := 14) (s_iload_n (k := 1) 1 rfl dJ1_newString_b4f7a_13) <|
    BS.sq (pc' := 15) (s_iload_n (k := 2) 2 rfl dJ1_newString_b4f7a_14) <|
    BS.sq (pc' := 16) (s_iadd dJ1_newString_b4f7a_15) <|
    BS.sq (pc' := 19) (s_callS 3 (ok_J7_copyOfRange_39247 l) kGood kw296 kw297 kw13 kw295 (by decide +kernel) (by decide) (by decide) dJ1_newString_b4f7a_16) <|
    BS.sq (pc' := 20) (s_iconst 0 (by decide +kernel) dJ1_newString_b4f7a_19) <|
    BS.sq (pc' := 23) (s_callI 2 0 kc0 (ok_J0_init_031fb l) kGood kw299 kw300 kw44 kw298 rfl (by decide +kernel) (by decide) (by decide) dJ1_newString_b4f7a_20) <|
    s_reta rfl (Or.inl ⟨_, rfl⟩) dJ1_newString_b4f7a_23) <|
  AllB.n)
-- java/lang/String.substring(II)Ljava/lang/String;
noncomputable def bs_J0_substring_37a41 : List rBl := [sq (h_ld isR 0) (sq (h_call 1 (rRecv rFo 0) ev_J0_length_8abf5) (sq (h_st isI 3) (sq (h_ld isI 1) (sq (h_ld isI 2) (sq (h_ld isI 3) (sq (h_call 3 rAny ev_J0_checkBoundsBeginEnd_23922) (sq (h_ld isI 1) (t_if (fun a => rNot (rEq a 0)) 3 1)))))))),
  sq (h_ld isI 2) (sq (h_ld isI 3) (t_icmp (fun a b => rNot (rEq a b)) 3 2)),
  t_no,
  sq (h_ld isI 2) (sq (h_ld isI 1) (sq (h_bin (fun _ _ => true) rSub) (sq (h_st isI 4) (sq (h_ld isR 0) (sq (h_call 1 (rRecv rFo 0) ev_J0_isLatin1_aae02) (t_if (fun a => rEq a 0) 5 4)))))),
  sq (h_ld isR 0) (sq (h_get rFo 0 0) (sq (h_ld isI 1) (sq (h_ld isI 4) (sq (h_call 3 rAny ev_J1_newString_b4f7a) (t_go 6))))),
  t_no,
  t_retv isR]
noncomputable def ev_J0_substring_37a41 : rEv := fun as w n => rIni 5 as (fun ls => rRun bs_J0_substring_37a41 100000 0 ls [] w n 0)
set_option maxRecDepth 100000 in
set_option maxHeartbeats 4000000 in
theorem ok_J0_substring_37a41 (l : Launch) : rMet vwCl rFo rZs rRs rNs rTs l yJ0_substring_37a41 cJ0_substring_37a41 5 ((Option.some (FieldType.object "java/lang/String"))) 4 168 ev_J0_substring_37a41 := met_of (pcs := [0, 15, 20, 22, 34, 47, 57]) (by decide +kernel) rfl (fun G n0 =>
  AllB.c (pb := 0) (
    BS.sq (pc' := 1) (s_aload_n (k := 0) 0 rfl dJ0_substring_37a41_0) <|
    BS.sq (pc' := 4) (s_callV 0 0 kc0 (ok_J0_length_8abf5 l) kGood kw301 kw67 kw68 kw44 kw65 (by decide +kernel) (by decide) (by decide) dJ0_substring_37a41_1) <|
    BS.sq (pc' := 5) (s_istore_n (k := 3) 3 rfl (by decide) dJ0_substring_37a41_4) <|
    BS.sq (pc' := 6) (s_iload_n (k := 1) 1 rfl dJ0_substring_37a41_5) <|
    BS.sq (pc' := 7) (s_iload_n (k := 2) 2 rfl dJ0_substring_37a41_6) <|
    BS.sq (pc' := 8) (s_iload_n (k := 3) 3 rfl dJ0_substring_37a41_7) <|
    BS.sq (pc' := 11) (s_callS 3 (ok_J0_checkBoundsBeginEnd_23922 l) kGood kw303 kw304 kw44 kw302 (by decide +kernel) (by decide) (by decide) dJ0_substring_37a41_8) <|
    BS.sq (pc' := 12) (s_iload_n (k := 1) 1 rfl dJ0_substring_37a41_11) <|
    s_if_ne rfl rfl (by decide) dJ0_substring_37a41_12) <|
  AllB.c (pb := 15) (
    BS.sq (pc' := 16) (s_iload_n (k := 2) 2 rfl dJ0_substring_37a41_15) <|
    BS.sq (pc' := 17) (s_iload_n (k := 3) 3 rfl dJ0_substring_37a41_16) <|
    s_icmp_ne rfl rfl (by decide) dJ0_substring_37a41_17) <|
  AllB.c (pb := 20) (
    BS.no) <|
  AllB.c (pb := 22) (
    BS.sq (pc' := 23) (s_iload_n (k := 2) 2 rfl dJ0_substring_37a41_22) <|
    BS.sq (pc' := 24) (s_iload_n (k := 1) 1 rfl dJ0_substring_37a41_23) <|
    BS.sq (pc' := 25) (s_isub dJ0_substring_37a41_24) <|
    BS.sq (pc' := 27) (s_istore 4 (by decide) dJ0_substring_37a41_25) <|
    BS.sq (pc' := 28) (s_aload_n (k := 0) 0 rfl dJ0_substring_37a41_27) <|
    BS.sq (pc' := 31) (s_callV 0 0 kc0 (ok_J0_isLatin1_aae02 l) kGood kw54 kw55 kw56 kw44 kw53 (by decide +kernel) (by decide) (by decide) dJ0_substring_37a41_28) <|
    s_if_eq rfl rfl (by decide) dJ0_substring_37a41_31) <|
  AllB.c (pb := 34) (
    BS.sq (pc' := 35) (s_aload_n (k := 0) 0 rfl dJ0_substring_37a41_34) <|
    BS.sq (pc' := 38) (s_get 0 inJ0 kc0 (by decide) kw39 rfl dJ0_substring_37a41_35) <|
    BS.sq (pc' := 39) (s_iload_n (k := 1) 1 rfl dJ0_substring_37a41_38) <|
    BS.sq (pc' := 41) (s_iload 4 dJ0_substring_37a41_39) <|
    BS.sq (pc' := 44) (s_callS 3 (ok_J1_newString_b4f7a l) kGood kw306 kw307 kw60 kw305 (by decide +kernel) (by decide) (by decide) dJ0_substring_37a41_41) <|
    s_goto rfl (by decide) dJ0_substring_37a41_44) <|
  AllB.c (pb := 47) (
    BS.no) <|
  AllB.c (pb := 57) (
    s_reta rfl (Or.inl ⟨_, rfl⟩) dJ0_substring_37a41_57) <|
  AllB.n)
-- NativeWorksModel.pack(Ljava/lang/String;)J
noncomputable def bs_X13_pack : List rBl := [sq (h_v (.inr (.inl 0))) (sq (h_st2 1) (sq (h_v (.inl 0)) (sq (h_st isI 3) (t_go 1)))),
  sq (h_ld isI 3) (sq (h_ld isR 0) (sq (h_call 1 (rRecv rFo 0) ev_J0_length_8abf5) (t_icmp (fun a b => rNot (rLt a b)) 3 2))),
  sq (h_ld isJ 1) (sq (h_v (.inl 8)) (sq (h_lsh rShlL) (sq (h_ld isR 0) (sq (h_ld isI 3) (sq (h_call 2 (rRecv rFo 0) ev_J0_charAt_5068e) (sq (h_i2l) (sq (h_lbin Nat.lor) (sq (h_st2 1) (sq (h_inc 3 1) (t_go 1)))))))))),
  sq (h_ld isJ 1) (t_retv isJ)]
noncomputable def ev_X13_pack : rEv := fun as w n => rIni 4 as (fun ls => rRun bs_X13_pack 100000 0 ls [] w n 0)
set_option maxRecDepth 100000 in
set_option maxHeartbeats 4000000 in
theorem ok_X13_pack (l : Launch) : rMet vwCl rFo rZs rRs rNs rTs l yX13_pack cX13_pack 4 ((Option.some FieldType.long)) 4 85 ev_X13_pack := met_of (pcs := [0, 4, 12, 30]) (by decide +kernel) rfl (fun G n0 =>
  AllB.c (pb := 0) (
    BS.sq (pc' := 1) (s_lconst 0 (by decide +kernel) dX13_pack_0) <|
    BS.sq (pc' := 2) (s_lstore_n (k := 1) 1 rfl (by decide) dX13_pack_1) <|
    BS.sq (pc' := 3) (s_iconst 0 (by decide +kernel) dX13_pack_2) <|
    BS.sq (pc' := 4) (s_istore_n (k := 3) 3 rfl (by decide) dX13_pack_3) <|
    BS.go rfl) <|
  AllB.c (pb := 4) (
    BS.sq (pc' := 5) (s_iload_n (k := 3) 3 rfl dX13_pack_4) <|
    BS.sq (pc' := 6) (s_aload_n (k := 0) 0 rfl dX13_pack_5) <|
    BS.sq (pc' := 9) (s_callV 0 0 kc0 (ok_J0_length_8abf5 l) kGood kw308 kw67 kw68 kw44 kw65 (by decide +kernel) (by decide) (by decide) dX13_pack_6) <|
    s_icmp_ge rfl rfl (by decide) dX13_pack_9) <|
  AllB.c (pb := 12) (
    BS.sq (pc' := 13) (s_lload_n (k := 1) 1 rfl dX13_pack_12) <|
    BS.sq (pc' := 15) (s_bipush 8 (by decide +kernel) dX13_pack_13) <|
    BS.sq (pc' := 16) (s_lshl dX13_pack_15) <|
    BS.sq (pc' := 17) (s_aload_n (k := 0) 0 rfl dX13_pack_16) <|
    BS.sq (pc' := 18) (s_iload_n (k := 3) 3 rfl dX13_pack_17) <|
    BS.sq (pc' := 21) (s_callV 1 0 kc0 (ok_J0_charAt_5068e l) kGood kw309 kw72 kw73 kw44 kw70 (by decide +kernel) (by decide) (by decide) dX13_pack_18) <|
    BS.sq (pc' := 22) (s_i2l dX13_pack_21) <|
    BS.sq (pc' := 23) (s_lor dX13_pack_22) <|
    BS.sq (pc' := 24) (s_lstore_n (k := 1) 1 rfl (by decide) dX13_pack_23) <|
    BS.sq (pc' := 27) (s_iinc 3 1 (1) (by decide +kernel) (by decide) dX13_pack_24) <|
    s_goto rfl (by decide) dX13_pack_27) <|
  AllB.c (pb := 30) (
    BS.sq (pc' := 31) (s_lload_n (k := 1) 1 rfl dX13_pack_30) <|
    s_retl rfl dX13_pack_31) <|
  AllB.n)
-- NativeWorksModel.word(Ljava/lang/String;I)V
noncomputable def bs_X13_word : List rBl := [sq (h_ld isR 0) (sq (h_get rFo 15 5) (sq (h_ld isR 0) (sq (h_get rFo 15 3) (sq (h_ld isR 1) (sq (h_call 1 rAny ev_X13_pack) (sq (h_ast okJ) (sq (h_ld isR 0) (sq (h_get rFo 15 7) (sq (h_ld isR 0) (sq (h_get rFo 15 3) (sq (h_ld isI 2) (sq (h_ast okI) (sq (h_ld isR 0) (sq (h_dup) (sq (h_get rFo 15 3) (sq (h_v (.inl 1)) (sq (h_bin (fun _ _ => true) rAdd) (sq (h_put 15 3 isI) (t_ret)))))))))))))))))))]
noncomputable def ev_X13_word : rEv := fun as w n => rIni 3 as (fun ls => rRun bs_X13_word 100000 0 ls [] w n 0)
set_option maxRecDepth 100000 in
set_option maxHeartbeats 4000000 in
theorem ok_X13_word (l : Launch) : rMet vwCl rFo rZs rRs rNs rTs l yX13_word cX13_word 3 ((Option.none : Option FieldType)) 5 108 ev_X13_word := met_of (pcs := [0]) (by decide +kernel) rfl (fun G n0 =>
  AllB.c (pb := 0) (
    BS.sq (pc' := 1) (s_aload_n (k := 0) 0 rfl dX13_word_0) <|
    BS.sq (pc' := 4) (s_get 5 inX13 kc15 (by decide) kw310 rfl dX13_word_1) <|
    BS.sq (pc' := 5) (s_aload_n (k := 0) 0 rfl dX13_word_4) <|
    BS.sq (pc' := 8) (s_get 3 inX13 kc15 (by decide) kw311 rfl dX13_word_5) <|
    BS.sq (pc' := 9) (s_aload_n (k := 1) 1 rfl dX13_word_8) <|
    BS.sq (pc' := 12) (s_callS 1 (ok_X13_pack l) kGood kw313 kw314 kw315 kw312 (by decide +kernel) (by decide) (by decide) dX13_word_9) <|
    BS.sq (pc' := 13) (s_lastore dX13_word_12) <|
    BS.sq (pc' := 14) (s_aload_n (k := 0) 0 rfl dX13_word_13) <|
    BS.sq (pc' := 17) (s_get 7 inX13 kc15 (by decide) kw316 rfl dX13_word_14) <|
    BS.sq (pc' := 18) (s_aload_n (k := 0) 0 rfl dX13_word_17) <|
    BS.sq (pc' := 21) (s_get 3 inX13 kc15 (by decide) kw311 rfl dX13_word_18) <|
    BS.sq (pc' := 22) (s_iload_n (k := 2) 2 rfl dX13_word_21) <|
    BS.sq (pc' := 23) (s_iastore dX13_word_22) <|
    BS.sq (pc' := 24) (s_aload_n (k := 0) 0 rfl dX13_word_23) <|
    BS.sq (pc' := 25) (s_dup dX13_word_24) <|
    BS.sq (pc' := 28) (s_get 3 inX13 kc15 (by decide) kw311 rfl dX13_word_25) <|
    BS.sq (pc' := 29) (s_iconst 1 (by decide +kernel) dX13_word_28) <|
    BS.sq (pc' := 30) (s_iadd dX13_word_29) <|
    BS.sq (pc' := 33) (s_put tyX13 3 isI inX13 tyX13_ok nmX13 kc15 (by decide) kw311 rfl rfl (okf_I G) dX13_word_30) <|
    s_ret rfl dX13_word_33) <|
  AllB.n)
-- NativeWorksModel.wordsOf(Ljava/lang/String;I)V
noncomputable def bs_X13_wordsOf : List rBl := [sq (h_ld isI 2) (sq (h_st isI 3) (sq (h_v (.inl 0)) (sq (h_st isI 4) (sq (h_v (.inl 0)) (sq (h_st isI 5) (t_go 1)))))),
  sq (h_ld isI 5) (sq (h_ld isR 1) (sq (h_call 1 (rRecv rFo 0) ev_J0_length_8abf5) (t_icmp (fun a b => rNot (rLe a b)) 7 2))),
  sq (h_ld isI 5) (sq (h_ld isR 1) (sq (h_call 1 (rRecv rFo 0) ev_J0_length_8abf5) (t_icmp (fun a b => rNot (rLt a b)) 5 3))),
  sq (h_ld isR 1) (sq (h_ld isI 5) (sq (h_call 2 (rRecv rFo 0) ev_J0_charAt_5068e) (sq (h_v (.inl 32)) (t_icmp rEq 5 4)))),
  t_go 6,
  sq (h_ld isR 0) (sq (h_ld isR 1) (sq (h_ld isI 4) (sq (h_ld isI 5) (sq (h_call 3 (rRecv rFo 0) ev_J0_substring_37a41) (sq (h_ld isI 3) (sq (h_call 3 (rRecv rFo 15) ev_X13_word) (sq (h_inc 3 1) (sq (h_ld isI 5) (sq (h_v (.inl 1)) (sq (h_bin (fun _ _ => true) rAdd) (sq (h_st isI 4) (t_go 6)))))))))))),
  sq (h_inc 5 1) (t_go 1),
  t_ret]
noncomputable def ev_X13_wordsOf : rEv := fun as w n => rIni 6 as (fun ls => rRun bs_X13_wordsOf 100000 0 ls [] w n 0)
set_option maxRecDepth 100000 in
set_option maxHeartbeats 4000000 in
theorem ok_X13_wordsOf (l : Launch) : rMet vwCl rFo rZs rRs rNs rTs l yX13_wordsOf cX13_wordsOf 6 ((Option.none : Option FieldType)) 6 192 ev_X13_wordsOf := met_of (pcs := [0, 8, 17, 26, 37, 40, 62, 68]) (by decide +kernel) rfl (fun G n0 =>
  AllB.c (pb := 0) (
    BS.sq (pc' := 1) (s_iload_n (k := 2) 2 rfl dX13_wordsOf_0) <|
    BS.sq (pc' := 2) (s_istore_n (k := 3) 3 rfl (by decide) dX13_wordsOf_1) <|
    BS.sq (pc' := 3) (s_iconst 0 (by decide +kernel) dX13_wordsOf_2) <|
    BS.sq (pc' := 5) (s_istore 4 (by decide) dX13_wordsOf_3) <|
    BS.sq (pc' := 6) (s_iconst 0 (by decide +kernel) dX13_wordsOf_5) <|
    BS.sq (pc' := 8) (s_istore 5 (by decide) dX13_wordsOf_6) <|
    BS.go rfl) <|
  AllB.c (pb := 8) (
    BS.sq (pc' := 10) (s_iload 5 dX13_wordsOf_8) <|
    BS.sq (pc' := 11) (s_aload_n (k := 1) 1 rfl dX13_wordsOf_10) <|
    BS.sq (pc' := 14) (s_callV 0 0 kc0 (ok_J0_length_8abf5 l) kGood kw308 kw67 kw68 kw44 kw65 (by decide +kernel) (by decide) (by decide) dX13_wordsOf_11) <|
    s_icmp_gt rfl rfl (by decide) dX13_wordsOf_14) <|
  AllB.c (pb := 17) (
    BS.sq (pc' := 19) (s_iload 5 dX13_wordsOf_17) <|
    BS.sq (pc' := 20) (s_aload_n (k := 1) 1 rfl dX13_wordsOf_19) <|
    BS.sq (pc' := 23) (s_callV 0 0 kc0 (ok_J0_length_8abf5 l) kGood kw308 kw67 kw68 kw44 kw65 (by decide +kernel) (by decide) (by decide) dX13_wordsOf_20) <|
    s_icmp_ge rfl rfl (by decide) dX13_wordsOf_23) <|
  AllB.c (pb := 26) (
    BS.sq (pc' := 27) (s_aload_n (k := 1) 1 rfl dX13_wordsOf_26) <|
    BS.sq (pc' := 29) (s_iload 5 dX13_wordsOf_27) <|
    BS.sq (pc' := 32) (s_callV 1 0 kc0 (ok_J0_charAt_5068e l) kGood kw309 kw72 kw73 kw44 kw70 (by decide +kernel) (by decide) (by decide) dX13_wordsOf_29) <|
    BS.sq (pc' := 34) (s_bipush 32 (by decide +kernel) dX13_wordsOf_32) <|
    s_icmp_eq rfl rfl (by decide) dX13_wordsOf_34) <|
  AllB.c (pb := 37) (
    s_goto rfl (by decide) dX13_wordsOf_37) <|
  AllB.c (pb := 40) (
    BS.sq (pc' := 41) (s_aload_n (k := 0) 0 rfl dX13_wordsOf_40) <|
    BS.sq (pc' := 42) (s_aload_n (k := 1) 1 rfl dX13_wordsOf_41) <|
    BS.sq (pc' := 44) (s_iload 4 dX13_wordsOf_42) <|
    BS.sq (pc' := 46) (s_iload 5 dX13_wordsOf_44) <|
    BS.sq (pc' := 49) (s_callV 2 0 kc0 (ok_J0_substring_37a41 l) kGood kw318 kw319 kw320 kw44 kw317 (by decide +kernel) (by decide) (by decide) dX13_wordsOf_46) <|
    BS.sq (pc' := 50) (s_iload_n (k := 3) 3 rfl dX13_wordsOf_49) <|
    BS.sq (pc' := 53) (s_callV 2 15 kc15 (ok_X13_word l) kGood kw322 kw323 kw324 kw315 kw321 (by decide +kernel) (by decide) (by decide) dX13_wordsOf_50) <|
    BS.sq (pc' := 56) (s_iinc 3 1 (1) (by decide +kernel) (by decide) dX13_wordsOf_53) <|
    BS.sq (pc' := 58) (s_iload 5 dX13_wordsOf_56) <|
    BS.sq (pc' := 59) (s_iconst 1 (by decide +kernel) dX13_wordsOf_58) <|
    BS.sq (pc' := 60) (s_iadd dX13_wordsOf_59) <|
    BS.sq (pc' := 62) (s_istore 4 (by decide) dX13_wordsOf_60) <|
    BS.go rfl) <|
  AllB.c (pb := 62) (
    BS.sq (pc' := 65) (s_iinc 5 1 (1) (by decide +kernel) (by decide) dX13_wordsOf_62) <|
    s_goto rfl (by decide) dX13_wordsOf_65) <|
  AllB.c (pb := 68) (
    s_ret rfl dX13_wordsOf_68) <|
  AllB.n)
