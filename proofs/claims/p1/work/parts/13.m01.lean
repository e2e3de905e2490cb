/-! METHODS -/
-- NativeWorks.<init>()V
noncomputable def bs_X11_init : List rBl := [sq (h_ld isR 0) (sq (h_oinit) (sq (h_v (.inl 65536)) (sq (h_newa 2 (.inl 0)) (sq (h_st isR 1) (sq (h_new 12 19 [.inr (.inr 0), .inr (.inr 0), .inr (.inr 0), .inr (.inr 0), .inr (.inr 0), .inr (.inr 0), .inr (.inr 0), .inr (.inr 0), .inr (.inr 0), .inr (.inr 0), .inr (.inr 0), .inl 0, .inl 0, .inl 0, .inl 0, .inl 0, .inl 0, .inl 0, .inl 0]) (sq (h_dup) (sq (h_call 1 (rRecv rFo 12) ev_X10_init) (sq (h_st isR 2) (sq (h_ld isR 0) (sq (h_ld isR 1) (sq (h_put 13 0 isR) (sq (h_ld isR 0) (sq (h_ld isR 2) (sq (h_put 13 1 isR) (sq (h_ld isR 0) (sq (h_new 2 15 [.inr (.inr 0), .inr (.inr 0), .inr (.inr 0), .inr (.inr 0), .inr (.inr 0), .inr (.inr 0), .inl 0, .inl 0, .inl 0, .inl 0, .inl 0, .inl 0, .inl 0, .inl 0, .inl 0]) (sq (h_dup) (sq (h_ld isR 1) (sq (h_ld isR 2) (sq (h_call 3 (rRecv rFo 2) ev_X0_init) (sq (h_put 13 2 isR) (sq (h_ld isR 0) (sq (h_new 6 18 [.inr (.inr 0), .inr (.inr 0), .inr (.inr 0), .inr (.inr 0), .inr (.inr 0), .inr (.inr 0), .inr (.inr 0), .inr (.inr 0), .inr (.inr 0), .inr (.inr 0), .inr (.inr 0), .inl 0, .inl 0, .inl 0, .inl 0, .inl 0, .inl 0, .inl 0]) (sq (h_dup) (sq (h_ld isR 2) (sq (h_call 2 (rRecv rFo 6) ev_X4_init) (sq (h_put 13 3 isR) (sq (h_ld isR 0) (sq (h_new 7 17 [.inr (.inr 0), .inr (.inr 0), .inr (.inr 0), .inr (.inr 0), .inr (.inr 0), .inr (.inr 0), .inr (.inl 0), .inl 0, .inl 0, .inl 0, .inl 0, .inl 0, .inr (.inl 0), .inl 0, .inr (.inl 0), .inr (.inl 0), .inr (.inl 0)]) (sq (h_dup) (sq (h_call 1 (rRecv rFo 7) ev_X5_init) (sq (h_put 13 4 isR) (sq (h_ld isR 0) (sq (h_v (.inl 0)) (sq (h_put 13 5 isI) (sq (h_ld isR 0) (sq (h_v (.inl 0)) (sq (h_put 13 6 isI) (sq (h_ld isR 0) (sq (h_v (.inl 0)) (sq (h_put 13 7 isI) (sq (h_ld isR 0) (sq (h_v (.inl 4294967295)) (sq (h_put 13 8 isI) (t_ret)))))))))))))))))))))))))))))))))))))))))))))]
noncomputable def ev_X11_init : rEv := fun as w n => rIni 3 as (fun ls => rRun bs_X11_init 100000 0 ls [] w n 0)
set_option maxRecDepth 100000 in
set_option maxHeartbeats 4000000 in
theorem ok_X11_init (l : Launch) : rMet vwCl rFo rZs rRs rNs rTs l yX11_init cX11_init 3 ((Option.none : Option FieldType)) 7 191 ev_X11_init := met_of (pcs := [0]) (by decide +kernel) rfl (fun G n0 =>
  AllB.c (pb := 0) (
    BS.sq (pc' := 1) (s_aload_n (k := 0) 0 rfl dX11_init_0) <|
    BS.sq (pc' := 4) (s_oinit kw237 kw2 kwObj (by decide) (by decide) dX11_init_1) <|
    BS.sq (pc' := 6) (s_ldc 65536 kw238 dX11_init_4) <|
    BS.sq (pc' := 8) (s_newa 2 (.inl 0) (by decide) rfl rfl (fun _ _ h => h) (by decide) kw3 dX11_init_6) <|
    BS.sq (pc' := 9) (s_astore_n (k := 1) 1 rfl (by decide) dX11_init_8) <|
    BS.sq (pc' := 12) (s_new tyX10 inX10 tyX10_ok kc12 kw239 kw240 kw241 rfl rfl dX11_init_9) <|
    BS.sq (pc' := 13) (s_dup dX11_init_12) <|
    BS.sq (pc' := 16) (s_callI 0 12 kc12 (ok_X10_init l) kGood kw243 kw244 kw241 kw242 rfl (by decide +kernel) (by decide) (by decide) dX11_init_13) <|
    BS.sq (pc' := 17) (s_astore_n (k := 2) 2 rfl (by decide) dX11_init_16) <|
    BS.sq (pc' := 18) (s_aload_n (k := 0) 0 rfl dX11_init_17) <|
    BS.sq (pc' := 19) (s_aload_n (k := 1) 1 rfl dX11_init_18) <|
    BS.sq (pc' := 22) (s_putF tyX11 0 isR inX11 tyX11_ok nmX11 kc13 (by decide) kw245 rfl rfl rfl rfl (okf_A G _) dX11_init_19) <|
    BS.sq (pc' := 23) (s_aload_n (k := 0) 0 rfl dX11_init_22) <|
    BS.sq (pc' := 24) (s_aload_n (k := 2) 2 rfl dX11_init_23) <|
    BS.sq (pc' := 27) (s_putF tyX11 1 isR inX11 tyX11_ok nmX11 kc13 (by decide) kw246 rfl rfl rfl rfl (okf_O G _) dX11_init_24) <|
    BS.sq (pc' := 28) (s_aload_n (k := 0) 0 rfl dX11_init_27) <|
    BS.sq (pc' := 31) (s_new tyX0 inX0 tyX0_ok kc2 kw247 kw248 kw249 rfl rfl dX11_init_28) <|
    BS.sq (pc' := 32) (s_dup dX11_init_31) <|
    BS.sq (pc' := 33) (s_aload_n (k := 1) 1 rfl dX11_init_32) <|
    BS.sq (pc' := 34) (s_aload_n (k := 2) 2 rfl dX11_init_33) <|
    BS.sq (pc' := 37) (s_callI 2 2 kc2 (ok_X0_init l) kGood kw251 kw252 kw249 kw250 rfl (by decide +kernel) (by decide) (by decide) dX11_init_34) <|
    BS.sq (pc' := 40) (s_putF tyX11 2 isR inX11 tyX11_ok nmX11 kc13 (by decide) kw253 rfl rfl rfl rfl (okf_O G _) dX11_init_37) <|
    BS.sq (pc' := 41) (s_aload_n (k := 0) 0 rfl dX11_init_40) <|
    BS.sq (pc' := 44) (s_new tyX4 inX4 tyX4_ok kc6 kw254 kw255 kw256 rfl rfl dX11_init_41) <|
    BS.sq (pc' := 45) (s_dup dX11_init_44) <|
    BS.sq (pc' := 46) (s_aload_n (k := 2) 2 rfl dX11_init_45) <|
    BS.sq (pc' := 49) (s_callI 1 6 kc6 (ok_X4_init l) kGood kw258 kw259 kw256 kw257 rfl (by decide +kernel) (by decide) (by decide) dX11_init_46) <|
    BS.sq (pc' := 52) (s_putF tyX11 3 isR inX11 tyX11_ok nmX11 kc13 (by decide) kw260 rfl rfl rfl rfl (okf_O G _) dX11_init_49) <|
    BS.sq (pc' := 53) (s_aload_n (k := 0) 0 rfl dX11_init_52) <|
    BS.sq (pc' := 56) (s_new tyX5 inX5 tyX5_ok kc7 kw261 kw262 kw263 rfl rfl dX11_init_53) <|
    BS.sq (pc' := 57) (s_dup dX11_init_56) <|
    BS.sq (pc' := 60) (s_callI 0 7 kc7 (ok_X5_init l) kGood kw265 kw266 kw263 kw264 rfl (by decide +kernel) (by decide) (by decide) dX11_init_57) <|
    BS.sq (pc' := 63) (s_putF tyX11 4 isR inX11 tyX11_ok nmX11 kc13 (by decide) kw267 rfl rfl rfl rfl (okf_O G _) dX11_init_60) <|
    BS.sq (pc' := 64) (s_aload_n (k := 0) 0 rfl dX11_init_63) <|
    BS.sq (pc' := 65) (s_iconst 0 (by decide +kernel) dX11_init_64) <|
    BS.sq (pc' := 68) (s_put tyX11 5 isI inX11 tyX11_ok nmX11 kc13 (by decide) kw268 rfl rfl (okf_I G) dX11_init_65) <|
    BS.sq (pc' := 69) (s_aload_n (k := 0) 0 rfl dX11_init_68) <|
    BS.sq (pc' := 70) (s_iconst 0 (by decide +kernel) dX11_init_69) <|
    BS.sq (pc' := 73) (s_put tyX11 6 isI inX11 tyX11_ok nmX11 kc13 (by decide) kw269 rfl rfl (okf_I G) dX11_init_70) <|
    BS.sq (pc' := 74) (s_aload_n (k := 0) 0 rfl dX11_init_73) <|
    BS.sq (pc' := 75) (s_iconst 0 (by decide +kernel) dX11_init_74) <|
    BS.sq (pc' := 78) (s_put tyX11 7 isI inX11 tyX11_ok nmX11 kc13 (by decide) kw270 rfl rfl (okf_I G) dX11_init_75) <|
    BS.sq (pc' := 79) (s_aload_n (k := 0) 0 rfl dX11_init_78) <|
    BS.sq (pc' := 80) (s_iconst 4294967295 (by decide +kernel) dX11_init_79) <|
    BS.sq (pc' := 83) (s_put tyX11 8 isI inX11 tyX11_ok nmX11 kc13 (by decide) kw271 rfl rfl (okf_I G) dX11_init_80) <|
    s_ret rfl dX11_init_83) <|
  AllB.n)
-- NativeWorksModel$Code.<init>()V
noncomputable def bs_X12_init : List rBl := [sq (h_ld isR 0) (sq (h_oinit) (sq (h_ld isR 0) (sq (h_v (.inl 8194)) (sq (h_newa 0 (.inl 0)) (sq (h_put 14 8 isR) (sq (h_ld isR 0) (sq (h_v (.inl 8194)) (sq (h_newa 0 (.inl 0)) (sq (h_put 14 9 isR) (sq (h_ld isR 0) (sq (h_v (.inl 8194)) (sq (h_newa 1 (.inr (.inl 0))) (sq (h_put 14 10 isR) (sq (h_ld isR 0) (sq (h_v (.inl 8194)) (sq (h_newa 1 (.inr (.inl 0))) (sq (h_put 14 11 isR) (sq (h_ld isR 0) (sq (h_v (.inl 8194)) (sq (h_newa 1 (.inr (.inl 0))) (sq (h_put 14 12 isR) (t_ret))))))))))))))))))))))]
noncomputable def ev_X12_init : rEv := fun as w n => rIni 1 as (fun ls => rRun bs_X12_init 100000 0 ls [] w n 0)
set_option maxRecDepth 100000 in
set_option maxHeartbeats 4000000 in
theorem ok_X12_init (l : Launch) : rMet vwCl rFo rZs rRs rNs rTs l yX12_init cX12_init 1 ((Option.none : Option FieldType)) 1 20 ev_X12_init := met_of (pcs := [0]) (by decide +kernel) rfl (fun G n0 =>
  AllB.c (pb := 0) (
    BS.sq (pc' := 1) (s_aload_n (k := 0) 0 rfl dX12_init_0) <|
    BS.sq (pc' := 4) (s_oinit kw272 kw2 kwObj (by decide) (by decide) dX12_init_1) <|
    BS.sq (pc' := 5) (s_aload_n (k := 0) 0 rfl dX12_init_4) <|
    BS.sq (pc' := 8) (s_sipush 8194 (by decide +kernel) dX12_init_5) <|
    BS.sq (pc' := 10) (s_newa 0 (.inl 0) (by decide) rfl rfl (fun _ _ h => h) (by decide) kw5 dX12_init_8) <|
    BS.sq (pc' := 13) (s_putF tyX12 8 isR inX12 tyX12_ok nmX12 kc14 (by decide) kw273 rfl rfl rfl rfl (okf_A G _) dX12_init_10) <|
    BS.sq (pc' := 14) (s_aload_n (k := 0) 0 rfl dX12_init_13) <|
    BS.sq (pc' := 17) (s_sipush 8194 (by decide +kernel) dX12_init_14) <|
    BS.sq (pc' := 19) (s_newa 0 (.inl 0) (by decide) rfl rfl (fun _ _ h => h) (by decide) kw5 dX12_init_17) <|
    BS.sq (pc' := 22) (s_putF tyX12 9 isR inX12 tyX12_ok nmX12 kc14 (by decide) kw274 rfl rfl rfl rfl (okf_A G _) dX12_init_19) <|
    BS.sq (pc' := 23) (s_aload_n (k := 0) 0 rfl dX12_init_22) <|
    BS.sq (pc' := 26) (s_sipush 8194 (by decide +kernel) dX12_init_23) <|
    BS.sq (pc' := 28) (s_newa 1 (.inr (.inl 0)) (by decide) rfl rfl (fun _ _ h => h) (by decide) kw26 dX12_init_26) <|
    BS.sq (pc' := 31) (s_putF tyX12 10 isR inX12 tyX12_ok nmX12 kc14 (by decide) kw275 rfl rfl rfl rfl (okf_A G _) dX12_init_28) <|
    BS.sq (pc' := 32) (s_aload_n (k := 0) 0 rfl dX12_init_31) <|
    BS.sq (pc' := 35) (s_sipush 8194 (by decide +kernel) dX12_init_32) <|
    BS.sq (pc' := 37) (s_newa 1 (.inr (.inl 0)) (by decide) rfl rfl (fun _ _ h => h) (by decide) kw26 dX12_init_35) <|
    BS.sq (pc' := 40) (s_putF tyX12 11 isR inX12 tyX12_ok nmX12 kc14 (by decide) kw276 rfl rfl rfl rfl (okf_A G _) dX12_init_37) <|
    BS.sq (pc' := 41) (s_aload_n (k := 0) 0 rfl dX12_init_40) <|
    BS.sq (pc' := 44) (s_sipush 8194 (by decide +kernel) dX12_init_41) <|
    BS.sq (pc' := 46) (s_newa 1 (.inr (.inl 0)) (by decide) rfl rfl (fun _ _ h => h) (by decide) kw26 dX12_init_44) <|
    BS.sq (pc' := 49) (s_putF tyX12 12 isR inX12 tyX12_ok nmX12 kc14 (by decide) kw277 rfl rfl rfl rfl (okf_A G _) dX12_init_46) <|
    s_ret rfl dX12_init_49) <|
  AllB.n)
-- jdk/internal/util/Preconditions.checkFromToIndex(IIILjava/util/function/BiFunction;)I
noncomputable def bs_J3_checkFromToIndex_8c36e : List rBl := [sq (h_ld isI 0) (t_if (fun a => rLt a 0) 3 1),
  sq (h_ld isI 0) (sq (h_ld isI 1) (t_icmp (fun a b => rNot (rLe a b)) 3 2)),
  sq (h_ld isI 1) (sq (h_ld isI 2) (t_icmp rLe 4 3)),
  t_no,
  sq (h_ld isI 0) (t_retv isI)]
noncomputable def ev_J3_checkFromToIndex_8c36e : rEv := fun as w n => rIni 4 as (fun ls => rRun bs_J3_checkFromToIndex_8c36e 100000 0 ls [] w n 0)
set_option maxRecDepth 100000 in
set_option maxHeartbeats 4000000 in
theorem ok_J3_checkFromToIndex_8c36e (l : Launch) : rMet vwCl rFo rZs rRs rNs rTs l yJ3_checkFromToIndex_8c36e cJ3_checkFromToIndex_8c36e 4 ((Option.some FieldType.int)) 0 0 ev_J3_checkFromToIndex_8c36e := met_of (pcs := [0, 4, 9, 14, 22]) (by decide +kernel) rfl (fun G n0 =>
  AllB.c (pb := 0) (
    BS.sq (pc' := 1) (s_iload_n (k := 0) 0 rfl dJ3_checkFromToIndex_8c36e_0) <|
    s_if_lt rfl rfl (by decide) dJ3_checkFromToIndex_8c36e_1) <|
  AllB.c (pb := 4) (
    BS.sq (pc' := 5) (s_iload_n (k := 0) 0 rfl dJ3_checkFromToIndex_8c36e_4) <|
    BS.sq (pc' := 6) (s_iload_n (k := 1) 1 rfl dJ3_checkFromToIndex_8c36e_5) <|
    s_icmp_gt rfl rfl (by decide) dJ3_checkFromToIndex_8c36e_6) <|
  AllB.c (pb := 9) (
    BS.sq (pc' := 10) (s_iload_n (k := 1) 1 rfl dJ3_checkFromToIndex_8c36e_9) <|
    BS.sq (pc' := 11) (s_iload_n (k := 2) 2 rfl dJ3_checkFromToIndex_8c36e_10) <|
    s_icmp_le rfl rfl (by decide) dJ3_checkFromToIndex_8c36e_11) <|
  AllB.c (pb := 14) (
    BS.no) <|
  AllB.c (pb := 22) (
    BS.sq (pc' := 23) (s_iload_n (k := 0) 0 rfl dJ3_checkFromToIndex_8c36e_22) <|
    s_reti isI rfl okr_I dJ3_checkFromToIndex_8c36e_23) <|
  AllB.n)
-- java/lang/String.checkBoundsBeginEnd(III)V
noncomputable def bs_J0_checkBoundsBeginEnd_23922 : List rBl := [sq (h_ld isI 0) (sq (h_ld isI 1) (sq (h_ld isI 2) (sq (h_v (.inr (.inr 20002))) (sq (h_call 4 rAny ev_J3_checkFromToIndex_8c36e) (sq (h_pop) (t_ret))))))]
noncomputable def ev_J0_checkBoundsBeginEnd_23922 : rEv := fun as w n => rIni 3 as (fun ls => rRun bs_J0_checkBoundsBeginEnd_23922 100000 0 ls [] w n 0)
set_option maxRecDepth 100000 in
set_option maxHeartbeats 4000000 in
theorem ok_J0_checkBoundsBeginEnd_23922 (l : Launch) : rMet vwCl rFo rZs rRs rNs rTs l yJ0_checkBoundsBeginEnd_23922 cJ0_checkBoundsBeginEnd_23922 3 ((Option.none : Option FieldType)) 1 23 ev_J0_checkBoundsBeginEnd_23922 := met_of (pcs := [0]) (by decide +kernel) rfl (fun G n0 =>
  AllB.c (pb := 0) (
    BS.sq (pc' := 1) (s_iload_n (k := 0) 0 rfl dJ0_checkBoundsBeginEnd_23922_0) <|
    BS.sq (pc' := 2) (s_iload_n (k := 1) 1 rfl dJ0_checkBoundsBeginEnd_23922_1) <|
    BS.sq (pc' := 3) (s_iload_n (k := 2) 2 rfl dJ0_checkBoundsBeginEnd_23922_2) <|
    BS.sq (pc' := 6) (s_gets (.inr (.inr 20002)) kz1 kw45 rfl dJ0_checkBoundsBeginEnd_23922_3) <|
    BS.sq (pc' := 9) (s_callS 4 (ok_J3_checkFromToIndex_8c36e l) kGood kw279 kw280 kw49 kw278 (by decide +kernel) (by decide) (by decide) dJ0_checkBoundsBeginEnd_23922_6) <|
    BS.sq (pc' := 10) (s_pop dJ0_checkBoundsBeginEnd_23922_9) <|
    s_ret rfl dJ0_checkBoundsBeginEnd_23922_10) <|
  AllB.n)
-- java/util/Arrays.checkLength(II)V
noncomputable def bs_J7_checkLength_df160 : List rBl := [sq (h_ld isI 1) (sq (h_ld isI 0) (t_icmp (fun a b => rNot (rLt a b)) 2 1)),
  t_no,
  t_ret]
noncomputable def ev_J7_checkLength_df160 : rEv := fun as w n => rIni 2 as (fun ls => rRun bs_J7_checkLength_df160 100000 0 ls [] w n 0)
set_option maxRecDepth 100000 in
set_option maxHeartbeats 4000000 in
theorem ok_J7_checkLength_df160 (l : Launch) : rMet vwCl rFo rZs rRs rNs rTs l yJ7_checkLength_df160 cJ7_checkLength_df160 2 ((Option.none : Option FieldType)) 0 0 ev_J7_checkLength_df160 := met_of (pcs := [0, 5, 37]) (by decide +kernel) rfl (fun G n0 =>
  AllB.c (pb := 0) (
    BS.sq (pc' := 1) (s_iload_n (k := 1) 1 rfl dJ7_checkLength_df160_0) <|
    BS.sq (pc' := 2) (s_iload_n (k := 0) 0 rfl dJ7_checkLength_df160_1) <|
    s_icmp_ge rfl rfl (by decide) dJ7_checkLength_df160_2) <|
  AllB.c (pb := 5) (
    BS.no) <|
  AllB.c (pb := 37) (
    s_ret rfl dJ7_checkLength_df160_37) <|
  AllB.n)
-- java/util/Arrays.copyOfRangeByte([BII)[B
noncomputable def bs_J7_copyOfRangeByte_39247 : List rBl := [sq (h_ld isI 1) (sq (h_ld isI 2) (sq (h_call 2 rAny ev_J7_checkLength_df160) (sq (h_ld isI 2) (sq (h_ld isI 1) (sq (h_bin (fun _ _ => true) rSub) (sq (h_st isI 3) (sq (h_ld isI 3) (sq (h_newa 2 (.inl 0)) (sq (h_st isR 4) (sq (h_ld isR 0) (sq (h_ld isI 1) (sq (h_ld isR 4) (sq (h_v (.inl 0)) (sq (h_ld isR 0) (sq (h_alen rFo) (sq (h_ld isI 1) (sq (h_bin (fun _ _ => true) rSub) (sq (h_ld isI 3) (sq (h_mmin) (sq (h_acopy rFo) (sq (h_ld isR 4) (t_retv isR))))))))))))))))))))))]
noncomputable def ev_J7_copyOfRangeByte_39247 : rEv := fun as w n => rIni 5 as (fun ls => rRun bs_J7_copyOfRangeByte_39247 100000 0 ls [] w n 0)
set_option maxRecDepth 100000 in
set_option maxHeartbeats 4000000 in
theorem ok_J7_copyOfRangeByte_39247 (l : Launch) : rMet vwCl rFo rZs rRs rNs rTs l yJ7_copyOfRangeByte_39247 cJ7_copyOfRangeByte_39247 5 ((Option.some (FieldType.array FieldType.byte))) 1 100 ev_J7_copyOfRangeByte_39247 := met_of (pcs := [0]) (by decide +kernel) rfl (fun G n0 =>
  AllB.c (pb := 0) (
    BS.sq (pc' := 1) (s_iload_n (k := 1) 1 rfl dJ7_copyOfRangeByte_39247_0) <|
    BS.sq (pc' := 2) (s_iload_n (k := 2) 2 rfl dJ7_copyOfRangeByte_39247_1) <|
    BS.sq (pc' := 5) (s_callS 2 (ok_J7_checkLength_df160 l) kGood kw282 kw283 kw13 kw281 (by decide +kernel) (by decide) (by decide) dJ7_copyOfRangeByte_39247_2) <|
    BS.sq (pc' := 6) (s_iload_n (k := 2) 2 rfl dJ7_copyOfRangeByte_39247_5) <|
    BS.sq (pc' := 7) (s_iload_n (k := 1) 1 rfl dJ7_copyOfRangeByte_39247_6) <|
    BS.sq (pc' := 8) (s_isub dJ7_copyOfRangeByte_39247_7) <|
    BS.sq (pc' := 9) (s_istore_n (k := 3) 3 rfl (by decide) dJ7_copyOfRangeByte_39247_8) <|
    BS.sq (pc' := 10) (s_iload_n (k := 3) 3 rfl dJ7_copyOfRangeByte_39247_9) <|
    BS.sq (pc' := 12) (s_newa 2 (.inl 0) (by decide) rfl rfl (fun _ _ h => h) (by decide) kw3 dJ7_copyOfRangeByte_39247_10) <|
    BS.sq (pc' := 14) (s_astore 4 (by decide) dJ7_copyOfRangeByte_39247_12) <|
    BS.sq (pc' := 15) (s_aload_n (k := 0) 0 rfl dJ7_copyOfRangeByte_39247_14) <|
    BS.sq (pc' := 16) (s_iload_n (k := 1) 1 rfl dJ7_copyOfRangeByte_39247_15) <|
    BS.sq (pc' := 18) (s_aload 4 dJ7_copyOfRangeByte_39247_16) <|
    BS.sq (pc' := 19) (s_iconst 0 (by decide +kernel) dJ7_copyOfRangeByte_39247_18) <|
    BS.sq (pc' := 20) (s_aload_n (k := 0) 0 rfl dJ7_copyOfRangeByte_39247_19) <|
    BS.sq (pc' := 21) (s_alen dJ7_copyOfRangeByte_39247_20) <|
    BS.sq (pc' := 22) (s_iload_n (k := 1) 1 rfl dJ7_copyOfRangeByte_39247_21) <|
    BS.sq (pc' := 23) (s_isub dJ7_copyOfRangeByte_39247_22) <|
    BS.sq (pc' := 24) (s_iload_n (k := 3) 3 rfl dJ7_copyOfRangeByte_39247_23) <|
    BS.sq (pc' := 27) (s_mmin kw284 kw285 kw286 kw287 (by decide) (by decide) dJ7_copyOfRangeByte_39247_24) <|
    BS.sq (pc' := 30) (s_acopy kw288 kw62 kw63 kw64 (by decide) (by decide) dJ7_copyOfRangeByte_39247_27) <|
    BS.sq (pc' := 32) (s_aload 4 dJ7_copyOfRangeByte_39247_30) <|
    s_reta rfl (Or.inr ⟨_, rfl⟩) dJ7_copyOfRangeByte_39247_32) <|
  AllB.n)
-- java/util/Arrays.copyOfRange([BII)[B
noncomputable def bs_J7_copyOfRange_39247 : List rBl := [sq (h_ld isI 1) (t_if (fun a => rNot (rEq a 0)) 2 1),
  sq (h_ld isI 2) (sq (h_ld isR 0) (sq (h_alen rFo) (t_icmp rEq 3 2))),
  sq (h_ld isR 0) (sq (h_ld isI 1) (sq (h_ld isI 2) (sq (h_call 3 rAny ev_J7_copyOfRangeByte_39247) (t_retv isR)))),
  t_no]
noncomputable def ev_J7_copyOfRange_39247 : rEv := fun as w n => rIni 3 as (fun ls => rRun bs_J7_copyOfRange_39247 100000 0 ls [] w n 0)
set_option maxRecDepth 100000 in
set_option maxHeartbeats 4000000 in
theorem ok_J7_copyOfRange_39247 (l : Launch) : rMet vwCl rFo rZs rRs rNs rTs l yJ7_copyOfRange_39247 cJ7_copyOfRange_39247 3 ((Option.some (FieldType.array FieldType.byte))) 2 124 ev_J7_copyOfRange_39247 := met_of (pcs := [0, 4, 10, 17]) (by decide +kernel) rfl (fun G n0 =>
  AllB.c (pb := 0) (
    BS.sq (pc' := 1) (s_iload_n (k := 1) 1 rfl dJ7_copyOfRange_39247_0) <|
    s_if_ne rfl rfl (by decide) dJ7_copyOfRange_39247_1) <|
  AllB.c (pb := 4) (
    BS.sq (pc' := 5) (s_iload_n (k := 2) 2 rfl dJ7_copyOfRange_39247_4) <|
    BS.sq (pc' := 6) (s_aload_n (k := 0) 0 rfl dJ7_copyOfRange_39247_5) <|
    BS.sq (pc' := 7) (s_alen dJ7_copyOfRange_39247_6) <|
    s_icmp_eq rfl rfl (by decide) dJ7_copyOfRange_39247_7) <|
  AllB.c (pb := 10) (
    BS.sq (pc' := 11) (s_aload_n (k := 0) 0 rfl dJ7_copyOfRange_39247_10) <|
    BS.sq (pc' := 12) (s_iload_n (k := 1) 1 rfl dJ7_copyOfRange_39247_11) <|
    BS.sq (pc' := 13) (s_iload_n (k := 2) 2 rfl dJ7_copyOfRange_39247_12) <|
    BS.sq (pc' := 16) (s_callS 3 (ok_J7_copyOfRangeByte_39247 l) kGood kw290 kw291 kw13 kw289 (by decide +kernel) (by decide) (by decide) dJ7_copyOfRange_39247_13) <|
    s_reta rfl (Or.inr ⟨_, rfl⟩) dJ7_copyOfRange_39247_16) <|
  AllB.c (pb := 17) (
    BS.no) <|
  AllB.n)
-- java/lang/String.<init>([BB)V
noncomputable def bs_J0_init_031fb : List rBl := [sq (h_ld isR 0) (sq (h_oinit) (sq (h_ld isR 0) (sq (h_ld isR 1) (sq (h_put 0 0 isR) (sq (h_ld isR 0) (sq (h_ld isI 2) (sq (h_put 0 1 isB) (t_ret))))))))]
noncomputable def ev_J0_init_031fb : rEv := fun as w n => rIni 3 as (fun ls => rRun bs_J0_init_031fb 100000 0 ls [] w n 0)
set_option maxRecDepth 100000 in
set_option maxHeartbeats 4000000 in
theorem ok_J0_init_031fb (l : Launch) : rMet vwCl rFo rZs rRs rNs rTs l yJ0_init_031fb cJ0_init_031fb 3 ((Option.none : Option FieldType)) 1 20 ev_J0_init_031fb := met_of (pcs := [0]) (by decide +kernel) rfl (fun G n0 =>
  AllB.c (pb := 0) (
    BS.sq (pc' := 1) (s_aload_n (k := 0) 0 rfl dJ0_init_031fb_0) <|
    BS.sq (pc' := 4) (s_oinit kw292 kw2 kwObj (by decide) (by decide) dJ0_init_031fb_1) <|
    BS.sq (pc' := 5) (s_aload_n (k := 0) 0 rfl dJ0_init_031fb_4) <|
    BS.sq (pc' := 6) (s_aload_n (k := 1) 1 rfl dJ0_init_031fb_5) <|
    BS.sq (pc' := 9) (s_putF tyJ0 0 isR inJ0 tyJ0_ok nmJ0 kc0 (by decide) kw39 rfl rfl rfl rfl (okf_A G _) dJ0_init_031fb_6) <|
    BS.sq (pc' := 10) (s_aload_n (k := 0) 0 rfl dJ0_init_031fb_9) <|
    BS.sq (pc' := 11) (s_iload_n (k := 2) 2 rfl dJ0_init_031fb_10) <|
    BS.sq (pc' := 14) (s_putF tyJ0 1 isB inJ0 tyJ0_ok nmJ0 kc0 (by decide) kw38 rfl rfl rfl rfl (okf_B G) dJ0_init_031fb_11) <|
    s_ret rfl dJ0_init_031fb_14) <|
  AllB.n)
-- java/lang/StringLatin1.newString([BII)Ljava/lang/String;
noncomputable def bs_J1_newString_b4f7a : List rBl := [sq (h_ld isI 2) (t_if (fun a => rNot (rEq a 0)) 2 1),
  t_no,
  sq (h_new 0 4 [.inr (.inr 0), .inl 0, .inl 0, .inl 0]) (sq (h_dup) (sq (h_ld isR 0) (sq (h_ld isI 1) (sq (h_ld isI 1) (sq (h_ld isI 2) (sq (h_bin (fun _ _ => true) rAdd) (sq (h_call 3 rAny ev_J7_copyOfRange_39247) (sq (h_v (.inl 0)) (sq (h_call 3 (rRecv rFo 0) ev_J0_init_031fb) (t_retv isR))))))))))]
noncomputable def ev_J1_newString_b4f7a : rEv := fun as w n => rIni 3 as (fun ls => rRun bs_J1_newString_b4f7a 100000 0 ls [] w n 0)
set_option maxRecDepth 100000 in
set_option maxHeartbeats 4000000 in
theorem ok_J1_newString_b4f7a (l : Launch) : rMet vwCl rFo rZs rRs rNs rTs l yJ1_newString_b4f7a cJ1_newString_b4f7a 3 ((Option.some (FieldType.object "java/lang/String"))) 3 146 ev_J1_newString_b4f7a := met_of (pcs := [0, 4, 7]) (by decide +kernel) rfl (fun G n0 =>
  AllB.c (pb := 0) (
    BS.sq (pc' := 1) (s_iload_n (k := 2) 2 rfl dJ1_newString_b4f7a_0) <|
    s_if_ne rfl rfl (by decide) dJ1_newString_b4f7a_1) <|
  AllB.c (pb := 4) (
    BS.no) <|
  AllB.c (pb := 7) (
    BS.sq (pc' := 10) (s_new tyJ0 inJ0 tyJ0_ok kc0 kw293 kw294 kw44 rfl rfl dJ1_newString_b4f7a_7) <|
    BS.sq (pc' := 11) (s_dup dJ1_newString_b4f7a_10) <|
    BS.sq (pc' := 12) (s_aload_n (k := 0) 0 rfl dJ1_newString_b4f7a_11) <|
    BS.sq (pc' := 13) (s_iload_n (k := 1) 1 rfl dJ1_newString_b4f7a_12) <|
    BS.sq (pc' := 14) (s_iload_n (k := 1) 1 rfl dJ1_newString_b4f7a_13) <|
    BS.sq (pc' := 15) (s_iload_n (k := 2) 2 rfl dJ1_newString_b4f7a_14) <|
    BS.sq (pc' := 16) (s_iadd dJ1_newString_b4f7a_15) <|
    BS.sq (pc' := 19) (s_callS 3 (ok_J7_copyOfRange_39247 l) kGood kw296 kw297 kw13 kw295 (by decide +kernel) (by decide) (by decide) dJ1_newString_b4f7a_16) <|
    BS.sq (pc' := 20) (s_iconst 0 (by decide +kernel) dJ1_newString_b4f7a_19) <|
    BS.sq (pc' := 23) (s_callI 2 0 kc0 (ok_J0_init_031fb l) kGood kw299 kw300 kw44 kw298 rfl (by decide +kernel) (by decide) (by decide) dJ1_newString_b4f7a_20) <|
    s_reta rfl (Or.inl ⟨_, rfl⟩) dJ1_newString_b4f7a_23) <|
  AllB.n)
-- java/lang/String.substring(II)Ljava/lang/String;
noncomputable def bs_J0_substring_37a41 : List rBl := [sq (h_ld isR 0) (sq (h_call 1 (rRecv rFo 0) ev_J0_length_8abf5) (sq (h_st isI 3) (sq (h_ld isI 1) (sq (h_ld isI 2) (sq (h_ld isI 3) (sq (h_call 3 rAny ev_J0_checkBoundsBeginEnd_23922) (sq (h_ld isI 1) (t_if (fun a => rNot (rEq a 0)) 3 1)))))))),
  sq (h_ld isI 2) (sq (h_ld isI 3) (t_icmp (fun a b => rNot (rEq a b)) 3 2)),
  t_no,
  sq (h_ld isI 2) (sq (h_ld isI 1) (sq (h_bin (fun _ _ => true) rSub) (sq (h_st isI 4) (sq (h_ld isR 0) (sq (h_call 1 (rRecv rFo 0) ev_J0_isLatin1_aae02) (t_if (fun a => rEq a 0) 5 4)))))),
  sq (h_ld isR 0) (sq (h_get rFo 0 0) (sq (h_ld isI 1) (sq (h_ld isI 4) (sq (h_call 3 rAny ev_J1_newString_b4f7a) (t_go 6))))),
  t_no,
  t_retv isR]
noncomputable def ev_J0_substring_37a41 : rEv := fun as w n => rIni 5 as (fun ls => rRun bs_J0_substring_37a41 100000 0 ls [] w n 0)
set_option maxRecDepth 100000 in
set_option maxHeartbeats 4000000 in
theorem ok_J0_substring_37a41 (l : Launch) : rMet vwCl rFo rZs rRs rNs rTs l yJ0_substring_37a41 cJ0_substring_37a41 5 ((Option.some (FieldType.object "java/lang/String"))) 4 168 ev_J0_substring_37a41 := met_of (pcs := [0, 15, 20, 22, 34, 47, 57]) (by decide +kernel) rfl (fun G n0 =>
  AllB.c (pb := 0) (
    BS.sq (pc' := 1) (s_aload_n (k := 0) 0 rfl dJ0_substring_37a41_0) <|
    BS.sq (pc' := 4) (s_callV 0 0 kc0 (ok_J0_length_8abf5 l) kGood kw301 kw67 kw68 kw44 kw65 (by decide +kernel) (by decide) (by decide) dJ0_substring_37a41_1) <|
    BS.sq (pc' := 5) (s_istore_n (k := 3) 3 rfl (by decide) dJ0_substring_37a41_4) <|
    BS.sq (pc' := 6) (s_iload_n (k := 1) 1 rfl dJ0_substring_37a41_5) <|
    BS.sq (pc' := 7) (s_iload_n (k := 2) 2 rfl dJ0_substring_37a41_6) <|
    BS.sq (pc' := 8) (s_iload_n (k := 3) 3 rfl dJ0_substring_37a41_7) <|
    BS.sq (pc' := 11) (s_callS 3 (ok_J0_checkBoundsBeginEnd_23922 l) kGood kw303 kw304 kw44 kw302 (by decide +kernel) (by decide) (by decide) dJ0_substring_37a41_8) <|
    BS.sq (pc' := 12) (s_iload_n (k := 1) 1 rfl dJ0_substring_37a41_11) <|
    s_if_ne rfl rfl (by decide) dJ0_substring_37a41_12) <|
  AllB.c (pb := 15) (
    BS.sq (pc' := 16) (s_iload_n (k := 2) 2 rfl dJ0_substring_37a41_15) <|
    BS.sq (pc' := 17) (s_iload_n (k := 3) 3 rfl dJ0_substring_37a41_16) <|
    s_icmp_ne rfl rfl (by decide) dJ0_substring_37a41_17) <|
  AllB.c (pb := 20) (
    BS.no) <|
  AllB.c (pb := 22) (
    BS.sq (pc' := 23) (s_iload_n (k := 2) 2 rfl dJ0_substring_37a41_22) <|
    BS.sq (pc' := 24) (s_iload_n (k := 1) 1 rfl dJ0_substring_37a41_23) <|
    BS.sq (pc' := 25) (s_isub dJ0_substring_37a41_24) <|
    BS.sq (pc' := 27) (s_istore 4 (by decide) dJ0_substring_37a41_25) <|
    BS.sq (pc' := 28) (s_aload_n (k := 0) 0 rfl dJ0_substring_37a41_27) <|
    BS.sq (pc' := 31) (s_callV 0 0 kc0 (ok_J0_isLatin1_aae02 l) kGood kw54 kw55 kw56 kw44 kw53 (by decide +kernel) (by decide) (by decide) dJ0_substring_37a41_28) <|
    s_if_eq rfl rfl (by decide) dJ0_substring_37a41_31) <|
  AllB.c (pb := 34) (
    BS.sq (pc' := 35) (s_aload_n (k := 0) 0 rfl dJ0_substring_37a41_34) <|
    BS.sq (pc' := 38) (s_get 0 inJ0 kc0 (by decide) kw39 rfl dJ0_substring_37a41_35) <|
    BS.sq (pc' := 39) (s_iload_n (k := 1) 1 rfl dJ0_substring_37a41_38) <|
    BS.sq (pc' := 41) (s_iload 4 dJ0_substring_37a41_39) <|
    BS.sq (pc' := 44) (s_callS 3 (ok_J1_newString_b4f7a l) kGood kw306 kw307 kw60 kw305 (by decide +kernel) (by decide) (by decide) dJ0_substring_37a41_41) <|
    s_goto rfl (by decide) dJ0_substring_37a41_44) <|
  AllB.c (pb := 47) (
    BS.no) <|
  AllB.c (pb := 57) (
    s_reta rfl (Or.inl ⟨_, rfl⟩) dJ0_substring_37a41_57) <|
  AllB.n)
-- NativeWorksModel.pack(Ljava/lang/String;)J
noncomputable def bs_X13_pack : List rBl := [sq (h_v (.inr (.inl 0))) (sq (h_st2 1) (sq (h_v (.inl 0)) (sq (h_st isI 3) (t_go 1)))),
  sq (h_ld isI 3) (sq (h_ld isR 0) (sq (h_call 1 (rRecv rFo 0) ev_J0_length_8abf5) (t_icmp (fun a b => rNot (rLt a b)) 3 2))),
  sq (h_ld isJ 1) (sq (h_v (.inl 8)) (sq (h_lsh rShlL) (sq (h_ld isR 0) (sq (h_ld isI 3) (sq (h_call 2 (rRecv rFo 0) ev_J0_charAt_5068e) (sq (h_i2l) (sq (h_lbin Nat.lor) (sq (h_st2 1) (sq (h_inc 3 1) (t_go 1)))))))))),
  sq (h_ld isJ 1) (t_retv isJ)]
noncomputable def ev_X13_pack : rEv := fun as w n => rIni 4 as (fun ls => rRun bs_X13_pack 100000 0 ls [] w n 0)
set_option maxRecDepth 100000 in
set_option maxHeartbeats 4000000 in
theorem ok_X13_pack (l : Launch) : rMet vwCl rFo rZs rRs rNs rTs l yX13_pack cX13_pack 4 ((Option.some FieldType.long)) 4 85 ev_X13_pack := met_of (pcs := [0, 4, 12, 30]) (by decide +kernel) rfl (fun G n0 =>
  AllB.c (pb := 0) (
    BS.sq (pc' := 1) (s_lconst 0 (by decide +kernel) dX13_pack_0) <|
    BS.sq (pc' := 2) (s_lstore_n (k := 1) 1 rfl (by decide) dX13_pack_1) <|
    BS.sq (pc' := 3) (s_iconst 0 (by decide +kernel) dX13_pack_2) <|
    BS.sq (pc' := 4) (s_istore_n (k := 3) 3 rfl (by decide) dX13_pack_3) <|
    BS.go rfl) <|
  AllB.c (pb := 4) (
    BS.sq (pc' := 5) (s_iload_n (k := 3) 3 rfl dX13_pack_4) <|
    BS.sq (pc' := 6) (s_aload_n (k := 0) 0 rfl dX13_pack_5) <|
    BS.sq (pc' := 9) (s_callV 0 0 kc0 (ok_J0_length_8abf5 l) kGood kw308 kw67 kw68 kw44 kw65 (by decide +kernel) (by decide) (by decide) dX13_pack_6) <|
    s_icmp_ge rfl rfl (by decide) dX13_pack_9) <|
  AllB.c (pb := 12) (
    BS.sq (pc' := 13) (s_lload_n (k := 1) 1 rfl dX13_pack_12) <|
    BS.sq (pc' := 15) (s_bipush 8 (by decide +kernel) dX13_pack_13) <|
    BS.sq (pc' := 16) (s_lshl dX13_pack_15) <|
    BS.sq (pc' := 17) (s_aload_n (k := 0) 0 rfl dX13_pack_16) <|
    BS.sq (pc' := 18) (s_iload_n (k := 3) 3 rfl dX13_pack_17) <|
    BS.sq (pc' := 21) (s_callV 1 0 kc0 (ok_J0_charAt_5068e l) kGood kw309 kw72 kw73 kw44 kw70 (by decide +kernel) (by decide) (by decide) dX13_pack_18) <|
    BS.sq (pc' := 22) (s_i2l dX13_pack_21) <|
    BS.sq (pc' := 23) (s_lor dX13_pack_22) <|
    BS.sq (pc' := 24) (s_lstore_n (k := 1) 1 rfl (by decide) dX13_pack_23) <|
    BS.sq (pc' := 27) (s_iinc 3 1 (1) (by decide +kernel) (by decide) dX13_pack_24) <|
    s_goto rfl (by decide) dX13_pack_27) <|
  AllB.c (pb := 30) (
    BS.sq (pc' := 31) (s_lload_n (k := 1) 1 rfl dX13_pack_30) <|
    s_retl rfl dX13_pack_31) <|
  AllB.n)
-- NativeWorksModel.word(Ljava/lang/String;I)V
noncomputable def bs_X13_word : List rBl := [sq (h_ld isR 0) (sq (h_get rFo 15 5) (sq (h_ld isR 0) (sq (h_get rFo 15 3) (sq (h_ld isR 1) (sq (h_call 1 rAny ev_X13_pack) (sq (h_ast okJ) (sq (h_ld isR 0) (sq (h_get rFo 15 7) (sq (h_ld isR 0) (sq (h_get rFo 15 3) (sq (h_ld isI 2) (sq (h_ast okI) (sq (h_ld isR 0) (sq (h_dup) (sq (h_get rFo 15 3) (sq (h_v (.inl 1)) (sq (h_bin (fun _ _ => true) rAdd) (sq (h_put 15 3 isI) (t_ret)))))))))))))))))))]
noncomputable def ev_X13_word : rEv := fun as w n => rIni 3 as (fun ls => rRun bs_X13_word 100000 0 ls [] w n 0)
set_option maxRecDepth 100000 in
set_option maxHeartbeats 4000000 in
theorem ok_X13_word (l : Launch) : rMet vwCl rFo rZs rRs rNs rTs l yX13_word cX13_word 3 ((Option.none : Option FieldType)) 5 108 ev_X13_word := met_of (pcs := [0]) (by decide +kernel) rfl (fun G n0 =>
  AllB.c (pb := 0) (
    BS.sq (pc' := 1) (s_aload_n (k := 0) 0 rfl dX13_word_0) <|
    BS.sq (pc' := 4) (s_get 5 inX13 kc15 (by decide) kw310 rfl dX13_word_1) <|
    BS.sq (pc' := 5) (s_aload_n (k := 0) 0 rfl dX13_word_4) <|
    BS.sq (pc' := 8) (s_get 3 inX13 kc15 (by decide) kw311 rfl dX13_word_5) <|
    BS.sq (pc' := 9) (s_aload_n (k := 1) 1 rfl dX13_word_8) <|
    BS.sq (pc' := 12) (s_callS 1 (ok_X13_pack l) kGood kw313 kw314 kw315 kw312 (by decide +kernel) (by decide) (by decide) dX13_word_9) <|
    BS.sq (pc' := 13) (s_lastore dX13_word_12) <|
    BS.sq (pc' := 14) (s_aload_n (k := 0) 0 rfl dX13_word_13) <|
    BS.sq (pc' := 17) (s_get 7 inX13 kc15 (by decide) kw316 rfl dX13_word_14) <|
    BS.sq (pc' := 18) (s_aload_n (k := 0) 0 rfl dX13_word_17) <|
    BS.sq (pc' := 21) (s_get 3 inX13 kc15 (by decide) kw311 rfl dX13_word_18) <|
    BS.sq (pc' := 22) (s_iload_n (k := 2) 2 rfl dX13_word_21) <|
    BS.sq (pc' := 23) (s_iastore dX13_word_22) <|
    BS.sq (pc' := 24) (s_aload_n (k := 0) 0 rfl dX13_word_23) <|
    BS.sq (pc' := 25) (s_dup dX13_word_24) <|
    BS.sq (pc' := 28) (s_get 3 inX13 kc15 (by decide) kw311 rfl dX13_word_25) <|
    BS.sq (pc' := 29) (s_iconst 1 (by decide +kernel) dX13_word_28) <|
    BS.sq (pc' := 30) (s_iadd dX13_word_29) <|
    BS.sq (pc' := 33) (s_put tyX13 3 isI inX13 tyX13_ok nmX13 kc15 (by decide) kw311 rfl rfl (okf_I G) dX13_word_30) <|
    s_ret rfl dX13_word_33) <|
  AllB.n)
-- NativeWorksModel.wordsOf(Ljava/lang/String;I)V
noncomputable def bs_X13_wordsOf : List rBl := [sq (h_ld isI 2) (sq (h_st isI 3) (sq (h_v (.inl 0)) (sq (h_st isI 4) (sq (h_v (.inl 0)) (sq (h_st isI 5) (t_go 1)))))),
  sq (h_ld isI 5) (sq (h_ld isR 1) (sq (h_call 1 (rRecv rFo 0) ev_J0_length_8abf5) (t_icmp (fun a b => rNot (rLe a b)) 7 2))),
  sq (h_ld isI 5) (sq (h_ld isR 1) (sq (h_call 1 (rRecv rFo 0) ev_J0_length_8abf5) (t_icmp (fun a b => rNot (rLt a b)) 5 3))),
  sq (h_ld isR 1) (sq (h_ld isI 5) (sq (h_call 2 (rRecv rFo 0) ev_J0_charAt_5068e) (sq (h_v (.inl 32)) (t_icmp rEq 5 4)))),
  t_go 6,
  sq (h_ld isR 0) (sq (h_ld isR 1) (sq (h_ld isI 4) (sq (h_ld isI 5) (sq (h_call 3 (rRecv rFo 0) ev_J0_substring_37a41) (sq (h_ld isI 3) (sq (h_call 3 (rRecv rFo 15) ev_X13_word) (sq (h_inc 3 1) (sq (h_ld isI 5) (sq (h_v (.inl 1)) (sq (h_bin (fun _ _ => true) rAdd) (sq (h_st isI 4) (t_go 6)))))))))))),
  sq (h_inc 5 1) (t_go 1),
  t_ret]
noncomputable def ev_X13_wordsOf : rEv := fun as w n => rIni 6 as (fun ls => rRun bs_X13_wordsOf 100000 0 ls [] w n 0)
set_option maxRecDepth 100000 in
set_option maxHeartbeats 4000000 in
theorem ok_X13_wordsOf (l : Launch) : rMet vwCl rFo rZs rRs rNs rTs l yX13_wordsOf cX13_wordsOf 6 ((Option.none : Option FieldType)) 6 192 ev_X13_wordsOf := met_of (pcs := [0, 8, 17, 26, 37, 40, 62, 68]) (by decide +kernel) rfl (fun G n0 =>
  AllB.c (pb := 0) (
    BS.sq (pc' := 1) (s_iload_n (k := 2) 2 rfl dX13_wordsOf_0) <|
    BS.sq (pc' := 2) (s_istore_n (k := 3) 3 rfl (by decide) dX13_wordsOf_1) <|
    BS.sq (pc' := 3) (s_iconst 0 (by decide +kernel) dX13_wordsOf_2) <|
    BS.sq (pc' := 5) (s_istore 4 (by decide) dX13_wordsOf_3) <|
    BS.sq (pc' := 6) (s_iconst 0 (by decide +kernel) dX13_wordsOf_5) <|
    BS.sq (pc' := 8) (s_istore 5 (by decide) dX13_wordsOf_6) <|
    BS.go rfl) <|
  AllB.c (pb := 8) (
    BS.sq (pc' := 10) (s_iload 5 dX13_wordsOf_8) <|
    BS.sq (pc' := 11) (s_aload_n (k := 1) 1 rfl dX13_wordsOf_10) <|
    BS.sq (pc' := 14) (s_callV 0 0 kc0 (ok_J0_length_8abf5 l) kGood kw308 kw67 kw68 kw44 kw65 (by decide +kernel) (by decide) (by decide) dX13_wordsOf_11) <|
    s_icmp_gt rfl rfl (by decide) dX13_wordsOf_14) <|
  AllB.c (pb := 17) (
    BS.sq (pc' := 19) (s_iload 5 dX13_wordsOf_17) <|
    BS.sq (pc' := 20) (s_aload_n (k := 1) 1 rfl dX13_wordsOf_19) <|
    BS.sq (pc' := 23) (s_callV 0 0 kc0 (ok_J0_length_8abf5 l) kGood kw308 kw67 kw68 kw44 kw65 (by decide +kernel) (by decide) (by decide) dX13_wordsOf_20) <|
    s_icmp_ge rfl rfl (by decide) dX13_wordsOf_23) <|
  AllB.c (pb := 26) (
    BS.sq (pc' := 27) (s_aload_n (k := 1) 1 rfl dX13_wordsOf_26) <|
    BS.sq (pc' := 29) (s_iload 5 dX13_wordsOf_27) <|
    BS.sq (pc' := 32) (s_callV 1 0 kc0 (ok_J0_charAt_5068e l) kGood kw309 kw72 kw73 kw44 kw70 (by decide +kernel) (by decide) (by decide) dX13_wordsOf_29) <|
    BS.sq (pc' := 34) (s_bipush 32 (by decide +kernel) dX13_wordsOf_32) <|
    s_icmp_eq rfl rfl (by decide) dX13_wordsOf_34) <|
  AllB.c (pb := 37) (
    s_goto rfl (by decide) dX13_wordsOf_37) <|
  AllB.c (pb := 40) (
    BS.sq (pc' := 41) (s_aload_n (k := 0) 0 rfl dX13_wordsOf_40) <|
    BS.sq (pc' := 42) (s_aload_n (k := 1) 1 rfl dX13_wordsOf_41) <|
    BS.sq (pc' := 44) (s_iload 4 dX13_wordsOf_42) <|
    BS.sq (pc' := 46) (s_iload 5 dX13_wordsOf_44) <|
    BS.sq (pc' := 49) (s_callV 2 0 kc0 (ok_J0_substring_37a41 l) kGood kw318 kw319 kw320 kw44 kw317 (by decide +kernel) (by decide) (by decide) dX13_wordsOf_46) <|
    BS.sq (pc' := 50) (s_iload_n (k := 3) 3 rfl dX13_wordsOf_49) <|
    BS.sq (pc' := 53) (s_callV 2 15 kc15 (ok_X13_word l) kGood kw322 kw323 kw324 kw315 kw321 (by decide +kernel) (by decide) (by decide) dX13_wordsOf_50) <|
    BS.sq (pc' := 56) (s_iinc 3 1 (1) (by decide +kernel) (by decide) dX13_wordsOf_53) <|
    BS.sq (pc' := 58) (s_iload 5 dX13_wordsOf_56) <|
    BS.sq (pc' := 59) (s_iconst 1 (by decide +kernel) dX13_wordsOf_58) <|
    BS.sq (pc' := 60) (s_iadd dX13_wordsOf_59) <|
    BS.sq (pc' := 62) (s_istore 4 (by decide) dX13_wordsOf_60) <|
    BS.go rfl) <|
  AllB.c (pb := 62) (
    BS.sq (pc' := 65) (s_iinc 5 1 (1) (by decide +kernel) (by decide) dX13_wordsOf_62) <|
    s_goto rfl (by decide) dX13_wordsOf_65) <|
  AllB.c (pb := 68) (
    s_ret rfl dX13_wordsOf_68) <|
  AllB.n)
-- java/lang/AbstractStringBuilder.<init>(I)V
noncomputable def bs_J5_init_d00df : List rBl := [sq (h_ld isR 0) (sq (h_oinit) (sq (h_v (.inl 1)) (t_if (fun a => rEq a 0) 2 1))),
  sq (h_ld isR 0) (sq (h_ld isI 1) (sq (h_newa 2 (.inl 0)) (sq (h_put 1 0 isR) (sq (h_ld isR 0) (sq (h_v (.inl 0)) (sq (h_put 1 1 isB) (t_go 3))))))),
  t_no,
  t_ret]
noncomputable def ev_J5_init_d00df : rEv := fun as w n => rIni 2 as (fun ls => rRun bs_J5_init_d00df 100000 0 ls [] w n 0)
set_option maxRecDepth 100000 in
set_option maxHeartbeats 4000000 in
theorem ok_J5_init_d00df (l : Launch) : rMet vwCl rFo rZs rRs rNs rTs l yJ5_init_d00df cJ5_init_d00df 2 ((Option.none : Option FieldType)) 1 20 ev_J5_init_d00df := met_of (pcs := [0, 10, 25, 38]) (by decide +kernel) rfl (fun G n0 =>
  AllB.c (pb := 0) (
    BS.sq (pc' := 1) (s_aload_n (k := 0) 0 rfl dJ5_init_d00df_0) <|
    BS.sq (pc' := 4) (s_oinit kw325 kw2 kwObj (by decide) (by decide) dJ5_init_d00df_1) <|
    BS.sq (pc' := 7) (s_gets (.inl 1) kz0 kw326 rfl dJ5_init_d00df_4) <|
    s_if_eq rfl rfl (by decide) dJ5_init_d00df_7) <|
  AllB.c (pb := 10) (
    BS.sq (pc' := 11) (s_aload_n (k := 0) 0 rfl dJ5_init_d00df_10) <|
    BS.sq (pc' := 12) (s_iload_n (k := 1) 1 rfl dJ5_init_d00df_11) <|
    BS.sq (pc' := 14) (s_newa 2 (.inl 0) (by decide) rfl rfl (fun _ _ h => h) (by decide) kw3 dJ5_init_d00df_12) <|
    BS.sq (pc' := 17) (s_put tyJ4 0 isR inJ4 tyJ4_ok nmJ4 kc1 (by decide) kw327 rfl rfl (okf_A G _) dJ5_init_d00df_14) <|
    BS.sq (pc' := 18) (s_aload_n (k := 0) 0 rfl dJ5_init_d00df_17) <|
    BS.sq (pc' := 19) (s_iconst 0 (by decide +kernel) dJ5_init_d00df_18) <|
    BS.sq (pc' := 22) (s_put tyJ4 1 isB inJ4 tyJ4_ok nmJ4 kc1 (by decide) kw328 rfl rfl (okf_B G) dJ5_init_d00df_19) <|
    s_goto rfl (by decide) dJ5_init_d00df_22) <|
  AllB.c (pb := 25) (
    BS.no) <|
  AllB.c (pb := 38) (
    s_ret rfl dJ5_init_d00df_38) <|
  AllB.n)
-- java/lang/StringBuilder.<init>()V
noncomputable def bs_J4_init_da8c8 : List rBl := [sq (h_ld isR 0) (sq (h_v (.inl 16)) (sq (h_call 2 (rRecv rFo 1) ev_J5_init_d00df) (t_ret)))]
noncomputable def ev_J4_init_da8c8 : rEv := fun as w n => rIni 1 as (fun ls => rRun bs_J4_init_da8c8 100000 0 ls [] w n 0)
set_option maxRecDepth 100000 in
set_option maxHeartbeats 4000000 in
theorem ok_J4_init_da8c8 (l : Launch) : rMet vwCl rFo rZs rRs rNs rTs l yJ4_init_da8c8 cJ4_init_da8c8 1 ((Option.none : Option FieldType)) 2 41 ev_J4_init_da8c8 := met_of (pcs := [0]) (by decide +kernel) rfl (fun G n0 =>
  AllB.c (pb := 0) (
    BS.sq (pc' := 1) (s_aload_n (k := 0) 0 rfl dJ4_init_da8c8_0) <|
    BS.sq (pc' := 3) (s_bipush 16 (by decide +kernel) dJ4_init_da8c8_1) <|
    BS.sq (pc' := 6) (s_callI 1 1 kc1 (ok_J5_init_d00df l) kGood kw330 kw331 kw332 kw329 rfl (by decide +kernel) (by decide) (by decide) dJ4_init_da8c8_3) <|
    s_ret rfl dJ4_init_da8c8_6) <|
  AllB.n)
-- java/lang/AbstractStringBuilder.ensureCapacityInternal(I)V
noncomputable def bs_J5_ensureCapacityInternal_d00df : List rBl := [sq (h_ld isR 0) (sq (h_get rFo 1 0) (sq (h_alen rFo) (sq (h_ld isR 0) (sq (h_get rFo 1 1) (sq (h_bin okShr rShr) (sq (h_st isI 2) (sq (h_ld isI 1) (sq (h_ld isI 2) (sq (h_bin (fun _ _ => true) rSub) (t_if (fun a => rLe a 0) 2 1)))))))))),
  t_no,
  t_ret]
noncomputable def ev_J5_ensureCapacityInternal_d00df : rEv := fun as w n => rIni 3 as (fun ls => rRun bs_J5_ensureCapacityInternal_d00df 100000 0 ls [] w n 0)
set_option maxRecDepth 100000 in
set_option maxHeartbeats 4000000 in
theorem ok_J5_ensureCapacityInternal_d00df (l : Launch) : rMet vwCl rFo rZs rRs rNs rTs l yJ5_ensureCapacityInternal_d00df cJ5_ensureCapacityInternal_d00df 3 ((Option.none : Option FieldType)) 0 0 ev_J5_ensureCapacityInternal_d00df := met_of (pcs := [0, 17, 38]) (by decide +kernel) rfl (fun G n0 =>
  AllB.c (pb := 0) (
    BS.sq (pc' := 1) (s_aload_n (k := 0) 0 rfl dJ5_ensureCapacityInternal_d00df_0) <|
    BS.sq (pc' := 4) (s_get 0 inJ4 kc1 (by decide) kw327 rfl dJ5_ensureCapacityInternal_d00df_1) <|
    BS.sq (pc' := 5) (s_alen dJ5_ensureCapacityInternal_d00df_4) <|
    BS.sq (pc' := 6) (s_aload_n (k := 0) 0 rfl dJ5_ensureCapacityInternal_d00df_5) <|
    BS.sq (pc' := 9) (s_get 1 inJ4 kc1 (by decide) kw328 rfl dJ5_ensureCapacityInternal_d00df_6) <|
    BS.sq (pc' := 10) (s_ishr dJ5_ensureCapacityInternal_d00df_9) <|
    BS.sq (pc' := 11) (s_istore_n (k := 2) 2 rfl (by decide) dJ5_ensureCapacityInternal_d00df_10) <|
    BS.sq (pc' := 12) (s_iload_n (k := 1) 1 rfl dJ5_ensureCapacityInternal_d00df_11) <|
    BS.sq (pc' := 13) (s_iload_n (k := 2) 2 rfl dJ5_ensureCapacityInternal_d00df_12) <|
    BS.sq (pc' := 14) (s_isub dJ5_ensureCapacityInternal_d00df_13) <|
    s_if_le rfl rfl (by decide) dJ5_ensureCapacityInternal_d00df_14) <|
  AllB.c (pb := 17) (
    BS.no) <|
  AllB.c (pb := 38) (
    s_ret rfl dJ5_ensureCapacityInternal_d00df_38) <|
  AllB.n)
-- java/lang/AbstractStringBuilder.inflateIfNeededFor(Ljava/lang/String;)V
noncomputable def bs_J5_inflateIfNeededFor_a7421 : List rBl := [sq (h_v (.inl 1)) (t_if (fun a => rEq a 0) 3 1),
  sq (h_ld isR 0) (sq (h_get rFo 1 1) (sq (h_ld isR 1) (sq (h_call 1 (rRecv rFo 0) ev_J0_coder_7d493) (t_icmp rEq 3 2)))),
  t_no,
  t_ret]
noncomputable def ev_J5_inflateIfNeededFor_a7421 : rEv := fun as w n => rIni 2 as (fun ls => rRun bs_J5_inflateIfNeededFor_a7421 100000 0 ls [] w n 0)
set_option maxRecDepth 100000 in
set_option maxHeartbeats 4000000 in
theorem ok_J5_inflateIfNeededFor_a7421 (l : Launch) : rMet vwCl rFo rZs rRs rNs rTs l yJ5_inflateIfNeededFor_a7421 cJ5_inflateIfNeededFor_a7421 2 ((Option.none : Option FieldType)) 1 20 ev_J5_inflateIfNeededFor_a7421 := met_of (pcs := [0, 6, 17, 21]) (by decide +kernel) rfl (fun G n0 =>
  AllB.c (pb := 0) (
    BS.sq (pc' := 3) (s_gets (.inl 1) kz0 kw326 rfl dJ5_inflateIfNeededFor_a7421_0) <|
    s_if_eq rfl rfl (by decide) dJ5_inflateIfNeededFor_a7421_3) <|
  AllB.c (pb := 6) (
    BS.sq (pc' := 7) (s_aload_n (k := 0) 0 rfl dJ5_inflateIfNeededFor_a7421_6) <|
    BS.sq (pc' := 10) (s_get 1 inJ4 kc1 (by decide) kw328 rfl dJ5_inflateIfNeededFor_a7421_7) <|
    BS.sq (pc' := 11) (s_aload_n (k := 1) 1 rfl dJ5_inflateIfNeededFor_a7421_10) <|
    BS.sq (pc' := 14) (s_callV 0 0 kc0 (ok_J0_coder_7d493 l) kGood kw333 kw42 kw43 kw44 kw40 (by decide +kernel) (by decide) (by decide) dJ5_inflateIfNeededFor_a7421_11) <|
    s_icmp_eq rfl rfl (by decide) dJ5_inflateIfNeededFor_a7421_14) <|
  AllB.c (pb := 17) (
    BS.no) <|
  AllB.c (pb := 21) (
    s_ret rfl dJ5_inflateIfNeededFor_a7421_21) <|
  AllB.n)
-- java/lang/String.getBytes([BIB)V
noncomputable def bs_J0_getBytes_840e7 : List rBl := [sq (h_ld isR 0) (sq (h_call 1 (rRecv rFo 0) ev_J0_coder_7d493) (sq (h_ld isI 3) (t_icmp (fun a b => rNot (rEq a b)) 2 1))),
  sq (h_ld isR 0) (sq (h_get rFo 0 0) (sq (h_v (.inl 0)) (sq (h_ld isR 1) (sq (h_ld isI 2) (sq (h_ld isI 3) (sq (h_bin okSh rShl) (sq (h_ld isR 0) (sq (h_get rFo 0 0) (sq (h_alen rFo) (sq (h_acopy rFo) (t_go 3))))))))))),
  t_no,
  t_ret]
noncomputable def ev_J0_getBytes_840e7 : rEv := fun as w n => rIni 4 as (fun ls => rRun bs_J0_getBytes_840e7 100000 0 ls [] w n 0)
set_option maxRecDepth 100000 in
set_option maxHeartbeats 4000000 in
theorem ok_J0_getBytes_840e7 (l : Launch) : rMet vwCl rFo rZs rRs rNs rTs l yJ0_getBytes_840e7 cJ0_getBytes_840e7 4 ((Option.none : Option FieldType)) 1 100 ev_J0_getBytes_840e7 := met_of (pcs := [0, 8, 28, 43]) (by decide +kernel) rfl (fun G n0 =>
  AllB.c (pb := 0) (
    BS.sq (pc' := 1) (s_aload_n (k := 0) 0 rfl dJ0_getBytes_840e7_0) <|
    BS.sq (pc' := 4) (s_callV 0 0 kc0 (ok_J0_coder_7d493 l) kGood kw41 kw42 kw43 kw44 kw40 (by decide +kernel) (by decide) (by decide) dJ0_getBytes_840e7_1) <|
    BS.sq (pc' := 5) (s_iload_n (k := 3) 3 rfl dJ0_getBytes_840e7_4) <|
    s_icmp_ne rfl rfl (by decide) dJ0_getBytes_840e7_5) <|
  AllB.c (pb := 8) (
    BS.sq (pc' := 9) (s_aload_n (k := 0) 0 rfl dJ0_getBytes_840e7_8) <|
    BS.sq (pc' := 12) (s_get 0 inJ0 kc0 (by decide) kw39 rfl dJ0_getBytes_840e7_9) <|
    BS.sq (pc' := 13) (s_iconst 0 (by decide +kernel) dJ0_getBytes_840e7_12) <|
    BS.sq (pc' := 14) (s_aload_n (k := 1) 1 rfl dJ0_getBytes_840e7_13) <|
    BS.sq (pc' := 15) (s_iload_n (k := 2) 2 rfl dJ0_getBytes_840e7_14) <|
    BS.sq (pc' := 16) (s_iload_n (k := 3) 3 rfl dJ0_getBytes_840e7_15) <|
    BS.sq (pc' := 17) (s_ishl dJ0_getBytes_840e7_16) <|
    BS.sq (pc' := 18) (s_aload_n (k := 0) 0 rfl dJ0_getBytes_840e7_17) <|
    BS.sq (pc' := 21) (s_get 0 inJ0 kc0 (by decide) kw39 rfl dJ0_getBytes_840e7_18) <|
    BS.sq (pc' := 22) (s_alen dJ0_getBytes_840e7_21) <|
    BS.sq (pc' := 25) (s_acopy kw334 kw62 kw63 kw64 (by decide) (by decide) dJ0_getBytes_840e7_22) <|
    s_goto rfl (by decide) dJ0_getBytes_840e7_25) <|
  AllB.c (pb := 28) (
    BS.no) <|
  AllB.c (pb := 43) (
    s_ret rfl dJ0_getBytes_840e7_43) <|
  AllB.n)
-- java/lang/AbstractStringBuilder.putStringAt(ILjava/lang/String;)V
noncomputable def bs_J5_putStringAt_47b60 : List rBl := [sq (h_ld isR 0) (sq (h_ld isR 2) (sq (h_call 2 (rRecv rFo 1) ev_J5_inflateIfNeededFor_a7421) (sq (h_ld isR 2) (sq (h_ld isR 0) (sq (h_get rFo 1 0) (sq (h_ld isI 1) (sq (h_ld isR 0) (sq (h_get rFo 1 1) (sq (h_call 4 (rRecv rFo 0) ev_J0_getBytes_840e7) (t_ret))))))))))]
noncomputable def ev_J5_putStringAt_47b60 : rEv := fun as w n => rIni 3 as (fun ls => rRun bs_J5_putStringAt_47b60 100000 0 ls [] w n 0)
set_option maxRecDepth 100000 in
set_option maxHeartbeats 4000000 in
theorem ok_J5_putStringAt_47b60 (l : Launch) : rMet vwCl rFo rZs rRs rNs rTs l yJ5_putStringAt_47b60 cJ5_putStringAt_47b60 3 ((Option.none : Option FieldType)) 2 123 ev_J5_putStringAt_47b60 := met_of (pcs := [0]) (by decide +kernel) rfl (fun G n0 =>
  AllB.c (pb := 0) (
    BS.sq (pc' := 1) (s_aload_n (k := 0) 0 rfl dJ5_putStringAt_47b60_0) <|
    BS.sq (pc' := 2) (s_aload_n (k := 2) 2 rfl dJ5_putStringAt_47b60_1) <|
    BS.sq (pc' := 5) (s_callU (x := ⟨"java/lang/AbstractStringBuilde\x72", "inflateIfNeededFo\x72", "(Ljava/lang/String;)V"⟩) (owner := "java/lang/AbstractStringBuilde\x72") 1 1 kc1 (ok_J5_inflateIfNeededFor_a7421 l) kGood kw336 kw337 kw338 kw339 kw332 kw335 rfl (by decide +kernel) (by decide) (by decide) dJ5_putStringAt_47b60_2) <|
    BS.sq (pc' := 6) (s_aload_n (k := 2) 2 rfl dJ5_putStringAt_47b60_5) <|
    BS.sq (pc' := 7) (s_aload_n (k := 0) 0 rfl dJ5_putStringAt_47b60_6) <|
    BS.sq (pc' := 10) (s_get 0 inJ4 kc1 (by decide) kw327 rfl dJ5_putStringAt_47b60_7) <|
    BS.sq (pc' := 11) (s_iload_n (k := 1) 1 rfl dJ5_putStringAt_47b60_10) <|
    BS.sq (pc' := 12) (s_aload_n (k := 0) 0 rfl dJ5_putStringAt_47b60_11) <|
    BS.sq (pc' := 15) (s_get 1 inJ4 kc1 (by decide) kw328 rfl dJ5_putStringAt_47b60_12) <|
    BS.sq (pc' := 18) (s_callV 3 0 kc0 (ok_J0_getBytes_840e7 l) kGood kw341 kw342 kw343 kw44 kw340 (by decide +kernel) (by decide) (by decide) dJ5_putStringAt_47b60_15) <|
    s_ret rfl dJ5_putStringAt_47b60_18) <|
  AllB.n)
-- java/lang/AbstractStringBuilder.append(Ljava/lang/String;)Ljava/lang/AbstractStringBuilder;
noncomputable def bs_J5_append_cf1ce : List rBl := [sq (h_ld isR 1) (t_nul rFo 1 2),
  t_no,
  sq (h_ld isR 1) (sq (h_call 1 (rRecv rFo 0) ev_J0_length_8abf5) (sq (h_st isI 2) (sq (h_ld isR 0) (sq (h_ld isR 0) (sq (h_get rFo 1 3) (sq (h_ld isI 2) (sq (h_bin (fun _ _ => true) rAdd) (sq (h_call 2 (rRecv rFo 1) ev_J5_ensureCapacityInternal_d00df) (sq (h_ld isR 0) (sq (h_ld isR 0) (sq (h_get rFo 1 3) (sq (h_ld isR 1) (sq (h_call 3 (rRecv rFo 1) ev_J5_putStringAt_47b60) (sq (h_ld isR 0) (sq (h_dup) (sq (h_get rFo 1 3) (sq (h_ld isI 2) (sq (h_bin (fun _ _ => true) rAdd) (sq (h_put 1 3 isI) (sq (h_ld isR 0) (t_retv isR)))))))))))))))))))))]
noncomputable def ev_J5_append_cf1ce : rEv := fun as w n => rIni 3 as (fun ls => rRun bs_J5_append_cf1ce 100000 0 ls [] w n 0)
set_option maxRecDepth 100000 in
set_option maxHeartbeats 4000000 in
theorem ok_J5_append_cf1ce (l : Launch) : rMet vwCl rFo rZs rRs rNs rTs l yJ5_append_cf1ce cJ5_append_cf1ce 3 ((Option.some (FieldType.object "java/lang/AbstractStringBuilde\x72"))) 3 145 ev_J5_append_cf1ce := met_of (pcs := [0, 4, 9]) (by decide +kernel) rfl (fun G n0 =>
  AllB.c (pb := 0) (
    BS.sq (pc' := 1) (s_aload_n (k := 1) 1 rfl dJ5_append_cf1ce_0) <|
    s_ifnonnull rfl rfl (by decide) dJ5_append_cf1ce_1) <|
  AllB.c (pb := 4) (
    BS.no) <|
  AllB.c (pb := 9) (
    BS.sq (pc' := 10) (s_aload_n (k := 1) 1 rfl dJ5_append_cf1ce_9) <|
    BS.sq (pc' := 13) (s_callV 0 0 kc0 (ok_J0_length_8abf5 l) kGood kw344 kw67 kw68 kw44 kw65 (by decide +kernel) (by decide) (by decide) dJ5_append_cf1ce_10) <|
    BS.sq (pc' := 14) (s_istore_n (k := 2) 2 rfl (by decide) dJ5_append_cf1ce_13) <|
    BS.sq (pc' := 15) (s_aload_n (k := 0) 0 rfl dJ5_append_cf1ce_14) <|
    BS.sq (pc' := 16) (s_aload_n (k := 0) 0 rfl dJ5_append_cf1ce_15) <|
    BS.sq (pc' := 19) (s_get 3 inJ4 kc1 (by decide) kw345 rfl dJ5_append_cf1ce_16) <|
    BS.sq (pc' := 20) (s_iload_n (k := 2) 2 rfl dJ5_append_cf1ce_19) <|
    BS.sq (pc' := 21) (s_iadd dJ5_append_cf1ce_20) <|
    BS.sq (pc' := 24) (s_callU (x := ⟨"java/lang/AbstractStringBuilde\x72", "ensureCapacityInternal", "(I)V"⟩) (owner := "java/lang/AbstractStringBuilde\x72") 1 1 kc1 (ok_J5_ensureCapacityInternal_d00df l) kGood kw347 kw348 kw349 kw350 kw332 kw346 rfl (by decide +kernel) (by decide) (by decide) dJ5_append_cf1ce_21) <|
    BS.sq (pc' := 25) (s_aload_n (k := 0) 0 rfl dJ5_append_cf1ce_24) <|
    BS.sq (pc' := 26) (s_aload_n (k := 0) 0 rfl dJ5_append_cf1ce_25) <|
    BS.sq (pc' := 29) (s_get 3 inJ4 kc1 (by decide) kw345 rfl dJ5_append_cf1ce_26) <|
    BS.sq (pc' := 30) (s_aload_n (k := 1) 1 rfl dJ5_append_cf1ce_29) <|
    BS.sq (pc' := 33) (s_callU (x := ⟨"java/lang/AbstractStringBuilde\x72", "putStringAt", "(ILjava/lang/String;)V"⟩) (owner := "java/lang/AbstractStringBuilde\x72") 2 1 kc1 (ok_J5_putStringAt_47b60 l) kGood kw352 kw353 kw354 kw355 kw332 kw351 rfl (by decide +kernel) (by decide) (by decide) dJ5_append_cf1ce_30) <|
    BS.sq (pc' := 34) (s_aload_n (k := 0) 0 rfl dJ5_append_cf1ce_33) <|
    BS.sq (pc' := 35) (s_dup dJ5_append_cf1ce_34) <|
    BS.sq (pc' := 38) (s_get 3 inJ4 kc1 (by decide) kw345 rfl dJ5_append_cf1ce_35) <|
    BS.sq (pc' := 39) (s_iload_n (k := 2) 2 rfl dJ5_append_cf1ce_38) <|
    BS.sq (pc' := 40) (s_iadd dJ5_append_cf1ce_39) <|
    BS.sq (pc' := 43) (s_put tyJ4 3 isI inJ4 tyJ4_ok nmJ4 kc1 (by decide) kw345 rfl rfl (okf_I G) dJ5_append_cf1ce_40) <|
    BS.sq (pc' := 44) (s_aload_n (k := 0) 0 rfl dJ5_append_cf1ce_43) <|
    s_reta rfl (Or.inl ⟨_, rfl⟩) dJ5_append_cf1ce_44) <|
  AllB.n)
-- java/lang/StringBuilder.append(Ljava/lang/String;)Ljava/lang/StringBuilder;
noncomputable def bs_J4_append_15ec4 : List rBl := [sq (h_ld isR 0) (sq (h_ld isR 1) (sq (h_call 2 (rRecv rFo 1) ev_J5_append_cf1ce) (sq (h_pop) (sq (h_ld isR 0) (t_retv isR)))))]
noncomputable def ev_J4_append_15ec4 : rEv := fun as w n => rIni 2 as (fun ls => rRun bs_J4_append_15ec4 100000 0 ls [] w n 0)
set_option maxRecDepth 100000 in
set_option maxHeartbeats 4000000 in
theorem ok_J4_append_15ec4 (l : Launch) : rMet vwCl rFo rZs rRs rNs rTs l yJ4_append_15ec4 cJ4_append_15ec4 2 ((Option.some (FieldType.object "java/lang/StringBuilde\x72"))) 4 167 ev_J4_append_15ec4 := met_of (pcs := [0]) (by decide +kernel) rfl (fun G n0 =>
  AllB.c (pb := 0) (
    BS.sq (pc' := 1) (s_aload_n (k := 0) 0 rfl dJ4_append_15ec4_0) <|
    BS.sq (pc' := 2) (s_aload_n (k := 1) 1 rfl dJ4_append_15ec4_1) <|
    BS.sq (pc' := 5) (s_callSU 1 1 kc1 (ok_J5_append_cf1ce l) kGood kw357 kw358 kw359 kw360 kw332 kw356 (by decide +kernel) (by decide) (by decide) dJ4_append_15ec4_2) <|
    BS.sq (pc' := 6) (s_pop dJ4_append_15ec4_5) <|
    BS.sq (pc' := 7) (s_aload_n (k := 0) 0 rfl dJ4_append_15ec4_6) <|
    s_reta rfl (Or.inl ⟨_, rfl⟩) dJ4_append_15ec4_7) <|
  AllB.n)
-- java/lang/AbstractStringBuilder.getValue()[B
noncomputable def bs_J5_getValue_6d5f1 : List rBl := [sq (h_ld isR 0) (sq (h_get rFo 1 0) (t_retv isR))]
noncomputable def ev_J5_getValue_6d5f1 : rEv := fun as w n => rIni 1 as (fun ls => rRun bs_J5_getValue_6d5f1 100000 0 ls [] w n 0)
set_option maxRecDepth 100000 in
set_option maxHeartbeats 4000000 in
theorem ok_J5_getValue_6d5f1 (l : Launch) : rMet vwCl rFo rZs rRs rNs rTs l yJ5_getValue_6d5f1 cJ5_getValue_6d5f1 1 ((Option.some (FieldType.array FieldType.byte))) 0 0 ev_J5_getValue_6d5f1 := met_of (pcs := [0]) (by decide +kernel) rfl (fun G n0 =>
  AllB.c (pb := 0) (
    BS.sq (pc' := 1) (s_aload_n (k := 0) 0 rfl dJ5_getValue_6d5f1_0) <|
    BS.sq (pc' := 4) (s_get 0 inJ4 kc1 (by decide) kw327 rfl dJ5_getValue_6d5f1_1) <|
    s_reta rfl (Or.inr ⟨_, rfl⟩) dJ5_getValue_6d5f1_4) <|
  AllB.n)
-- java/lang/AbstractStringBuilder.length()I
noncomputable def bs_J5_length_8abf5 : List rBl := [sq (h_ld isR 0) (sq (h_get rFo 1 3) (t_retv isI))]
noncomputable def ev_J5_length_8abf5 : rEv := fun as w n => rIni 1 as (fun ls => rRun bs_J5_length_8abf5 100000 0 ls [] w n 0)
set_option maxRecDepth 100000 in
set_option maxHeartbeats 4000000 in
theorem ok_J5_length_8abf5 (l : Launch) : rMet vwCl rFo rZs rRs rNs rTs l yJ5_length_8abf5 cJ5_length_8abf5 1 ((Option.some FieldType.int)) 0 0 ev_J5_length_8abf5 := met_of (pcs := [0]) (by decide +kernel) rfl (fun G n0 =>
  AllB.c (pb := 0) (
    BS.sq (pc' := 1) (s_aload_n (k := 0) 0 rfl dJ5_length_8abf5_0) <|
    BS.sq (pc' := 4) (s_get 3 inJ4 kc1 (by decide) kw345 rfl dJ5_length_8abf5_1) <|
    s_reti isI rfl okr_I dJ5_length_8abf5_4) <|
  AllB.n)
-- java/lang/StringBuilder.length()I
noncomputable def bs_J4_length_8abf5 : List rBl := [sq (h_ld isR 0) (sq (h_call 1 (rRecv rFo 1) ev_J5_length_8abf5) (t_retv isI))]
noncomputable def ev_J4_length_8abf5 : rEv := fun as w n => rIni 1 as (fun ls => rRun bs_J4_length_8abf5 100000 0 ls [] w n 0)
set_option maxRecDepth 100000 in
set_option maxHeartbeats 4000000 in
theorem ok_J4_length_8abf5 (l : Launch) : rMet vwCl rFo rZs rRs rNs rTs l yJ4_length_8abf5 cJ4_length_8abf5 1 ((Option.some FieldType.int)) 1 20 ev_J4_length_8abf5 := met_of (pcs := [0]) (by decide +kernel) rfl (fun G n0 =>
  AllB.c (pb := 0) (
    BS.sq (pc' := 1) (s_aload_n (k := 0) 0 rfl dJ4_length_8abf5_0) <|
    BS.sq (pc' := 4) (s_callSU 0 1 kc1 (ok_J5_length_8abf5 l) kGood kw362 kw363 kw359 kw364 kw332 kw361 (by decide +kernel) (by decide) (by decide) dJ4_length_8abf5_1) <|
    s_reti isI rfl okr_I dJ4_length_8abf5_4) <|
  AllB.n)
-- java/lang/AbstractStringBuilder.isLatin1()Z
noncomputable def bs_J5_isLatin1_aae02 : List rBl := [sq (h_v (.inl 1)) (t_if (fun a => rEq a 0) 3 1),
  sq (h_ld isR 0) (sq (h_get rFo 1 1) (t_if (fun a => rNot (rEq a 0)) 3 2)),
  sq (h_v (.inl 1)) (t_go 4),
  t_no,
  t_retv isZ]
noncomputable def ev_J5_isLatin1_aae02 : rEv := fun as w n => rIni 1 as (fun ls => rRun bs_J5_isLatin1_aae02 100000 0 ls [] w n 0)
set_option maxRecDepth 100000 in
set_option maxHeartbeats 4000000 in
theorem ok_J5_isLatin1_aae02 (l : Launch) : rMet vwCl rFo rZs rRs rNs rTs l yJ5_isLatin1_aae02 cJ5_isLatin1_aae02 1 ((Option.some FieldType.boolean)) 0 0 ev_J5_isLatin1_aae02 := met_of (pcs := [0, 6, 13, 17, 18]) (by decide +kernel) rfl (fun G n0 =>
  AllB.c (pb := 0) (
    BS.sq (pc' := 3) (s_gets (.inl 1) kz0 kw326 rfl dJ5_isLatin1_aae02_0) <|
    s_if_eq rfl rfl (by decide) dJ5_isLatin1_aae02_3) <|
  AllB.c (pb := 6) (
    BS.sq (pc' := 7) (s_aload_n (k := 0) 0 rfl dJ5_isLatin1_aae02_6) <|
    BS.sq (pc' := 10) (s_get 1 inJ4 kc1 (by decide) kw328 rfl dJ5_isLatin1_aae02_7) <|
    s_if_ne rfl rfl (by decide) dJ5_isLatin1_aae02_10) <|
  AllB.c (pb := 13) (
    BS.sq (pc' := 14) (s_iconst 1 (by decide +kernel) dJ5_isLatin1_aae02_13) <|
    s_goto rfl (by decide) dJ5_isLatin1_aae02_14) <|
  AllB.c (pb := 17) (
    BS.no) <|
  AllB.c (pb := 18) (
    s_reti isZ rfl okr_Z dJ5_isLatin1_aae02_18) <|
  AllB.n)
-- java/lang/String.<init>(Ljava/lang/AbstractStringBuilder;Ljava/lang/Void;)V
noncomputable def bs_J0_init_db425 : List rBl := [sq (h_ld isR 0) (sq (h_oinit) (sq (h_ld isR 1) (sq (h_call 1 (rRecv rFo 1) ev_J5_getValue_6d5f1) (sq (h_st isR 3) (sq (h_ld isR 1) (sq (h_call 1 (rRecv rFo 1) ev_J4_length_8abf5) (sq (h_st isI 4) (sq (h_ld isR 1) (sq (h_call 1 (rRecv rFo 1) ev_J5_isLatin1_aae02) (t_if (fun a => rEq a 0) 2 1)))))))))),
  sq (h_ld isR 0) (sq (h_v (.inl 0)) (sq (h_put 0 1 isB) (sq (h_ld isR 0) (sq (h_ld isR 3) (sq (h_v (.inl 0)) (sq (h_ld isI 4) (sq (h_call 3 rAny ev_J7_copyOfRange_39247) (sq (h_put 0 0 isR) (t_go 6))))))))),
  t_no,
  t_no,
  t_no,
  t_no,
  t_ret]
noncomputable def ev_J0_init_db425 : rEv := fun as w n => rIni 5 as (fun ls => rRun bs_J0_init_db425 100000 0 ls [] w n 0)
set_option maxRecDepth 100000 in
set_option maxHeartbeats 4000000 in
theorem ok_J0_init_db425 (l : Launch) : rMet vwCl rFo rZs rRs rNs rTs l yJ0_init_db425 cJ0_init_db425 5 ((Option.none : Option FieldType)) 3 146 ev_J0_init_db425 := met_of (pcs := [0, 22, 41, 47, 54, 79, 97]) (by decide +kernel) rfl (fun G n0 =>
  AllB.c (pb := 0) (
    BS.sq (pc' := 1) (s_aload_n (k := 0) 0 rfl dJ0_init_db425_0) <|
    BS.sq (pc' := 4) (s_oinit kw292 kw2 kwObj (by decide) (by decide) dJ0_init_db425_1) <|
    BS.sq (pc' := 5) (s_aload_n (k := 1) 1 rfl dJ0_init_db425_4) <|
    BS.sq (pc' := 8) (s_callU (x := ⟨"java/lang/AbstractStringBuilde\x72", "getValue", "()[B"⟩) (owner := "java/lang/AbstractStringBuilde\x72") 0 1 kc1 (ok_J5_getValue_6d5f1 l) kGood kw366 kw367 kw368 kw369 kw332 kw365 rfl (by decide +kernel) (by decide) (by decide) dJ0_init_db425_5) <|
    BS.sq (pc' := 9) (s_astore_n (k := 3) 3 rfl (by decide) dJ0_init_db425_8) <|
    BS.sq (pc' := 10) (s_aload_n (k := 1) 1 rfl dJ0_init_db425_9) <|
    BS.sq (pc' := 13) (s_callO (x := ⟨"java/lang/AbstractStringBuilde\x72", "length", "()I"⟩) (owner := "java/lang/AbstractStringBuilde\x72") 0 1 kc1 (ok_J4_length_8abf5 l) kGood kw371 kw363 kw364 kw372 kw373 kw374 kw370 kw361 (by decide +kernel) (by decide) (by decide) dJ0_init_db425_10) <|
    BS.sq (pc' := 15) (s_istore 4 (by decide) dJ0_init_db425_13) <|
    BS.sq (pc' := 16) (s_aload_n (k := 1) 1 rfl dJ0_init_db425_15) <|
    BS.sq (pc' := 19) (s_callU (x := ⟨"java/lang/AbstractStringBuilde\x72", "isLatin1", "()Z"⟩) (owner := "java/lang/AbstractStringBuilde\x72") 0 1 kc1 (ok_J5_isLatin1_aae02 l) kGood kw376 kw377 kw378 kw379 kw332 kw375 rfl (by decide +kernel) (by decide) (by decide) dJ0_init_db425_16) <|
    s_if_eq rfl rfl (by decide) dJ0_init_db425_19) <|
  AllB.c (pb := 22) (
    BS.sq (pc' := 23) (s_aload_n (k := 0) 0 rfl dJ0_init_db425_22) <|
    BS.sq (pc' := 24) (s_iconst 0 (by decide +kernel) dJ0_init_db425_23) <|
    BS.sq (pc' := 27) (s_putF tyJ0 1 isB inJ0 tyJ0_ok nmJ0 kc0 (by decide) kw38 rfl rfl rfl rfl (okf_B G) dJ0_init_db425_24) <|
    BS.sq (pc' := 28) (s_aload_n (k := 0) 0 rfl dJ0_init_db425_27) <|
    BS.sq (pc' := 29) (s_aload_n (k := 3) 3 rfl dJ0_init_db425_28) <|
    BS.sq (pc' := 30) (s_iconst 0 (by decide +kernel) dJ0_init_db425_29) <|
    BS.sq (pc' := 32) (s_iload 4 dJ0_init_db425_30) <|
    BS.sq (pc' := 35) (s_callS 3 (ok_J7_copyOfRange_39247 l) kGood kw380 kw297 kw13 kw295 (by decide +kernel) (by decide) (by decide) dJ0_init_db425_32) <|
    BS.sq (pc' := 38) (s_putF tyJ0 0 isR inJ0 tyJ0_ok nmJ0 kc0 (by decide) kw39 rfl rfl rfl rfl (okf_A G _) dJ0_init_db425_35) <|
    s_goto rfl (by decide) dJ0_init_db425_38) <|
  AllB.c (pb := 41) (
    BS.no) <|
  AllB.c (pb := 47) (
    BS.no) <|
  AllB.c (pb := 54) (
    BS.no) <|
  AllB.c (pb := 79) (
    BS.no) <|
  AllB.c (pb := 97) (
    s_ret rfl dJ0_init_db425_97) <|
  AllB.n)
-- java/lang/String.<init>(Ljava/lang/StringBuilder;)V
noncomputable def bs_J0_init_81219 : List rBl := [sq (h_ld isR 0) (sq (h_ld isR 1) (sq (h_v (.inr (.inr 0))) (sq (h_call 3 (rRecv rFo 0) ev_J0_init_db425) (t_ret))))]
noncomputable def ev_J0_init_81219 : rEv := fun as w n => rIni 2 as (fun ls => rRun bs_J0_init_81219 100000 0 ls [] w n 0)
set_option maxRecDepth 100000 in
set_option maxHeartbeats 4000000 in
theorem ok_J0_init_81219 (l : Launch) : rMet vwCl rFo rZs rRs rNs rTs l yJ0_init_81219 cJ0_init_81219 2 ((Option.none : Option FieldType)) 4 170 ev_J0_init_81219 := met_of (pcs := [0]) (by decide +kernel) rfl (fun G n0 =>
  AllB.c (pb := 0) (
    BS.sq (pc' := 1) (s_aload_n (k := 0) 0 rfl dJ0_init_81219_0) <|
    BS.sq (pc' := 2) (s_aload_n (k := 1) 1 rfl dJ0_init_81219_1) <|
    BS.sq (pc' := 3) (s_null dJ0_init_81219_2) <|
    BS.sq (pc' := 6) (s_callI 2 0 kc0 (ok_J0_init_db425 l) kGood kw382 kw383 kw44 kw381 rfl (by decide +kernel) (by decide) (by decide) dJ0_init_81219_3) <|
    s_ret rfl dJ0_init_81219_6) <|
  AllB.n)
-- java/lang/StringBuilder.toString()Ljava/lang/String;
noncomputable def bs_J4_toString_0e30d : List rBl := [sq (h_new 0 4 [.inr (.inr 0), .inl 0, .inl 0, .inl 0]) (sq (h_dup) (sq (h_ld isR 0) (sq (h_call 2 (rRecv rFo 0) ev_J0_init_81219) (t_retv isR))))]
noncomputable def ev_J4_toString_0e30d : rEv := fun as w n => rIni 1 as (fun ls => rRun bs_J4_toString_0e30d 100000 0 ls [] w n 0)
set_option maxRecDepth 100000 in
set_option maxHeartbeats 4000000 in
theorem ok_J4_toString_0e30d (l : Launch) : rMet vwCl rFo rZs rRs rNs rTs l yJ4_toString_0e30d cJ4_toString_0e30d 1 ((Option.some (FieldType.object "java/lang/String"))) 5 191 ev_J4_toString_0e30d := met_of (pcs := [0]) (by decide +kernel) rfl (fun G n0 =>
  AllB.c (pb := 0) (
    BS.sq (pc' := 3) (s_new tyJ0 inJ0 tyJ0_ok kc0 kw384 kw294 kw44 rfl rfl dJ4_toString_0e30d_0) <|
    BS.sq (pc' := 4) (s_dup dJ4_toString_0e30d_3) <|
    BS.sq (pc' := 5) (s_aload_n (k := 0) 0 rfl dJ4_toString_0e30d_4) <|
    BS.sq (pc' := 8) (s_callI 1 0 kc0 (ok_J0_init_81219 l) kGood kw386 kw387 kw44 kw385 rfl (by decide +kernel) (by decide) (by decide) dJ4_toString_0e30d_5) <|
    s_reta rfl (Or.inl ⟨_, rfl⟩) dJ4_toString_0e30d_8) <|
  AllB.n)
-- NativeWorksModel.joined(Ljava/lang/String;Ljava/lang/String;)Ljava/lang/String;
noncomputable def bs_X13_joined : List rBl := [sq (h_new 1 4 [.inr (.inr 0), .inl 0, .inl 0, .inl 0]) (sq (h_dup) (sq (h_call 1 (rRecv rFo 1) ev_J4_init_da8c8) (sq (h_ld isR 0) (sq (h_call 2 (rRecv rFo 1) ev_J4_append_15ec4) (sq (h_ld isR 1) (sq (h_call 2 (rRecv rFo 1) ev_J4_append_15ec4) (sq (h_call 1 (rRecv rFo 1) ev_J4_toString_0e30d) (t_retv isR))))))))]
noncomputable def ev_X13_joined : rEv := fun as w n => rIni 2 as (fun ls => rRun bs_X13_joined 100000 0 ls [] w n 0)
set_option maxRecDepth 100000 in
set_option maxHeartbeats 4000000 in
theorem ok_X13_joined (l : Launch) : rMet vwCl rFo rZs rRs rNs rTs l yX13_joined cX13_joined 2 ((Option.some (FieldType.object "java/lang/String"))) 6 211 ev_X13_joined := met_of (pcs := [0]) (by decide +kernel) rfl (fun G n0 =>
  AllB.c (pb := 0) (
    BS.sq (pc' := 3) (s_new tyJ4 inJ4 tyJ4_ok kc1 kw388 kw389 kw374 rfl rfl dX13_joined_0) <|
    BS.sq (pc' := 4) (s_dup dX13_joined_3) <|
    BS.sq (pc' := 7) (s_callI 0 1 kc1 (ok_J4_init_da8c8 l) kGood kw391 kw392 kw374 kw390 rfl (by decide +kernel) (by decide) (by decide) dX13_joined_4) <|
    BS.sq (pc' := 8) (s_aload_n (k := 0) 0 rfl dX13_joined_7) <|
    BS.sq (pc' := 11) (s_callV 1 1 kc1 (ok_J4_append_15ec4 l) kGood kw394 kw395 kw396 kw374 kw393 (by decide +kernel) (by decide) (by decide) dX13_joined_8) <|
    BS.sq (pc' := 12) (s_aload_n (k := 1) 1 rfl dX13_joined_11) <|
    BS.sq (pc' := 15) (s_callV 1 1 kc1 (ok_J4_append_15ec4 l) kGood kw394 kw395 kw396 kw374 kw393 (by decide +kernel) (by decide) (by decide) dX13_joined_12) <|
    BS.sq (pc' := 18) (s_callV 0 1 kc1 (ok_J4_toString_0e30d l) kGood kw398 kw399 kw400 kw374 kw397 (by decide +kernel) (by decide) (by decide) dX13_joined_15) <|
    s_reta rfl (Or.inl ⟨_, rfl⟩) dX13_joined_18) <|
  AllB.n)
-- NativeWorksModel.conditions(Ljava/lang/String;I)V
noncomputable def bs_X13_conditions : List rBl := [sq (h_v (.inl 20)) (sq (h_anewa) (sq (h_dup) (sq (h_v (.inl 0)) (sq (h_v (.inr (.inr 76))) (sq (h_astS rFo) (sq (h_dup) (sq (h_v (.inl 1)) (sq (h_v (.inr (.inr 80))) (sq (h_astS rFo) (sq (h_dup) (sq (h_v (.inl 2)) (sq (h_v (.inr (.inr 84))) (sq (h_astS rFo) (sq (h_dup) (sq (h_v (.inl 3)) (sq (h_v (.inr (.inr 88))) (sq (h_astS rFo) (sq (h_dup) (sq (h_v (.inl 4)) (sq (h_v (.inr (.inr 92))) (sq (h_astS rFo) (sq (h_dup) (sq (h_v (.inl 5)) (sq (h_v (.inr (.inr 96))) (sq (h_astS rFo) (sq (h_dup) (sq (h_v (.inl 6)) (sq (h_v (.inr (.inr 100))) (sq (h_astS rFo) (sq (h_dup) (sq (h_v (.inl 7)) (sq (h_v (.inr (.inr 104))) (sq (h_astS rFo) (sq (h_dup) (sq (h_v (.inl 8)) (sq (h_v (.inr (.inr 108))) (sq (h_astS rFo) (sq (h_dup) (sq (h_v (.inl 9)) (sq (h_v (.inr (.inr 112))) (sq (h_astS rFo) (sq (h_dup) (sq (h_v (.inl 10)) (sq (h_v (.inr (.inr 116))) (sq (h_astS rFo) (sq (h_dup) (sq (h_v (.inl 11)) (sq (h_v (.inr (.inr 120))) (sq (h_astS rFo) (sq (h_dup) (sq (h_v (.inl 12)) (sq (h_v (.inr (.inr 124))) (sq (h_astS rFo) (sq (h_dup) (sq (h_v (.inl 13)) (sq (h_v (.inr (.inr 128))) (sq (h_astS rFo) (sq (h_dup) (sq (h_v (.inl 14)) (t_go 1)))))))))))))))))))))))))))))))))))))))))))))))))))))))))))),
  sq (h_v (.inr (.inr 132))) (sq (h_astS rFo) (sq (h_dup) (sq (h_v (.inl 15)) (sq (h_v (.inr (.inr 136))) (sq (h_astS rFo) (sq (h_dup) (sq (h_v (.inl 16)) (sq (h_v (.inr (.inr 140))) (sq (h_astS rFo) (sq (h_dup) (sq (h_v (.inl 17)) (sq (h_v (.inr (.inr 144))) (sq (h_astS rFo) (sq (h_dup) (sq (h_v (.inl 18)) (sq (h_v (.inr (.inr 148))) (sq (h_astS rFo) (sq (h_dup) (sq (h_v (.inl 19)) (sq (h_v (.inr (.inr 152))) (sq (h_astS rFo) (sq (h_st isR 3) (sq (h_v (.inl 0)) (sq (h_st isI 4) (t_go 2))))))))))))))))))))))))),
  sq (h_ld isI 4) (sq (h_v (.inl 20)) (t_icmp (fun a b => rNot (rLt a b)) 7 3)),
  sq (h_ld isR 0) (sq (h_ld isR 1) (sq (h_ld isR 3) (sq (h_ld isI 4) (sq (h_ald rFo okA) (sq (h_call 2 rAny ev_X13_joined) (sq (h_ld isI 2) (sq (h_ld isI 4) (sq (h_v (.inl 16)) (t_icmp (fun a b => rNot (rLt a b)) 5 4))))))))),
  sq (h_ld isI 4) (t_go 6),
  sq (h_ld isI 4) (sq (h_v (.inl 14)) (sq (h_bin (fun _ _ => true) rSub) (t_go 6))),
  sq (h_v (.inl 24)) (sq (h_bin okSh rShl) (sq (h_bin (fun _ _ => true) Nat.lor) (sq (h_call 3 (rRecv rFo 15) ev_X13_word) (sq (h_inc 4 1) (t_go 2))))),
  t_ret]
noncomputable def ev_X13_conditions : rEv := fun as w n => rIni 5 as (fun ls => rRun bs_X13_conditions 100000 0 ls [] w n 0)
set_option maxRecDepth 100000 in
set_option maxHeartbeats 4000000 in
theorem ok_X13_conditions (l : Launch) : rMet vwCl rFo rZs rRs rNs rTs l yX13_conditions cX13_conditions 5 ((Option.none : Option FieldType)) 7 232 ev_X13_conditions := met_of (pcs := [0, 100, 143, 150, 167, 172, 177, 190]) (by decide +kernel) rfl (fun G n0 =>
  AllB.c (pb := 0) (
    BS.sq (pc' := 2) (s_bipush 20 (by decide +kernel) dX13_conditions_0) <|
    BS.sq (pc' := 5) (s_anewa kw401 kn1 dX13_conditions_2) <|
    BS.sq (pc' := 6) (s_dup dX13_conditions_5) <|
    BS.sq (pc' := 7) (s_iconst 0 (by decide +kernel) dX13_conditions_6) <|
    BS.sq (pc' := 10) (s_ldcSw 37 kr17 dX13_conditions_7) <|
    BS.sq (pc' := 11) (s_aastS kc0 dX13_conditions_10) <|
    BS.sq (pc' := 12) (s_dup dX13_conditions_11) <|
    BS.sq (pc' := 13) (s_iconst 1 (by decide +kernel) dX13_conditions_12) <|
    BS.sq (pc' := 16) (s_ldcSw 39 kr18 dX13_conditions_13) <|
    BS.sq (pc' := 17) (s_aastS kc0 dX13_conditions_16) <|
    BS.sq (pc' := 18) (s_dup dX13_conditions_17) <|
    BS.sq (pc' := 19) (s_iconst 2 (by decide +kernel) dX13_conditions_18) <|
    BS.sq (pc' := 22) (s_ldcSw 41 kr19 dX13_conditions_19) <|
    BS.sq (pc' := 23) (s_aastS kc0 dX13_conditions_22) <|
    BS.sq (pc' := 24) (s_dup dX13_conditions_23) <|
    BS.sq (pc' := 25) (s_iconst 3 (by decide +kernel) dX13_conditions_24) <|
    BS.sq (pc' := 28) (s_ldcSw 43 kr20 dX13_conditions_25) <|
    BS.sq (pc' := 29) (s_aastS kc0 dX13_conditions_28) <|
    BS.sq (pc' := 30) (s_dup dX13_conditions_29) <|
    BS.sq (pc' := 31) (s_iconst 4 (by decide +kernel) dX13_conditions_30) <|
    BS.sq (pc' := 34) (s_ldcSw 45 kr21 dX13_conditions_31) <|
    BS.sq (pc' := 35) (s_aastS kc0 dX13_conditions_34) <|
    BS.sq (pc' := 36) (s_dup dX13_conditions_35) <|
    BS.sq (pc' := 37) (s_iconst 5 (by decide +kernel) dX13_conditions_36) <|
    BS.sq (pc' := 40) (s_ldcSw 47 kr22 dX13_conditions_37) <|
    BS.sq (pc' := 41) (s_aastS kc0 dX13_conditions_40) <|
    BS.sq (pc' := 42) (s_dup dX13_conditions_41) <|
    BS.sq (pc' := 44) (s_bipush 6 (by decide +kernel) dX13_conditions_42) <|
    BS.sq (pc' := 47) (s_ldcSw 49 kr23 dX13_conditions_44) <|
    BS.sq (pc' := 48) (s_aastS kc0 dX13_conditions_47) <|
    BS.sq (pc' := 49) (s_dup dX13_conditions_48) <|
    BS.sq (pc' := 51) (s_bipush 7 (by decide +kernel) dX13_conditions_49) <|
    BS.sq (pc' := 54) (s_ldcSw 51 kr24 dX13_conditions_51) <|
    BS.sq (pc' := 55) (s_aastS kc0 dX13_conditions_54) <|
    BS.sq (pc' := 56) (s_dup dX13_conditions_55) <|
    BS.sq (pc' := 58) (s_bipush 8 (by decide +kernel) dX13_conditions_56) <|
    BS.sq (pc' := 61) (s_ldcSw 53 kr25 dX13_conditions_58) <|
    BS.sq (pc' := 62) (s_aastS kc0 dX13_conditions_61) <|
    BS.sq (pc' := 63) (s_dup dX13_conditions_62) <|
    BS.sq (pc' := 65) (s_bipush 9 (by decide +kernel) dX13_conditions_63) <|
    BS.sq (pc' := 68) (s_ldcSw 55 kr26 dX13_conditions_65) <|
    BS.sq (pc' := 69) (s_aastS kc0 dX13_conditions_68) <|
    BS.sq (pc' := 70) (s_dup dX13_conditions_69) <|
    BS.sq (pc' := 72) (s_bipush 10 (by decide +kernel) dX13_conditions_70) <|
    BS.sq (pc' := 75) (s_ldcSw 57 kr27 dX13_conditions_72) <|
    BS.sq (pc' := 76) (s_aastS kc0 dX13_conditions_75) <|
    BS.sq (pc' := 77) (s_dup dX13_conditions_76) <|
    BS.sq (pc' := 79) (s_bipush 11 (by decide +kernel) dX13_conditions_77) <|
    BS.sq (pc' := 82) (s_ldcSw 59 kr28 dX13_conditions_79) <|
    BS.sq (pc' := 83) (s_aastS kc0 dX13_conditions_82) <|
    BS.sq (pc' := 84) (s_dup dX13_conditions_83) <|
    BS.sq (pc' := 86) (s_bipush 12 (by decide +kernel) dX13_conditions_84) <|
    BS.sq (pc' := 89) (s_ldcSw 61 kr29 dX13_conditions_86) <|
    BS.sq (pc' := 90) (s_aastS kc0 dX13_conditions_89) <|
    BS.sq (pc' := 91) (s_dup dX13_conditions_90) <|
    BS.sq (pc' := 93) (s_bipush 13 (by decide +kernel) dX13_conditions_91) <|
    BS.sq (pc' := 96) (s_ldcSw 63 kr30 dX13_conditions_93) <|
    BS.sq (pc' := 97) (s_aastS kc0 dX13_conditions_96) <|
    BS.sq (pc' := 98) (s_dup dX13_conditions_97) <|
    BS.sq (pc' := 100) (s_bipush 14 (by decide +kernel) dX13_conditions_98) <|
    BS.go rfl) <|
  AllB.c (pb := 100) (
    BS.sq (pc' := 103) (s_ldcSw 65 kr31 dX13_conditions_100) <|
    BS.sq (pc' := 104) (s_aastS kc0 dX13_conditions_103) <|
    BS.sq (pc' := 105) (s_dup dX13_conditions_104) <|
    BS.sq (pc' := 107) (s_bipush 15 (by decide +kernel) dX13_conditions_105) <|
    BS.sq (pc' := 110) (s_ldcSw 67 kr32 dX13_conditions_107) <|
    BS.sq (pc' := 111) (s_aastS kc0 dX13_conditions_110) <|
    BS.sq (pc' := 112) (s_dup dX13_conditions_111) <|
    BS.sq (pc' := 114) (s_bipush 16 (by decide +kernel) dX13_conditions_112) <|
    BS.sq (pc' := 117) (s_ldcSw 69 kr33 dX13_conditions_114) <|
    BS.sq (pc' := 118) (s_aastS kc0 dX13_conditions_117) <|
    BS.sq (pc' := 119) (s_dup dX13_conditions_118) <|
    BS.sq (pc' := 121) (s_bipush 17 (by decide +kernel) dX13_conditions_119) <|
    BS.sq (pc' := 124) (s_ldcSw 71 kr34 dX13_conditions_121) <|
    BS.sq (pc' := 125) (s_aastS kc0 dX13_conditions_124) <|
    BS.sq (pc' := 126) (s_dup dX13_conditions_125) <|
    BS.sq (pc' := 128) (s_bipush 18 (by decide +kernel) dX13_conditions_126) <|
    BS.sq (pc' := 131) (s_ldcSw 73 kr35 dX13_conditions_128) <|
    BS.sq (pc' := 132) (s_aastS kc0 dX13_conditions_131) <|
    BS.sq (pc' := 133) (s_dup dX13_conditions_132) <|
    BS.sq (pc' := 135) (s_bipush 19 (by decide +kernel) dX13_conditions_133) <|
    BS.sq (pc' := 138) (s_ldcSw 75 kr36 dX13_conditions_135) <|
    BS.sq (pc' := 139) (s_aastS kc0 dX13_conditions_138) <|
    BS.sq (pc' := 140) (s_astore_n (k := 3) 3 rfl (by decide) dX13_conditions_139) <|
    BS.sq (pc' := 141) (s_iconst 0 (by decide +kernel) dX13_conditions_140) <|
    BS.sq (pc' := 143) (s_istore 4 (by decide) dX13_conditions_141) <|
    BS.go rfl) <|
  AllB.c (pb := 143) (
    BS.sq (pc' := 145) (s_iload 4 dX13_conditions_143) <|
    BS.sq (pc' := 147) (s_bipush 20 (by decide +kernel) dX13_conditions_145) <|
    s_icmp_ge rfl rfl (by decide) dX13_conditions_147) <|
  AllB.c (pb := 150) (
    BS.sq (pc' := 151) (s_aload_n (k := 0) 0 rfl dX13_conditions_150) <|
    BS.sq (pc' := 152) (s_aload_n (k := 1) 1 rfl dX13_conditions_151) <|
    BS.sq (pc' := 153) (s_aload_n (k := 3) 3 rfl dX13_conditions_152) <|
    BS.sq (pc' := 155) (s_iload 4 dX13_conditions_153) <|
    BS.sq (pc' := 156) (s_aaload dX13_conditions_155) <|
    BS.sq (pc' := 159) (s_callS 2 (ok_X13_joined l) kGood kw403 kw404 kw315 kw402 (by decide +kernel) (by decide) (by decide) dX13_conditions_156) <|
    BS.sq (pc' := 160) (s_iload_n (k := 2) 2 rfl dX13_conditions_159) <|
    BS.sq (pc' := 162) (s_iload 4 dX13_conditions_160) <|
    BS.sq (pc' := 164) (s_bipush 16 (by decide +kernel) dX13_conditions_162) <|
    s_icmp_ge rfl rfl (by decide) dX13_conditions_164) <|
  AllB.c (pb := 167) (
    BS.sq (pc' := 169) (s_iload 4 dX13_conditions_167) <|
    s_goto rfl (by decide) dX13_conditions_169) <|
  AllB.c (pb := 172) (
    BS.sq (pc' := 174) (s_iload 4 dX13_conditions_172) <|
    BS.sq (pc' := 176) (s_bipush 14 (by decide +kernel) dX13_conditions_174) <|
    BS.sq (pc' := 177) (s_isub dX13_conditions_176) <|
    BS.go rfl) <|
  AllB.c (pb := 177) (
    BS.sq (pc' := 179) (s_bipush 24 (by decide +kernel) dX13_conditions_177) <|
    BS.sq (pc' := 180) (s_ishl dX13_conditions_179) <|
    BS.sq (pc' := 181) (s_ior dX13_conditions_180) <|
    BS.sq (pc' := 184) (s_callV 2 15 kc15 (ok_X13_word l) kGood kw322 kw323 kw324 kw315 kw321 (by decide +kernel) (by decide) (by decide) dX13_conditions_181) <|
    BS.sq (pc' := 187) (s_iinc 4 1 (1) (by decide +kernel) (by decide) dX13_conditions_184) <|
    s_goto rfl (by decide) dX13_conditions_187) <|
  AllB.c (pb := 190) (
    s_ret rfl dX13_conditions_190) <|
  AllB.n)
-- NativeWorksModel.registerNamed(Ljava/lang/String;I)V
noncomputable def bs_X13_registerNamed : List rBl := [sq (h_ld isR 0) (sq (h_get rFo 15 6) (sq (h_ld isR 0) (sq (h_get rFo 15 4) (sq (h_ld isR 1) (sq (h_call 1 rAny ev_X13_pack) (sq (h_ast okJ) (sq (h_ld isR 0) (sq (h_get rFo 15 8) (sq (h_ld isR 0) (sq (h_get rFo 15 4) (sq (h_ld isI 2) (sq (h_ast okI) (sq (h_ld isR 0) (sq (h_dup) (sq (h_get rFo 15 4) (sq (h_v (.inl 1)) (sq (h_bin (fun _ _ => true) rAdd) (sq (h_put 15 4 isI) (t_ret)))))))))))))))))))]
noncomputable def ev_X13_registerNamed : rEv := fun as w n => rIni 3 as (fun ls => rRun bs_X13_registerNamed 100000 0 ls [] w n 0)
set_option maxRecDepth 100000 in
set_option maxHeartbeats 4000000 in
theorem ok_X13_registerNamed (l : Launch) : rMet vwCl rFo rZs rRs rNs rTs l yX13_registerNamed cX13_registerNamed 3 ((Option.none : Option FieldType)) 5 108 ev_X13_registerNamed := met_of (pcs := [0]) (by decide +kernel) rfl (fun G n0 =>
  AllB.c (pb := 0) (
    BS.sq (pc' := 1) (s_aload_n (k := 0) 0 rfl dX13_registerNamed_0) <|
    BS.sq (pc' := 4) (s_get 6 inX13 kc15 (by decide) kw405 rfl dX13_registerNamed_1) <|
    BS.sq (pc' := 5) (s_aload_n (k := 0) 0 rfl dX13_registerNamed_4) <|
    BS.sq (pc' := 8) (s_get 4 inX13 kc15 (by decide) kw406 rfl dX13_registerNamed_5) <|
    BS.sq (pc' := 9) (s_aload_n (k := 1) 1 rfl dX13_registerNamed_8) <|
    BS.sq (pc' := 12) (s_callS 1 (ok_X13_pack l) kGood kw313 kw314 kw315 kw312 (by decide +kernel) (by decide) (by decide) dX13_registerNamed_9) <|
    BS.sq (pc' := 13) (s_lastore dX13_registerNamed_12) <|
    BS.sq (pc' := 14) (s_aload_n (k := 0) 0 rfl dX13_registerNamed_13) <|
    BS.sq (pc' := 17) (s_get 8 inX13 kc15 (by decide) kw407 rfl dX13_registerNamed_14) <|
    BS.sq (pc' := 18) (s_aload_n (k := 0) 0 rfl dX13_registerNamed_17) <|
    BS.sq (pc' := 21) (s_get 4 inX13 kc15 (by decide) kw406 rfl dX13_registerNamed_18) <|
    BS.sq (pc' := 22) (s_iload_n (k := 2) 2 rfl dX13_registerNamed_21) <|
    BS.sq (pc' := 23) (s_iastore dX13_registerNamed_22) <|
    BS.sq (pc' := 24) (s_aload_n (k := 0) 0 rfl dX13_registerNamed_23) <|
    BS.sq (pc' := 25) (s_dup dX13_registerNamed_24) <|
    BS.sq (pc' := 28) (s_get 4 inX13 kc15 (by decide) kw406 rfl dX13_registerNamed_25) <|
    BS.sq (pc' := 29) (s_iconst 1 (by decide +kernel) dX13_registerNamed_28) <|
    BS.sq (pc' := 30) (s_iadd dX13_registerNamed_29) <|
    BS.sq (pc' := 33) (s_put tyX13 4 isI inX13 tyX13_ok nmX13 kc15 (by decide) kw406 rfl rfl (okf_I G) dX13_registerNamed_30) <|
    s_ret rfl dX13_registerNamed_33) <|
  AllB.n)
-- java/lang/Integer.stringSize(I)I
noncomputable def bs_J6_stringSize_0f7a4 : List rBl := [sq (h_v (.inl 1)) (sq (h_st isI 1) (sq (h_ld isI 0) (t_if (fun a => rLt a 0) 2 1))),
  sq (h_v (.inl 0)) (sq (h_st isI 1) (sq (h_ld isI 0) (sq (h_un (fun _ => true) rNeg) (sq (h_st isI 0) (t_go 2))))),
  sq (h_v (.inl 4294967286)) (sq (h_st isI 2) (sq (h_v (.inl 1)) (sq (h_st isI 3) (t_go 3)))),
  sq (h_ld isI 3) (sq (h_v (.inl 10)) (t_icmp (fun a b => rNot (rLt a b)) 7 4)),
  sq (h_ld isI 0) (sq (h_ld isI 2) (t_icmp rLe 6 5)),
  sq (h_ld isI 3) (sq (h_ld isI 1) (sq (h_bin (fun _ _ => true) rAdd) (t_retv isI))),
  sq (h_v (.inl 10)) (sq (h_ld isI 2) (sq (h_bin (fun _ _ => true) rMul) (sq (h_st isI 2) (sq (h_inc 3 1) (t_go 3))))),
  t_no]
noncomputable def ev_J6_stringSize_0f7a4 : rEv := fun as w n => rIni 4 as (fun ls => rRun bs_J6_stringSize_0f7a4 100000 0 ls [] w n 0)
set_option maxRecDepth 100000 in
set_option maxHeartbeats 4000000 in
theorem ok_J6_stringSize_0f7a4 (l : Launch) : rMet vwCl rFo rZs rRs rNs rTs l yJ6_stringSize_0f7a4 cJ6_stringSize_0f7a4 4 ((Option.some FieldType.int)) 0 0 ev_J6_stringSize_0f7a4 := met_of (pcs := [0, 6, 11, 16, 22, 27, 31, 42]) (by decide +kernel) rfl (fun G n0 =>
  AllB.c (pb := 0) (
    BS.sq (pc' := 1) (s_iconst 1 (by decide +kernel) dJ6_stringSize_0f7a4_0) <|
    BS.sq (pc' := 2) (s_istore_n (k := 1) 1 rfl (by decide) dJ6_stringSize_0f7a4_1) <|
    BS.sq (pc' := 3) (s_iload_n (k := 0) 0 rfl dJ6_stringSize_0f7a4_2) <|
    s_if_lt rfl rfl (by decide) dJ6_stringSize_0f7a4_3) <|
  AllB.c (pb := 6) (
    BS.sq (pc' := 7) (s_iconst 0 (by decide +kernel) dJ6_stringSize_0f7a4_6) <|
    BS.sq (pc' := 8) (s_istore_n (k := 1) 1 rfl (by decide) dJ6_stringSize_0f7a4_7) <|
    BS.sq (pc' := 9) (s_iload_n (k := 0) 0 rfl dJ6_stringSize_0f7a4_8) <|
    BS.sq (pc' := 10) (s_ineg dJ6_stringSize_0f7a4_9) <|
    BS.sq (pc' := 11) (s_istore_n (k := 0) 0 rfl (by decide) dJ6_stringSize_0f7a4_10) <|
    BS.go rfl) <|
  AllB.c (pb := 11) (
    BS.sq (pc' := 13) (s_bipush 4294967286 (by decide +kernel) dJ6_stringSize_0f7a4_11) <|
    BS.sq (pc' := 14) (s_istore_n (k := 2) 2 rfl (by decide) dJ6_stringSize_0f7a4_13) <|
    BS.sq (pc' := 15) (s_iconst 1 (by decide +kernel) dJ6_stringSize_0f7a4_14) <|
    BS.sq (pc' := 16) (s_istore_n (k := 3) 3 rfl (by decide) dJ6_stringSize_0f7a4_15) <|
    BS.go rfl) <|
  AllB.c (pb := 16) (
    BS.sq (pc' := 17) (s_iload_n (k := 3) 3 rfl dJ6_stringSize_0f7a4_16) <|
    BS.sq (pc' := 19) (s_bipush 10 (by decide +kernel) dJ6_stringSize_0f7a4_17) <|
    s_icmp_ge rfl rfl (by decide) dJ6_stringSize_0f7a4_19) <|
  AllB.c (pb := 22) (
    BS.sq (pc' := 23) (s_iload_n (k := 0) 0 rfl dJ6_stringSize_0f7a4_22) <|
    BS.sq (pc' := 24) (s_iload_n (k := 2) 2 rfl dJ6_stringSize_0f7a4_23) <|
    s_icmp_le rfl rfl (by decide) dJ6_stringSize_0f7a4_24) <|
  AllB.c (pb := 27) (
    BS.sq (pc' := 28) (s_iload_n (k := 3) 3 rfl dJ6_stringSize_0f7a4_27) <|
    BS.sq (pc' := 29) (s_iload_n (k := 1) 1 rfl dJ6_stringSize_0f7a4_28) <|
    BS.sq (pc' := 30) (s_iadd dJ6_stringSize_0f7a4_29) <|
    s_reti isI rfl okr_I dJ6_stringSize_0f7a4_30) <|
  AllB.c (pb := 31) (
    BS.sq (pc' := 33) (s_bipush 10 (by decide +kernel) dJ6_stringSize_0f7a4_31) <|
    BS.sq (pc' := 34) (s_iload_n (k := 2) 2 rfl dJ6_stringSize_0f7a4_33) <|
    BS.sq (pc' := 35) (s_imul dJ6_stringSize_0f7a4_34) <|
    BS.sq (pc' := 36) (s_istore_n (k := 2) 2 rfl (by decide) dJ6_stringSize_0f7a4_35) <|
    BS.sq (pc' := 39) (s_iinc 3 1 (1) (by decide +kernel) (by decide) dJ6_stringSize_0f7a4_36) <|
    s_goto rfl (by decide) dJ6_stringSize_0f7a4_39) <|
  AllB.c (pb := 42) (
    BS.no) <|
  AllB.n)
-- java/lang/Integer.getChars(II[B)I
noncomputable def bs_J6_getChars_ba4f3 : List rBl := [sq (h_ld isI 1) (sq (h_st isI 5) (sq (h_ld isI 0) (t_if (fun a => rNot (rLt a 0)) 2 1))),
  t_no,
  sq (h_v (.inl 0)) (t_go 3),
  sq (h_st isI 6) (sq (h_ld isI 6) (t_if (fun a => rNot (rEq a 0)) 5 4)),
  sq (h_ld isI 0) (sq (h_un (fun _ => true) rNeg) (sq (h_st isI 0) (t_go 5))),
  sq (h_ld isI 0) (sq (h_v (.inl 4294967196)) (t_icmp (fun a b => rNot (rLe a b)) 7 6)),
  t_no,
  sq (h_ld isR 2) (sq (h_inc 5 4294967295) (sq (h_ld isI 5) (sq (h_v (.inr (.inr 156))) (sq (h_ld isI 0) (sq (h_un (fun _ => true) rNeg) (sq (h_ald rFo okB) (sq (h_ast okB) (sq (h_ld isI 0) (sq (h_v (.inl 4294967287)) (t_icmp (fun a b => rNot (rLt a b)) 9 8)))))))))),
  sq (h_ld isR 2) (sq (h_inc 5 4294967295) (sq (h_ld isI 5) (sq (h_v (.inr (.inr 158))) (sq (h_ld isI 0) (sq (h_un (fun _ => true) rNeg) (sq (h_ald rFo okB) (sq (h_ast okB) (t_go 9)))))))),
  sq (h_ld isI 6) (t_if (fun a => rEq a 0) 11 10),
  t_no,
  sq (h_ld isI 5) (t_retv isI)]
noncomputable def ev_J6_getChars_ba4f3 : rEv := fun as w n => rIni 7 as (fun ls => rRun bs_J6_getChars_ba4f3 100000 0 ls [] w n 0)
set_option maxRecDepth 100000 in
set_option maxHeartbeats 4000000 in
theorem ok_J6_getChars_ba4f3 (l : Launch) : rMet vwCl rFo rZs rRs rNs rTs l yJ6_getChars_ba4f3 cJ6_getChars_ba4f3 7 ((Option.some FieldType.int)) 0 0 ev_J6_getChars_ba4f3 := met_of (pcs := [0, 7, 11, 12, 19, 22, 28, 72, 91, 104, 109, 118]) (by decide +kernel) rfl (fun G n0 =>
  AllB.c (pb := 0) (
    BS.sq (pc' := 1) (s_iload_n (k := 1) 1 rfl dJ6_getChars_ba4f3_0) <|
    BS.sq (pc' := 3) (s_istore 5 (by decide) dJ6_getChars_ba4f3_1) <|
    BS.sq (pc' := 4) (s_iload_n (k := 0) 0 rfl dJ6_getChars_ba4f3_3) <|
    s_if_ge rfl rfl (by decide) dJ6_getChars_ba4f3_4) <|
  AllB.c (pb := 7) (
    BS.no) <|
  AllB.c (pb := 11) (
    BS.sq (pc' := 12) (s_iconst 0 (by decide +kernel) dJ6_getChars_ba4f3_11) <|
    BS.go rfl) <|
  AllB.c (pb := 12) (
    BS.sq (pc' := 14) (s_istore 6 (by decide) dJ6_getChars_ba4f3_12) <|
    BS.sq (pc' := 16) (s_iload 6 dJ6_getChars_ba4f3_14) <|
    s_if_ne rfl rfl (by decide) dJ6_getChars_ba4f3_16) <|
  AllB.c (pb := 19) (
    BS.sq (pc' := 20) (s_iload_n (k := 0) 0 rfl dJ6_getChars_ba4f3_19) <|
    BS.sq (pc' := 21) (s_ineg dJ6_getChars_ba4f3_20) <|
    BS.sq (pc' := 22) (s_istore_n (k := 0) 0 rfl (by decide) dJ6_getChars_ba4f3_21) <|
    BS.go rfl) <|
  AllB.c (pb := 22) (
    BS.sq (pc' := 23) (s_iload_n (k := 0) 0 rfl dJ6_getChars_ba4f3_22) <|
    BS.sq (pc' := 25) (s_bipush 4294967196 (by decide +kernel) dJ6_getChars_ba4f3_23) <|
    s_icmp_gt rfl rfl (by decide) dJ6_getChars_ba4f3_25) <|
  AllB.c (pb := 28) (
    BS.no) <|
  AllB.c (pb := 72) (
    BS.sq (pc' := 73) (s_aload_n (k := 2) 2 rfl dJ6_getChars_ba4f3_72) <|
    BS.sq (pc' := 76) (s_iinc 5 4294967295 (-1) (by decide +kernel) (by decide) dJ6_getChars_ba4f3_73) <|
    BS.sq (pc' := 78) (s_iload 5 dJ6_getChars_ba4f3_76) <|
    BS.sq (pc' := 81) (s_gets (.inr (.inr 156)) kz5 kw408 rfl dJ6_getChars_ba4f3_78) <|
    BS.sq (pc' := 82) (s_iload_n (k := 0) 0 rfl dJ6_getChars_ba4f3_81) <|
    BS.sq (pc' := 83) (s_ineg dJ6_getChars_ba4f3_82) <|
    BS.sq (pc' := 84) (s_baload dJ6_getChars_ba4f3_83) <|
    BS.sq (pc' := 85) (s_bastore dJ6_getChars_ba4f3_84) <|
    BS.sq (pc' := 86) (s_iload_n (k := 0) 0 rfl dJ6_getChars_ba4f3_85) <|
    BS.sq (pc' := 88) (s_bipush 4294967287 (by decide +kernel) dJ6_getChars_ba4f3_86) <|
    s_icmp_ge rfl rfl (by decide) dJ6_getChars_ba4f3_88) <|
  AllB.c (pb := 91) (
    BS.sq (pc' := 92) (s_aload_n (k := 2) 2 rfl dJ6_getChars_ba4f3_91) <|
    BS.sq (pc' := 95) (s_iinc 5 4294967295 (-1) (by decide +kernel) (by decide) dJ6_getChars_ba4f3_92) <|
    BS.sq (pc' := 97) (s_iload 5 dJ6_getChars_ba4f3_95) <|
    BS.sq (pc' := 100) (s_gets (.inr (.inr 158)) kz6 kw409 rfl dJ6_getChars_ba4f3_97) <|
    BS.sq (pc' := 101) (s_iload_n (k := 0) 0 rfl dJ6_getChars_ba4f3_100) <|
    BS.sq (pc' := 102) (s_ineg dJ6_getChars_ba4f3_101) <|
    BS.sq (pc' := 103) (s_baload dJ6_getChars_ba4f3_102) <|
    BS.sq (pc' := 104) (s_bastore dJ6_getChars_ba4f3_103) <|
    BS.go rfl) <|
  AllB.c (pb := 104) (
    BS.sq (pc' := 106) (s_iload 6 dJ6_getChars_ba4f3_104) <|
    s_if_eq rfl rfl (by decide) dJ6_getChars_ba4f3_106) <|
  AllB.c (pb := 109) (
    BS.no) <|
  AllB.c (pb := 118) (
    BS.sq (pc' := 120) (s_iload 5 dJ6_getChars_ba4f3_118) <|
    s_reti isI rfl okr_I dJ6_getChars_ba4f3_120) <|
  AllB.n)
-- java/lang/AbstractStringBuilder.append(I)Ljava/lang/AbstractStringBuilder;
noncomputable def bs_J5_append_c97b9 : List rBl := [sq (h_ld isR 0) (sq (h_get rFo 1 3) (sq (h_st isI 2) (sq (h_ld isI 2) (sq (h_ld isI 1) (sq (h_call 1 rAny ev_J6_stringSize_0f7a4) (sq (h_bin (fun _ _ => true) rAdd) (sq (h_st isI 3) (sq (h_ld isR 0) (sq (h_ld isI 3) (sq (h_call 2 (rRecv rFo 1) ev_J5_ensureCapacityInternal_d00df) (sq (h_ld isR 0) (sq (h_call 1 (rRecv rFo 1) ev_J5_isLatin1_aae02) (t_if (fun a => rEq a 0) 2 1))))))))))))),
  sq (h_ld isI 1) (sq (h_ld isI 3) (sq (h_ld isR 0) (sq (h_get rFo 1 0) (sq (h_call 3 rAny ev_J6_getChars_ba4f3) (sq (h_pop) (t_go 3)))))),
  t_no,
  sq (h_ld isR 0) (sq (h_ld isI 3) (sq (h_put 1 3 isI) (sq (h_ld isR 0) (t_retv isR))))]
noncomputable def ev_J5_append_c97b9 : rEv := fun as w n => rIni 4 as (fun ls => rRun bs_J5_append_c97b9 100000 0 ls [] w n 0)
set_option maxRecDepth 100000 in
set_option maxHeartbeats 4000000 in
theorem ok_J5_append_c97b9 (l : Launch) : rMet vwCl rFo rZs rRs rNs rTs l yJ5_append_c97b9 cJ5_append_c97b9 4 ((Option.some (FieldType.object "java/lang/AbstractStringBuilde\x72"))) 1 26 ev_J5_append_c97b9 := met_of (pcs := [0, 24, 37, 48]) (by decide +kernel) rfl (fun G n0 =>
  AllB.c (pb := 0) (
    BS.sq (pc' := 1) (s_aload_n (k := 0) 0 rfl dJ5_append_c97b9_0) <|
    BS.sq (pc' := 4) (s_get 3 inJ4 kc1 (by decide) kw345 rfl dJ5_append_c97b9_1) <|
    BS.sq (pc' := 5) (s_istore_n (k := 2) 2 rfl (by decide) dJ5_append_c97b9_4) <|
    BS.sq (pc' := 6) (s_iload_n (k := 2) 2 rfl dJ5_append_c97b9_5) <|
    BS.sq (pc' := 7) (s_iload_n (k := 1) 1 rfl dJ5_append_c97b9_6) <|
    BS.sq (pc' := 10) (s_callS 1 (ok_J6_stringSize_0f7a4 l) kGood kw411 kw412 kw413 kw410 (by decide +kernel) (by decide) (by decide) dJ5_append_c97b9_7) <|
    BS.sq (pc' := 11) (s_iadd dJ5_append_c97b9_10) <|
    BS.sq (pc' := 12) (s_istore_n (k := 3) 3 rfl (by decide) dJ5_append_c97b9_11) <|
    BS.sq (pc' := 13) (s_aload_n (k := 0) 0 rfl dJ5_append_c97b9_12) <|
    BS.sq (pc' := 14) (s_iload_n (k := 3) 3 rfl dJ5_append_c97b9_13) <|
    BS.sq (pc' := 17) (s_callU (x := ⟨"java/lang/AbstractStringBuilde\x72", "ensureCapacityInternal", "(I)V"⟩) (owner := "java/lang/AbstractStringBuilde\x72") 1 1 kc1 (ok_J5_ensureCapacityInternal_d00df l) kGood kw347 kw348 kw349 kw350 kw332 kw346 rfl (by decide +kernel) (by decide) (by decide) dJ5_append_c97b9_14) <|
    BS.sq (pc' := 18) (s_aload_n (k := 0) 0 rfl dJ5_append_c97b9_17) <|
    BS.sq (pc' := 21) (s_callU (x := ⟨"java/lang/AbstractStringBuilde\x72", "isLatin1", "()Z"⟩) (owner := "java/lang/AbstractStringBuilde\x72") 0 1 kc1 (ok_J5_isLatin1_aae02 l) kGood kw414 kw377 kw378 kw379 kw332 kw375 rfl (by decide +kernel) (by decide) (by decide) dJ5_append_c97b9_18) <|
    s_if_eq rfl rfl (by decide) dJ5_append_c97b9_21) <|
  AllB.c (pb := 24) (
    BS.sq (pc' := 25) (s_iload_n (k := 1) 1 rfl dJ5_append_c97b9_24) <|
    BS.sq (pc' := 26) (s_iload_n (k := 3) 3 rfl dJ5_append_c97b9_25) <|
    BS.sq (pc' := 27) (s_aload_n (k := 0) 0 rfl dJ5_append_c97b9_26) <|
    BS.sq (pc' := 30) (s_get 0 inJ4 kc1 (by decide) kw327 rfl dJ5_append_c97b9_27) <|
    BS.sq (pc' := 33) (s_callS 3 (ok_J6_getChars_ba4f3 l) kGood kw416 kw417 kw413 kw415 (by decide +kernel) (by decide) (by decide) dJ5_append_c97b9_30) <|
    BS.sq (pc' := 34) (s_pop dJ5_append_c97b9_33) <|
    s_goto rfl (by decide) dJ5_append_c97b9_34) <|
  AllB.c (pb := 37) (
    BS.no) <|
  AllB.c (pb := 48) (
    BS.sq (pc' := 49) (s_aload_n (k := 0) 0 rfl dJ5_append_c97b9_48) <|
    BS.sq (pc' := 50) (s_iload_n (k := 3) 3 rfl dJ5_append_c97b9_49) <|
    BS.sq (pc' := 53) (s_put tyJ4 3 isI inJ4 tyJ4_ok nmJ4 kc1 (by decide) kw345 rfl rfl (okf_I G) dJ5_append_c97b9_50) <|
    BS.sq (pc' := 54) (s_aload_n (k := 0) 0 rfl dJ5_append_c97b9_53) <|
    s_reta rfl (Or.inl ⟨_, rfl⟩) dJ5_append_c97b9_54) <|
  AllB.n)
-- java/lang/StringBuilder.append(I)Ljava/lang/StringBuilder;
noncomputable def bs_J4_append_bf812 : List rBl := [sq (h_ld isR 0) (sq (h_ld isI 1) (sq (h_call 2 (rRecv rFo 1) ev_J5_append_c97b9) (sq (h_pop) (sq (h_ld isR 0) (t_retv isR)))))]
noncomputable def ev_J4_append_bf812 : rEv := fun as w n => rIni 2 as (fun ls => rRun bs_J4_append_bf812 100000 0 ls [] w n 0)
set_option maxRecDepth 100000 in
set_option maxHeartbeats 4000000 in
theorem ok_J4_append_bf812 (l : Launch) : rMet vwCl rFo rZs rRs rNs rTs l yJ4_append_bf812 cJ4_append_bf812 2 ((Option.some (FieldType.object "java/lang/StringBuilde\x72"))) 2 49 ev_J4_append_bf812 := met_of (pcs := [0]) (by decide +kernel) rfl (fun G n0 =>
  AllB.c (pb := 0) (
    BS.sq (pc' := 1) (s_aload_n (k := 0) 0 rfl dJ4_append_bf812_0) <|
    BS.sq (pc' := 2) (s_iload_n (k := 1) 1 rfl dJ4_append_bf812_1) <|
    BS.sq (pc' := 5) (s_callSU 1 1 kc1 (ok_J5_append_c97b9 l) kGood kw419 kw420 kw359 kw421 kw332 kw418 (by decide +kernel) (by decide) (by decide) dJ4_append_bf812_2) <|
    BS.sq (pc' := 6) (s_pop dJ4_append_bf812_5) <|
    BS.sq (pc' := 7) (s_aload_n (k := 0) 0 rfl dJ4_append_bf812_6) <|
    s_reta rfl (Or.inl ⟨_, rfl⟩) dJ4_append_bf812_7) <|
  AllB.n)
-- NativeWorksModel.numbered(ILjava/lang/String;)Ljava/lang/String;
noncomputable def bs_X13_numbered : List rBl := [sq (h_new 1 4 [.inr (.inr 0), .inl 0, .inl 0, .inl 0]) (sq (h_dup) (sq (h_call 1 (rRecv rFo 1) ev_J4_init_da8c8) (sq (h_v (.inr (.inr 160))) (sq (h_call 2 (rRecv rFo 1) ev_J4_append_15ec4) (sq (h_ld isI 0) (sq (h_call 2 (rRecv rFo 1) ev_J4_append_bf812) (sq (h_ld isR 1) (sq (h_call 2 (rRecv rFo 1) ev_J4_append_15ec4) (sq (h_call 1 (rRecv rFo 1) ev_J4_toString_0e30d) (t_retv isR))))))))))]
noncomputable def ev_X13_numbered : rEv := fun as w n => rIni 2 as (fun ls => rRun bs_X13_numbered 100000 0 ls [] w n 0)
set_option maxRecDepth 100000 in
set_option maxHeartbeats 4000000 in
theorem ok_X13_numbered (l : Launch) : rMet vwCl rFo rZs rRs rNs rTs l yX13_numbered cX13_numbered 2 ((Option.some (FieldType.object "java/lang/String"))) 6 211 ev_X13_numbered := met_of (pcs := [0]) (by decide +kernel) rfl (fun G n0 =>
  AllB.c (pb := 0) (
    BS.sq (pc' := 3) (s_new tyJ4 inJ4 tyJ4_ok kc1 kw388 kw389 kw374 rfl rfl dX13_numbered_0) <|
    BS.sq (pc' := 4) (s_dup dX13_numbered_3) <|
    BS.sq (pc' := 7) (s_callI 0 1 kc1 (ok_J4_init_da8c8 l) kGood kw391 kw392 kw374 kw390 rfl (by decide +kernel) (by decide) (by decide) dX13_numbered_4) <|
    BS.sq (pc' := 10) (s_ldcSw 79 kr37 dX13_numbered_7) <|
    BS.sq (pc' := 13) (s_callV 1 1 kc1 (ok_J4_append_15ec4 l) kGood kw394 kw395 kw396 kw374 kw393 (by decide +kernel) (by decide) (by decide) dX13_numbered_10) <|
    BS.sq (pc' := 14) (s_iload_n (k := 0) 0 rfl dX13_numbered_13) <|
    BS.sq (pc' := 17) (s_callV 1 1 kc1 (ok_J4_append_bf812 l) kGood kw423 kw424 kw425 kw374 kw422 (by decide +kernel) (by decide) (by decide) dX13_numbered_14) <|
    BS.sq (pc' := 18) (s_aload_n (k := 1) 1 rfl dX13_numbered_17) <|
    BS.sq (pc' := 21) (s_callV 1 1 kc1 (ok_J4_append_15ec4 l) kGood kw394 kw395 kw396 kw374 kw393 (by decide +kernel) (by decide) (by decide) dX13_numbered_18) <|
    BS.sq (pc' := 24) (s_callV 0 1 kc1 (ok_J4_toString_0e30d l) kGood kw398 kw399 kw400 kw374 kw397 (by decide +kernel) (by decide) (by decide) dX13_numbered_21) <|
    s_reta rfl (Or.inl ⟨_, rfl⟩) dX13_numbered_24) <|
  AllB.n)
-- NativeWorksModel.registerNames()V
noncomputable def bs_X13_registerNames : List rBl := [sq (h_v (.inl 8)) (sq (h_anewa) (sq (h_dup) (sq (h_v (.inl 0)) (sq (h_v (.inr (.inr 164))) (sq (h_astS rFo) (sq (h_dup) (sq (h_v (.inl 1)) (sq (h_v (.inr (.inr 168))) (sq (h_astS rFo) (sq (h_dup) (sq (h_v (.inl 2)) (sq (h_v (.inr (.inr 172))) (sq (h_astS rFo) (sq (h_dup) (sq (h_v (.inl 3)) (sq (h_v (.inr (.inr 176))) (sq (h_astS rFo) (sq (h_dup) (sq (h_v (.inl 4)) (sq (h_v (.inr (.inr 180))) (sq (h_astS rFo) (sq (h_dup) (sq (h_v (.inl 5)) (sq (h_v (.inr (.inr 184))) (sq (h_astS rFo) (sq (h_dup) (sq (h_v (.inl 6)) (sq (h_v (.inr (.inr 188))) (sq (h_astS rFo) (sq (h_dup) (sq (h_v (.inl 7)) (sq (h_v (.inr (.inr 192))) (sq (h_astS rFo) (sq (h_st isR 1) (sq (h_v (.inl 8)) (sq (h_anewa) (sq (h_dup) (sq (h_v (.inl 0)) (sq (h_v (.inr (.inr 196))) (sq (h_astS rFo) (sq (h_dup) (sq (h_v (.inl 1)) (sq (h_v (.inr (.inr 200))) (sq (h_astS rFo) (sq (h_dup) (sq (h_v (.inl 2)) (sq (h_v (.inr (.inr 204))) (sq (h_astS rFo) (sq (h_dup) (sq (h_v (.inl 3)) (sq (h_v (.inr (.inr 208))) (sq (h_astS rFo) (sq (h_dup) (sq (h_v (.inl 4)) (sq (h_v (.inr (.inr 212))) (sq (h_astS rFo) (sq (h_dup) (sq (h_v (.inl 5)) (sq (h_v (.inr (.inr 216))) (t_go 1)))))))))))))))))))))))))))))))))))))))))))))))))))))))))))),
  sq (h_astS rFo) (sq (h_dup) (sq (h_v (.inl 6)) (sq (h_v (.inr (.inr 220))) (sq (h_astS rFo) (sq (h_dup) (sq (h_v (.inl 7)) (sq (h_v (.inr (.inr 224))) (sq (h_astS rFo) (sq (h_st isR 2) (sq (h_v (.inl 8)) (sq (h_anewa) (sq (h_dup) (sq (h_v (.inl 0)) (sq (h_v (.inr (.inr 228))) (sq (h_astS rFo) (sq (h_dup) (sq (h_v (.inl 1)) (sq (h_v (.inr (.inr 232))) (sq (h_astS rFo) (sq (h_dup) (sq (h_v (.inl 2)) (sq (h_v (.inr (.inr 236))) (sq (h_astS rFo) (sq (h_dup) (sq (h_v (.inl 3)) (sq (h_v (.inr (.inr 240))) (sq (h_astS rFo) (sq (h_dup) (sq (h_v (.inl 4)) (sq (h_v (.inr (.inr 244))) (sq (h_astS rFo) (sq (h_dup) (sq (h_v (.inl 5)) (sq (h_v (.inr (.inr 248))) (sq (h_astS rFo) (sq (h_dup) (sq (h_v (.inl 6)) (sq (h_v (.inr (.inr 252))) (sq (h_astS rFo) (sq (h_dup) (sq (h_v (.inl 7)) (sq (h_v (.inr (.inr 256))) (sq (h_astS rFo) (sq (h_st isR 3) (sq (h_v (.inl 0)) (sq (h_st isI 4) (t_go 2))))))))))))))))))))))))))))))))))))))))))))))),
  sq (h_ld isI 4) (sq (h_v (.inl 8)) (t_icmp (fun a b => rNot (rLt a b)) 5 3)),
  sq (h_ld isR 0) (sq (h_ld isR 1) (sq (h_ld isI 4) (sq (h_ald rFo okA) (sq (h_ld isI 4) (sq (h_v (.inl 2048)) (sq (h_bin (fun _ _ => true) Nat.lor) (sq (h_call 3 (rRecv rFo 15) ev_X13_registerNamed) (sq (h_ld isR 0) (sq (h_ld isR 2) (sq (h_ld isI 4) (sq (h_ald rFo okA) (sq (h_ld isI 4) (sq (h_v (.inl 1024)) (sq (h_bin (fun _ _ => true) Nat.lor) (sq (h_call 3 (rRecv rFo 15) ev_X13_registerNamed) (sq (h_ld isR 0) (sq (h_ld isR 3) (sq (h_ld isI 4) (sq (h_ald rFo okA) (sq (h_ld isI 4) (sq (h_v (.inl 256)) (sq (h_bin (fun _ _ => true) Nat.lor) (sq (h_call 3 (rRecv rFo 15) ev_X13_registerNamed) (sq (h_ld isR 0) (sq (h_v (.inl 8)) (sq (h_ld isI 4) (sq (h_bin (fun _ _ => true) rAdd) (sq (h_v (.inr (.inr 260))) (sq (h_call 2 rAny ev_X13_numbered) (sq (h_v (.inl 8)) (sq (h_ld isI 4) (sq (h_bin (fun _ _ => true) rAdd) (sq (h_v (.inl 2048)) (sq (h_bin (fun _ _ => true) Nat.lor) (sq (h_call 3 (rRecv rFo 15) ev_X13_registerNamed) (sq (h_ld isR 0) (sq (h_v (.inl 8)) (sq (h_ld isI 4) (sq (h_bin (fun _ _ => true) rAdd) (sq (h_v (.inr (.inr 264))) (sq (h_call 2 rAny ev_X13_numbered) (sq (h_v (.inl 8)) (sq (h_ld isI 4) (sq (h_bin (fun _ _ => true) rAdd) (sq (h_v (.inl 1024)) (sq (h_bin (fun _ _ => true) Nat.lor) (sq (h_call 3 (rRecv rFo 15) ev_X13_registerNamed) (sq (h_ld isR 0) (sq (h_v (.inl 8)) (sq (h_ld isI 4) (sq (h_bin (fun _ _ => true) rAdd) (sq (h_v (.inr (.inr 84))) (sq (h_call 2 rAny ev_X13_numbered) (sq (h_v (.inl 8)) (sq (h_ld isI 4) (sq (h_bin (fun _ _ => true) rAdd) (sq (h_v (.inl 256)) (sq (h_bin (fun _ _ => true) Nat.lor) (sq (h_call 3 (rRecv rFo 15) ev_X13_registerNamed) (t_go 4)))))))))))))))))))))))))))))))))))))))))))))))))))))))))))),
  sq (h_inc 4 1) (t_go 2),
  t_ret]
noncomputable def ev_X13_registerNames : rEv := fun as w n => rIni 5 as (fun ls => rRun bs_X13_registerNames 100000 0 ls [] w n 0)
set_option maxRecDepth 100000 in
set_option maxHeartbeats 4000000 in
theorem ok_X13_registerNames (l : Launch) : rMet vwCl rFo rZs rRs rNs rTs l yX13_registerNames cX13_registerNames 5 ((Option.none : Option FieldType)) 7 232 ev_X13_registerNames := met_of (pcs := [0, 96, 171, 178, 292, 298]) (by decide +kernel) rfl (fun G n0 =>
  AllB.c (pb := 0) (
    BS.sq (pc' := 2) (s_bipush 8 (by decide +kernel) dX13_registerNames_0) <|
    BS.sq (pc' := 5) (s_anewa kw401 kn1 dX13_registerNames_2) <|
    BS.sq (pc' := 6) (s_dup dX13_registerNames_5) <|
    BS.sq (pc' := 7) (s_iconst 0 (by decide +kernel) dX13_registerNames_6) <|
    BS.sq (pc' := 10) (s_ldcSw 81 kr38 dX13_registerNames_7) <|
    BS.sq (pc' := 11) (s_aastS kc0 dX13_registerNames_10) <|
    BS.sq (pc' := 12) (s_dup dX13_registerNames_11) <|
    BS.sq (pc' := 13) (s_iconst 1 (by decide +kernel) dX13_registerNames_12) <|
    BS.sq (pc' := 16) (s_ldcSw 83 kr39 dX13_registerNames_13) <|
    BS.sq (pc' := 17) (s_aastS kc0 dX13_registerNames_16) <|
    BS.sq (pc' := 18) (s_dup dX13_registerNames_17) <|
    BS.sq (pc' := 19) (s_iconst 2 (by decide +kernel) dX13_registerNames_18) <|
    BS.sq (pc' := 22) (s_ldcSw 85 kr40 dX13_registerNames_19) <|
    BS.sq (pc' := 23) (s_aastS kc0 dX13_registerNames_22) <|
    BS.sq (pc' := 24) (s_dup dX13_registerNames_23) <|
    BS.sq (pc' := 25) (s_iconst 3 (by decide +kernel) dX13_registerNames_24) <|
    BS.sq (pc' := 28) (s_ldcSw 87 kr41 dX13_registerNames_25) <|
    BS.sq (pc' := 29) (s_aastS kc0 dX13_registerNames_28) <|
    BS.sq (pc' := 30) (s_dup dX13_registerNames_29) <|
    BS.sq (pc' := 31) (s_iconst 4 (by decide +kernel) dX13_registerNames_30) <|
    BS.sq (pc' := 34) (s_ldcSw 89 kr42 dX13_registerNames_31) <|
    BS.sq (pc' := 35) (s_aastS kc0 dX13_registerNames_34) <|
    BS.sq (pc' := 36) (s_dup dX13_registerNames_35) <|
    BS.sq (pc' := 37) (s_iconst 5 (by decide +kernel) dX13_registerNames_36) <|
    BS.sq (pc' := 40) (s_ldcSw 91 kr43 dX13_registerNames_37) <|
    BS.sq (pc' := 41) (s_aastS kc0 dX13_registerNames_40) <|
    BS.sq (pc' := 42) (s_dup dX13_registerNames_41) <|
    BS.sq (pc' := 44) (s_bipush 6 (by decide +kernel) dX13_registerNames_42) <|
    BS.sq (pc' := 47) (s_ldcSw 93 kr44 dX13_registerNames_44) <|
    BS.sq (pc' := 48) (s_aastS kc0 dX13_registerNames_47) <|
    BS.sq (pc' := 49) (s_dup dX13_registerNames_48) <|
    BS.sq (pc' := 51) (s_bipush 7 (by decide +kernel) dX13_registerNames_49) <|
    BS.sq (pc' := 54) (s_ldcSw 95 kr45 dX13_registerNames_51) <|
    BS.sq (pc' := 55) (s_aastS kc0 dX13_registerNames_54) <|
    BS.sq (pc' := 56) (s_astore_n (k := 1) 1 rfl (by decide) dX13_registerNames_55) <|
    BS.sq (pc' := 58) (s_bipush 8 (by decide +kernel) dX13_registerNames_56) <|
    BS.sq (pc' := 61) (s_anewa kw401 kn1 dX13_registerNames_58) <|
    BS.sq (pc' := 62) (s_dup dX13_registerNames_61) <|
    BS.sq (pc' := 63) (s_iconst 0 (by decide +kernel) dX13_registerNames_62) <|
    BS.sq (pc' := 66) (s_ldcSw 97 kr46 dX13_registerNames_63) <|
    BS.sq (pc' := 67) (s_aastS kc0 dX13_registerNames_66) <|
    BS.sq (pc' := 68) (s_dup dX13_registerNames_67) <|
    BS.sq (pc' := 69) (s_iconst 1 (by decide +kernel) dX13_registerNames_68) <|
    BS.sq (pc' := 72) (s_ldcSw 99 kr47 dX13_registerNames_69) <|
    BS.sq (pc' := 73) (s_aastS kc0 dX13_registerNames_72) <|
    BS.sq (pc' := 74) (s_dup dX13_registerNames_73) <|
    BS.sq (pc' := 75) (s_iconst 2 (by decide +kernel) dX13_registerNames_74) <|
    BS.sq (pc' := 78) (s_ldcSw 101 kr48 dX13_registerNames_75) <|
    BS.sq (pc' := 79) (s_aastS kc0 dX13_registerNames_78) <|
    BS.sq (pc' := 80) (s_dup dX13_registerNames_79) <|
    BS.sq (pc' := 81) (s_iconst 3 (by decide +kernel) dX13_registerNames_80) <|
    BS.sq (pc' := 84) (s_ldcSw 103 kr49 dX13_registerNames_81) <|
    BS.sq (pc' := 85) (s_aastS kc0 dX13_registerNames_84) <|
    BS.sq (pc' := 86) (s_dup dX13_registerNames_85) <|
    BS.sq (pc' := 87) (s_iconst 4 (by decide +kernel) dX13_registerNames_86) <|
    BS.sq (pc' := 90) (s_ldcSw 105 kr50 dX13_registerNames_87) <|
    BS.sq (pc' := 91) (s_aastS kc0 dX13_registerNames_90) <|
    BS.sq (pc' := 92) (s_dup dX13_registerNames_91) <|
    BS.sq (pc' := 93) (s_iconst 5 (by decide +kernel) dX13_registerNames_92) <|
    BS.sq (pc' := 96) (s_ldcSw 107 kr51 dX13_registerNames_93) <|
    BS.go rfl) <|
  AllB.c (pb := 96) (
    BS.sq (pc' := 97) (s_aastS kc0 dX13_registerNames_96) <|
    BS.sq (pc' := 98) (s_dup dX13_registerNames_97) <|
    BS.sq (pc' := 100) (s_bipush 6 (by decide +kernel) dX13_registerNames_98) <|
    BS.sq (pc' := 103) (s_ldcSw 109 kr52 dX13_registerNames_100) <|
    BS.sq (pc' := 104) (s_aastS kc0 dX13_registerNames_103) <|
    BS.sq (pc' := 105) (s_dup dX13_registerNames_104) <|
    BS.sq (pc' := 107) (s_bipush 7 (by decide +kernel) dX13_registerNames_105) <|
    BS.sq (pc' := 110) (s_ldcSw 111 kr53 dX13_registerNames_107) <|
    BS.sq (pc' := 111) (s_aastS kc0 dX13_registerNames_110) <|
    BS.sq (pc' := 112) (s_astore_n (k := 2) 2 rfl (by decide) dX13_registerNames_111) <|
    BS.sq (pc' := 114) (s_bipush 8 (by decide +kernel) dX13_registerNames_112) <|
    BS.sq (pc' := 117) (s_anewa kw401 kn1 dX13_registerNames_114) <|
    BS.sq (pc' := 118) (s_dup dX13_registerNames_117) <|
    BS.sq (pc' := 119) (s_iconst 0 (by decide +kernel) dX13_registerNames_118) <|
    BS.sq (pc' := 122) (s_ldcSw 113 kr54 dX13_registerNames_119) <|
    BS.sq (pc' := 123) (s_aastS kc0 dX13_registerNames_122) <|
    BS.sq (pc' := 124) (s_dup dX13_registerNames_123) <|
    BS.sq (pc' := 125) (s_iconst 1 (by decide +kernel) dX13_registerNames_124) <|
    BS.sq (pc' := 128) (s_ldcSw 115 kr55 dX13_registerNames_125) <|
    BS.sq (pc' := 129) (s_aastS kc0 dX13_registerNames_128) <|
    BS.sq (pc' := 130) (s_dup dX13_registerNames_129) <|
    BS.sq (pc' := 131) (s_iconst 2 (by decide +kernel) dX13_registerNames_130) <|
    BS.sq (pc' := 134) (s_ldcSw 117 kr56 dX13_registerNames_131) <|
    BS.sq (pc' := 135) (s_aastS kc0 dX13_registerNames_134) <|
    BS.sq (pc' := 136) (s_dup dX13_registerNames_135) <|
    BS.sq (pc' := 137) (s_iconst 3 (by decide +kernel) dX13_registerNames_136) <|
    BS.sq (pc' := 140) (s_ldcSw 119 kr57 dX13_registerNames_137) <|
    BS.sq (pc' := 141) (s_aastS kc0 dX13_registerNames_140) <|
    BS.sq (pc' := 142) (s_dup dX13_registerNames_141) <|
    BS.sq (pc' := 143) (s_iconst 4 (by decide +kernel) dX13_registerNames_142) <|
    BS.sq (pc' := 146) (s_ldcSw 121 kr58 dX13_registerNames_143) <|
    BS.sq (pc' := 147) (s_aastS kc0 dX13_registerNames_146) <|
    BS.sq (pc' := 148) (s_dup dX13_registerNames_147) <|
    BS.sq (pc' := 149) (s_iconst 5 (by decide +kernel) dX13_registerNames_148) <|
    BS.sq (pc' := 152) (s_ldcSw 123 kr59 dX13_registerNames_149) <|
    BS.sq (pc' := 153) (s_aastS kc0 dX13_registerNames_152) <|
    BS.sq (pc' := 154) (s_dup dX13_registerNames_153) <|
    BS.sq (pc' := 156) (s_bipush 6 (by decide +kernel) dX13_registerNames_154) <|
    BS.sq (pc' := 159) (s_ldcSw 125 kr60 dX13_registerNames_156) <|
    BS.sq (pc' := 160) (s_aastS kc0 dX13_registerNames_159) <|
    BS.sq (pc' := 161) (s_dup dX13_registerNames_160) <|
    BS.sq (pc' := 163) (s_bipush 7 (by decide +kernel) dX13_registerNames_161) <|
    BS.sq (pc' := 166) (s_ldcSw 127 kr61 dX13_registerNames_163) <|
    BS.sq (pc' := 167) (s_aastS kc0 dX13_registerNames_166) <|
    BS.sq (pc' := 168) (s_astore_n (k := 3) 3 rfl (by decide) dX13_registerNames_167) <|
    BS.sq (pc' := 169) (s_iconst 0 (by decide +kernel) dX13_registerNames_168) <|
    BS.sq (pc' := 171) (s_istore 4 (by decide) dX13_registerNames_169) <|
    BS.go rfl) <|
  AllB.c (pb := 171) (
    BS.sq (pc' := 173) (s_iload 4 dX13_registerNames_171) <|
    BS.sq (pc' := 175) (s_bipush 8 (by decide +kernel) dX13_registerNames_173) <|
    s_icmp_ge rfl rfl (by decide) dX13_registerNames_175) <|
  AllB.c (pb := 178) (
    BS.sq (pc' := 179) (s_aload_n (k := 0) 0 rfl dX13_registerNames_178) <|
    BS.sq (pc' := 180) (s_aload_n (k := 1) 1 rfl dX13_registerNames_179) <|
    BS.sq (pc' := 182) (s_iload 4 dX13_registerNames_180) <|
    BS.sq (pc' := 183) (s_aaload dX13_registerNames_182) <|
    BS.sq (pc' := 185) (s_iload 4 dX13_registerNames_183) <|
    BS.sq (pc' := 188) (s_sipush 2048 (by decide +kernel) dX13_registerNames_185) <|
    BS.sq (pc' := 189) (s_ior dX13_registerNames_188) <|
    BS.sq (pc' := 192) (s_callV 2 15 kc15 (ok_X13_registerNamed l) kGood kw427 kw428 kw429 kw315 kw426 (by decide +kernel) (by decide) (by decide) dX13_registerNames_189) <|
    BS.sq (pc' := 193) (s_aload_n (k := 0) 0 rfl dX13_registerNames_192) <|
    BS.sq (pc' := 194) (s_aload_n (k := 2) 2 rfl dX13_registerNames_193) <|
    BS.sq (pc' := 196) (s_iload 4 dX13_registerNames_194) <|
    BS.sq (pc' := 197) (s_aaload dX13_registerNames_196) <|
    BS.sq (pc' := 199) (s_iload 4 dX13_registerNames_197) <|
    BS.sq (pc' := 202) (s_sipush 1024 (by decide +kernel) dX13_registerNames_199) <|
    BS.sq (pc' := 203) (s_ior dX13_registerNames_202) <|
    BS.sq (pc' := 206) (s_callV 2 15 kc15 (ok_X13_registerNamed l) kGood kw427 kw428 kw429 kw315 kw426 (by decide +kernel) (by decide) (by decide) dX13_registerNames_203) <|
    BS.sq (pc' := 207) (s_aload_n (k := 0) 0 rfl dX13_registerNames_206) <|
    BS.sq (pc' := 208) (s_aload_n (k := 3) 3 rfl dX13_registerNames_207) <|
    BS.sq (pc' := 210) (s_iload 4 dX13_registerNames_208) <|
    BS.sq (pc' := 211) (s_aaload dX13_registerNames_210) <|
    BS.sq (pc' := 213) (s_iload 4 dX13_registerNames_211) <|
    BS.sq (pc' := 216) (s_sipush 256 (by decide +kernel) dX13_registerNames_213) <|
    BS.sq (pc' := 217) (s_ior dX13_registerNames_216) <|
    BS.sq (pc' := 220) (s_callV 2 15 kc15 (ok_X13_registerNamed l) kGood kw427 kw428 kw429 kw315 kw426 (by decide +kernel) (by decide) (by decide) dX13_registerNames_217) <|
    BS.sq (pc' := 221) (s_aload_n (k := 0) 0 rfl dX13_registerNames_220) <|
    BS.sq (pc' := 223) (s_bipush 8 (by decide +kernel) dX13_registerNames_221) <|
    BS.sq (pc' := 225) (s_iload 4 dX13_registerNames_223) <|
    BS.sq (pc' := 226) (s_iadd dX13_registerNames_225) <|
    BS.sq (pc' := 229) (s_ldcSw 129 kr62 dX13_registerNames_226) <|
    BS.sq (pc' := 232) (s_callS 2 (ok_X13_numbered l) kGood kw431 kw432 kw315 kw430 (by decide +kernel) (by decide) (by decide) dX13_registerNames_229) <|
    BS.sq (pc' := 234) (s_bipush 8 (by decide +kernel) dX13_registerNames_232) <|
    BS.sq (pc' := 236) (s_iload 4 dX13_registerNames_234) <|
    BS.sq (pc' := 237) (s_iadd dX13_registerNames_236) <|
    BS.sq (pc' := 240) (s_sipush 2048 (by decide +kernel) dX13_registerNames_237) <|
    BS.sq (pc' := 241) (s_ior dX13_registerNames_240) <|
    BS.sq (pc' := 244) (s_callV 2 15 kc15 (ok_X13_registerNamed l) kGood kw427 kw428 kw429 kw315 kw426 (by decide +kernel) (by decide) (by decide) dX13_registerNames_241) <|
    BS.sq (pc' := 245) (s_aload_n (k := 0) 0 rfl dX13_registerNames_244) <|
    BS.sq (pc' := 247) (s_bipush 8 (by decide +kernel) dX13_registerNames_245) <|
    BS.sq (pc' := 249) (s_iload 4 dX13_registerNames_247) <|
    BS.sq (pc' := 250) (s_iadd dX13_registerNames_249) <|
    BS.sq (pc' := 253) (s_ldcSw 131 kr63 dX13_registerNames_250) <|
    BS.sq (pc' := 256) (s_callS 2 (ok_X13_numbered l) kGood kw431 kw432 kw315 kw430 (by decide +kernel) (by decide) (by decide) dX13_registerNames_253) <|
    BS.sq (pc' := 258) (s_bipush 8 (by decide +kernel) dX13_registerNames_256) <|
    BS.sq (pc' := 260) (s_iload 4 dX13_registerNames_258) <|
    BS.sq (pc' := 261) (s_iadd dX13_registerNames_260) <|
    BS.sq (pc' := 264) (s_sipush 1024 (by decide +kernel) dX13_registerNames_261) <|
    BS.sq (pc' := 265) (s_ior dX13_registerNames_264) <|
    BS.sq (pc' := 268) (s_callV 2 15 kc15 (ok_X13_registerNamed l) kGood kw427 kw428 kw429 kw315 kw426 (by decide +kernel) (by decide) (by decide) dX13_registerNames_265) <|
    BS.sq (pc' := 269) (s_aload_n (k := 0) 0 rfl dX13_registerNames_268) <|
    BS.sq (pc' := 271) (s_bipush 8 (by decide +kernel) dX13_registerNames_269) <|
    BS.sq (pc' := 273) (s_iload 4 dX13_registerNames_271) <|
    BS.sq (pc' := 274) (s_iadd dX13_registerNames_273) <|
    BS.sq (pc' := 277) (s_ldcSw 41 kr19 dX13_registerNames_274) <|
    BS.sq (pc' := 280) (s_callS 2 (ok_X13_numbered l) kGood kw431 kw432 kw315 kw430 (by decide +kernel) (by decide) (by decide) dX13_registerNames_277) <|
    BS.sq (pc' := 282) (s_bipush 8 (by decide +kernel) dX13_registerNames_280) <|
    BS.sq (pc' := 284) (s_iload 4 dX13_registerNames_282) <|
    BS.sq (pc' := 285) (s_iadd dX13_registerNames_284) <|
    BS.sq (pc' := 288) (s_sipush 256 (by decide +kernel) dX13_registerNames_285) <|
    BS.sq (pc' := 289) (s_ior dX13_registerNames_288) <|
    BS.sq (pc' := 292) (s_callV 2 15 kc15 (ok_X13_registerNamed l) kGood kw427 kw428 kw429 kw315 kw426 (by decide +kernel) (by decide) (by decide) dX13_registerNames_289) <|
    BS.go rfl) <|
  AllB.c (pb := 292) (
    BS.sq (pc' := 295) (s_iinc 4 1 (1) (by decide +kernel) (by decide) dX13_registerNames_292) <|
    s_goto rfl (by decide) dX13_registerNames_295) <|
  AllB.c (pb := 298) (
    s_ret rfl dX13_registerNames_298) <|
  AllB.n)
