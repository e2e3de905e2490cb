/-! METHODS OF THE CALLS -/
-- NativeWorks$Units.overlong()I
noncomputable def bs_X10_overlong : List rBl := [sq (h_ld isR 0) (sq (h_get rFo 12 9) (sq (h_ld isR 0) (sq (h_get rFo 12 11) (sq (h_ald rFo okA) (sq (h_v (.inl 1)) (sq (h_ald rFo okI) (sq (h_st isI 1) (t_go 1)))))))),
  sq (h_ld isI 1) (sq (h_ld isR 0) (sq (h_get rFo 12 14) (t_icmp (fun a b => rNot (rLt a b)) 5 2))),
  t_no,
  t_no,
  t_no,
  sq (h_v (.inl 0)) (t_retv isI)]
noncomputable def ev_X10_overlong : rEv := fun as w n => rIni 2 as (fun ls => rRun bs_X10_overlong 100000 0 ls [] w n 0)
set_option maxRecDepth 100000 in
set_option maxHeartbeats 4000000 in
theorem ok_X10_overlong (l : Launch) : rMet vwCl rFo rZs rRs rNs rTs l yX10_overlong cX10_overlong 2 ((Option.some FieldType.int)) 0 0 ev_X10_overlong := met_of (pcs := [0, 12, 20, 42, 51, 57]) (by decide +kernel) rfl (fun G n0 =>
  AllB.c (pb := 0) (
    BS.sq (pc' := 1) (s_aload_n (k := 0) 0 rfl dX10_overlong_0) <|
    BS.sq (pc' := 4) (s_get 9 inX10 kc12 (by decide) kw35 rfl dX10_overlong_1) <|
    BS.sq (pc' := 5) (s_aload_n (k := 0) 0 rfl dX10_overlong_4) <|
    BS.sq (pc' := 8) (s_get 11 inX10 kc12 (by decide) kw604 rfl dX10_overlong_5) <|
    BS.sq (pc' := 9) (s_aaload dX10_overlong_8) <|
    BS.sq (pc' := 10) (s_iconst 1 (by decide +kernel) dX10_overlong_9) <|
    BS.sq (pc' := 11) (s_iaload dX10_overlong_10) <|
    BS.sq (pc' := 12) (s_istore_n (k := 1) 1 rfl (by decide) dX10_overlong_11) <|
    BS.go rfl) <|
  AllB.c (pb := 12) (
    BS.sq (pc' := 13) (s_iload_n (k := 1) 1 rfl dX10_overlong_12) <|
    BS.sq (pc' := 14) (s_aload_n (k := 0) 0 rfl dX10_overlong_13) <|
    BS.sq (pc' := 17) (s_get 14 inX10 kc12 (by decide) kw607 rfl dX10_overlong_14) <|
    s_icmp_ge rfl rfl (by decide) dX10_overlong_17) <|
  AllB.c (pb := 20) (
    BS.no) <|
  AllB.c (pb := 42) (
    BS.no) <|
  AllB.c (pb := 51) (
    BS.no) <|
  AllB.c (pb := 57) (
    BS.sq (pc' := 58) (s_iconst 0 (by decide +kernel) dX10_overlong_57) <|
    s_reti isI rfl okr_I dX10_overlong_58) <|
  AllB.n)
-- java/util/Arrays.rangeCheck(III)V
noncomputable def bs_J7_rangeCheck_23922 : List rBl := [sq (h_ld isI 1) (sq (h_ld isI 2) (t_icmp rLe 2 1)),
  t_no,
  sq (h_ld isI 1) (t_if (fun a => rNot (rLt a 0)) 4 3),
  t_no,
  sq (h_ld isI 2) (sq (h_ld isI 0) (t_icmp rLe 6 5)),
  t_no,
  t_ret]
noncomputable def ev_J7_rangeCheck_23922 : rEv := fun as w n => rIni 3 as (fun ls => rRun bs_J7_rangeCheck_23922 100000 0 ls [] w n 0)
set_option maxRecDepth 100000 in
set_option maxHeartbeats 4000000 in
theorem ok_J7_rangeCheck_23922 (l : Launch) : rMet vwCl rFo rZs rRs rNs rTs l yJ7_rangeCheck_23922 cJ7_rangeCheck_23922 3 ((Option.none : Option FieldType)) 0 0 ev_J7_rangeCheck_23922 := met_of (pcs := [0, 5, 46, 50, 59, 64, 73]) (by decide +kernel) rfl (fun G n0 =>
  AllB.c (pb := 0) (
    BS.sq (pc' := 1) (s_iload_n (k := 1) 1 rfl dJ7_rangeCheck_23922_0) <|
    BS.sq (pc' := 2) (s_iload_n (k := 2) 2 rfl dJ7_rangeCheck_23922_1) <|
    s_icmp_le rfl rfl (by decide) dJ7_rangeCheck_23922_2) <|
  AllB.c (pb := 5) (
    BS.no) <|
  AllB.c (pb := 46) (
    BS.sq (pc' := 47) (s_iload_n (k := 1) 1 rfl dJ7_rangeCheck_23922_46) <|
    s_if_ge rfl rfl (by decide) dJ7_rangeCheck_23922_47) <|
  AllB.c (pb := 50) (
    BS.no) <|
  AllB.c (pb := 59) (
    BS.sq (pc' := 60) (s_iload_n (k := 2) 2 rfl dJ7_rangeCheck_23922_59) <|
    BS.sq (pc' := 61) (s_iload_n (k := 0) 0 rfl dJ7_rangeCheck_23922_60) <|
    s_icmp_le rfl rfl (by decide) dJ7_rangeCheck_23922_61) <|
  AllB.c (pb := 64) (
    BS.no) <|
  AllB.c (pb := 73) (
    s_ret rfl dJ7_rangeCheck_23922_73) <|
  AllB.n)
-- java/util/Arrays.fill([BIIB)V
noncomputable def bs_J7_fill_eb02e : List rBl := [sq (h_ld isR 0) (sq (h_alen rFo) (sq (h_ld isI 1) (sq (h_ld isI 2) (sq (h_call 3 rAny ev_J7_rangeCheck_23922) (sq (h_ld isI 1) (sq (h_st isI 4) (t_go 1))))))),
  sq (h_ld isI 4) (sq (h_ld isI 2) (t_icmp (fun a b => rNot (rLt a b)) 3 2)),
  t_no,
  t_ret]
noncomputable def ev_J7_fill_eb02e : rEv := fun as w n => rIni 5 as (fun ls => rRun bs_J7_fill_eb02e 100000 0 ls [] w n 0)
set_option maxRecDepth 100000 in
set_option maxHeartbeats 4000000 in
theorem ok_J7_fill_eb02e (l : Launch) : rMet vwCl rFo rZs rRs rNs rTs l yJ7_fill_eb02e cJ7_fill_eb02e 5 ((Option.none : Option FieldType)) 1 22 ev_J7_fill_eb02e := met_of (pcs := [0, 10, 16, 27]) (by decide +kernel) rfl (fun G n0 =>
  AllB.c (pb := 0) (
    BS.sq (pc' := 1) (s_aload_n (k := 0) 0 rfl dJ7_fill_eb02e_0) <|
    BS.sq (pc' := 2) (s_alen dJ7_fill_eb02e_1) <|
    BS.sq (pc' := 3) (s_iload_n (k := 1) 1 rfl dJ7_fill_eb02e_2) <|
    BS.sq (pc' := 4) (s_iload_n (k := 2) 2 rfl dJ7_fill_eb02e_3) <|
    BS.sq (pc' := 7) (s_callS 3 (ok_J7_rangeCheck_23922 l) kGood kw645 kw646 kw13 kw644 (by decide +kernel) (by decide) (by decide) dJ7_fill_eb02e_4) <|
    BS.sq (pc' := 8) (s_iload_n (k := 1) 1 rfl dJ7_fill_eb02e_7) <|
    BS.sq (pc' := 10) (s_istore 4 (by decide) dJ7_fill_eb02e_8) <|
    BS.go rfl) <|
  AllB.c (pb := 10) (
    BS.sq (pc' := 12) (s_iload 4 dJ7_fill_eb02e_10) <|
    BS.sq (pc' := 13) (s_iload_n (k := 2) 2 rfl dJ7_fill_eb02e_12) <|
    s_icmp_ge rfl rfl (by decide) dJ7_fill_eb02e_13) <|
  AllB.c (pb := 16) (
    BS.no) <|
  AllB.c (pb := 27) (
    s_ret rfl dJ7_fill_eb02e_27) <|
  AllB.n)
-- NativeWorks$Units.write()Z
noncomputable def bs_X10_write : List rBl := [sq (h_ld isR 0) (sq (h_get rFo 12 9) (sq (h_ld isR 0) (sq (h_get rFo 12 11) (sq (h_ald rFo okA) (sq (h_st isR 1) (sq (h_ld isR 0) (sq (h_get rFo 12 17) (sq (h_st isI 2) (sq (h_v (.inl 0)) (sq (h_st isI 3) (t_go 1))))))))))),
  sq (h_ld isI 3) (sq (h_v (.inl 4)) (t_icmp (fun a b => rNot (rLt a b)) 6 2)),
  sq (h_ld isR 1) (sq (h_v (.inl 9)) (sq (h_ld isI 3) (sq (h_bin (fun _ _ => true) rAdd) (sq (h_ld isR 0) (sq (h_get rFo 12 10) (sq (h_ld isI 3) (sq (h_ald rFo okI) (sq (h_ast okI) (sq (h_ld isR 1) (sq (h_v (.inl 5)) (sq (h_ld isI 3) (sq (h_bin (fun _ _ => true) rAdd) (sq (h_ld isI 2) (sq (h_ast okI) (sq (h_ld isI 2) (sq (h_ld isI 3) (sq (h_v (.inl 3)) (t_icmp (fun a b => rNot (rEq a b)) 4 3)))))))))))))))))),
  sq (h_v (.inl 0)) (t_go 5),
  sq (h_ld isR 0) (sq (h_get rFo 12 10) (sq (h_ld isI 3) (sq (h_ald rFo okI) (t_go 5)))),
  sq (h_bin (fun _ _ => true) rAdd) (sq (h_st isI 2) (sq (h_inc 3 1) (t_go 1))),
  sq (h_ld isI 2) (sq (h_v (.inl 131072)) (t_icmp rLe 8 7)),
  t_no,
  sq (h_ld isR 0) (sq (h_get rFo 12 8) (sq (h_ld isR 0) (sq (h_get rFo 12 17) (sq (h_ld isI 2) (sq (h_v (.inl 0)) (sq (h_call 4 rAny ev_J7_fill_eb02e) (sq (h_ld isR 0) (sq (h_ld isI 2) (sq (h_put 12 17 isI) (sq (h_ld isR 1) (sq (h_v (.inl 1)) (sq (h_ald rFo okI) (sq (h_st isI 3) (t_go 9)))))))))))))),
  sq (h_ld isI 3) (sq (h_ld isR 0) (sq (h_get rFo 12 14) (t_icmp (fun a b => rNot (rLt a b)) 13 10))),
  t_no,
  t_no,
  t_no,
  sq (h_v (.inl 1)) (t_retv isZ)]
noncomputable def ev_X10_write : rEv := fun as w n => rIni 5 as (fun ls => rRun bs_X10_write 100000 0 ls [] w n 0)
set_option maxRecDepth 100000 in
set_option maxHeartbeats 4000000 in
theorem ok_X10_write (l : Launch) : rMet vwCl rFo rZs rRs rNs rTs l yX10_write cX10_write 5 ((Option.some FieldType.boolean)) 2 46 ev_X10_write := met_of (pcs := [0, 17, 22, 46, 50, 56, 64, 70, 72, 94, 102, 118, 137, 143]) (by decide +kernel) rfl (fun G n0 =>
  AllB.c (pb := 0) (
    BS.sq (pc' := 1) (s_aload_n (k := 0) 0 rfl dX10_write_0) <|
    BS.sq (pc' := 4) (s_get 9 inX10 kc12 (by decide) kw35 rfl dX10_write_1) <|
    BS.sq (pc' := 5) (s_aload_n (k := 0) 0 rfl dX10_write_4) <|
    BS.sq (pc' := 8) (s_get 11 inX10 kc12 (by decide) kw604 rfl dX10_write_5) <|
    BS.sq (pc' := 9) (s_aaload dX10_write_8) <|
    BS.sq (pc' := 10) (s_astore_n (k := 1) 1 rfl (by decide) dX10_write_9) <|
    BS.sq (pc' := 11) (s_aload_n (k := 0) 0 rfl dX10_write_10) <|
    BS.sq (pc' := 14) (s_get 17 inX10 kc12 (by decide) kw647 rfl dX10_write_11) <|
    BS.sq (pc' := 15) (s_istore_n (k := 2) 2 rfl (by decide) dX10_write_14) <|
    BS.sq (pc' := 16) (s_iconst 0 (by decide +kernel) dX10_write_15) <|
    BS.sq (pc' := 17) (s_istore_n (k := 3) 3 rfl (by decide) dX10_write_16) <|
    BS.go rfl) <|
  AllB.c (pb := 17) (
    BS.sq (pc' := 18) (s_iload_n (k := 3) 3 rfl dX10_write_17) <|
    BS.sq (pc' := 19) (s_iconst 4 (by decide +kernel) dX10_write_18) <|
    s_icmp_ge rfl rfl (by decide) dX10_write_19) <|
  AllB.c (pb := 22) (
    BS.sq (pc' := 23) (s_aload_n (k := 1) 1 rfl dX10_write_22) <|
    BS.sq (pc' := 25) (s_bipush 9 (by decide +kernel) dX10_write_23) <|
    BS.sq (pc' := 26) (s_iload_n (k := 3) 3 rfl dX10_write_25) <|
    BS.sq (pc' := 27) (s_iadd dX10_write_26) <|
    BS.sq (pc' := 28) (s_aload_n (k := 0) 0 rfl dX10_write_27) <|
    BS.sq (pc' := 31) (s_get 10 inX10 kc12 (by decide) kw36 rfl dX10_write_28) <|
    BS.sq (pc' := 32) (s_iload_n (k := 3) 3 rfl dX10_write_31) <|
    BS.sq (pc' := 33) (s_iaload dX10_write_32) <|
    BS.sq (pc' := 34) (s_iastore dX10_write_33) <|
    BS.sq (pc' := 35) (s_aload_n (k := 1) 1 rfl dX10_write_34) <|
    BS.sq (pc' := 36) (s_iconst 5 (by decide +kernel) dX10_write_35) <|
    BS.sq (pc' := 37) (s_iload_n (k := 3) 3 rfl dX10_write_36) <|
    BS.sq (pc' := 38) (s_iadd dX10_write_37) <|
    BS.sq (pc' := 39) (s_iload_n (k := 2) 2 rfl dX10_write_38) <|
    BS.sq (pc' := 40) (s_iastore dX10_write_39) <|
    BS.sq (pc' := 41) (s_iload_n (k := 2) 2 rfl dX10_write_40) <|
    BS.sq (pc' := 42) (s_iload_n (k := 3) 3 rfl dX10_write_41) <|
    BS.sq (pc' := 43) (s_iconst 3 (by decide +kernel) dX10_write_42) <|
    s_icmp_ne rfl rfl (by decide) dX10_write_43) <|
  AllB.c (pb := 46) (
    BS.sq (pc' := 47) (s_iconst 0 (by decide +kernel) dX10_write_46) <|
    s_goto rfl (by decide) dX10_write_47) <|
  AllB.c (pb := 50) (
    BS.sq (pc' := 51) (s_aload_n (k := 0) 0 rfl dX10_write_50) <|
    BS.sq (pc' := 54) (s_get 10 inX10 kc12 (by decide) kw36 rfl dX10_write_51) <|
    BS.sq (pc' := 55) (s_iload_n (k := 3) 3 rfl dX10_write_54) <|
    BS.sq (pc' := 56) (s_iaload dX10_write_55) <|
    BS.go rfl) <|
  AllB.c (pb := 56) (
    BS.sq (pc' := 57) (s_iadd dX10_write_56) <|
    BS.sq (pc' := 58) (s_istore_n (k := 2) 2 rfl (by decide) dX10_write_57) <|
    BS.sq (pc' := 61) (s_iinc 3 1 (1) (by decide +kernel) (by decide) dX10_write_58) <|
    s_goto rfl (by decide) dX10_write_61) <|
  AllB.c (pb := 64) (
    BS.sq (pc' := 65) (s_iload_n (k := 2) 2 rfl dX10_write_64) <|
    BS.sq (pc' := 67) (s_ldc 131072 kw32 dX10_write_65) <|
    s_icmp_le rfl rfl (by decide) dX10_write_67) <|
  AllB.c (pb := 70) (
    BS.no) <|
  AllB.c (pb := 72) (
    BS.sq (pc' := 73) (s_aload_n (k := 0) 0 rfl dX10_write_72) <|
    BS.sq (pc' := 76) (s_get 8 inX10 kc12 (by decide) kw34 rfl dX10_write_73) <|
    BS.sq (pc' := 77) (s_aload_n (k := 0) 0 rfl dX10_write_76) <|
    BS.sq (pc' := 80) (s_get 17 inX10 kc12 (by decide) kw647 rfl dX10_write_77) <|
    BS.sq (pc' := 81) (s_iload_n (k := 2) 2 rfl dX10_write_80) <|
    BS.sq (pc' := 82) (s_iconst 0 (by decide +kernel) dX10_write_81) <|
    BS.sq (pc' := 85) (s_callS 4 (ok_J7_fill_eb02e l) kGood kw649 kw650 kw13 kw648 (by decide +kernel) (by decide) (by decide) dX10_write_82) <|
    BS.sq (pc' := 86) (s_aload_n (k := 0) 0 rfl dX10_write_85) <|
    BS.sq (pc' := 87) (s_iload_n (k := 2) 2 rfl dX10_write_86) <|
    BS.sq (pc' := 90) (s_put tyX10 17 isI inX10 tyX10_ok nmX10 kc12 (by decide) kw647 rfl rfl (okf_I G) dX10_write_87) <|
    BS.sq (pc' := 91) (s_aload_n (k := 1) 1 rfl dX10_write_90) <|
    BS.sq (pc' := 92) (s_iconst 1 (by decide +kernel) dX10_write_91) <|
    BS.sq (pc' := 93) (s_iaload dX10_write_92) <|
    BS.sq (pc' := 94) (s_istore_n (k := 3) 3 rfl (by decide) dX10_write_93) <|
    BS.go rfl) <|
  AllB.c (pb := 94) (
    BS.sq (pc' := 95) (s_iload_n (k := 3) 3 rfl dX10_write_94) <|
    BS.sq (pc' := 96) (s_aload_n (k := 0) 0 rfl dX10_write_95) <|
    BS.sq (pc' := 99) (s_get 14 inX10 kc12 (by decide) kw607 rfl dX10_write_96) <|
    s_icmp_ge rfl rfl (by decide) dX10_write_99) <|
  AllB.c (pb := 102) (
    BS.no) <|
  AllB.c (pb := 118) (
    BS.no) <|
  AllB.c (pb := 137) (
    BS.no) <|
  AllB.c (pb := 143) (
    BS.sq (pc' := 144) (s_iconst 1 (by decide +kernel) dX10_write_143) <|
    s_reti isZ rfl okr_Z dX10_write_144) <|
  AllB.n)
-- NativeWorks$Units.keepAll()V
noncomputable def bs_X10_keepAll : List rBl := [sq (h_ld isR 0) (sq (h_dup) (sq (h_get rFo 12 11) (sq (h_v (.inl 1)) (sq (h_bin (fun _ _ => true) rAdd) (sq (h_put 12 11 isI) (sq (h_ld isR 0) (sq (h_get rFo 12 9) (sq (h_ld isR 0) (sq (h_get rFo 12 11) (sq (h_ald rFo okA) (sq (h_st isR 1) (sq (h_ld isR 1) (sq (h_v (.inl 0)) (sq (h_ld isR 0) (sq (h_get rFo 12 0) (sq (h_get rFo 9 5) (sq (h_ast okI) (sq (h_ld isR 1) (sq (h_v (.inl 1)) (sq (h_ld isR 0) (sq (h_get rFo 12 14) (sq (h_ast okI) (sq (h_ld isR 1) (sq (h_v (.inl 2)) (sq (h_ld isR 0) (sq (h_get rFo 12 15) (sq (h_ast okI) (t_ret))))))))))))))))))))))))))))]
noncomputable def ev_X10_keepAll : rEv := fun as w n => rIni 2 as (fun ls => rRun bs_X10_keepAll 100000 0 ls [] w n 0)
set_option maxRecDepth 100000 in
set_option maxHeartbeats 4000000 in
theorem ok_X10_keepAll (l : Launch) : rMet vwCl rFo rZs rRs rNs rTs l yX10_keepAll cX10_keepAll 2 ((Option.none : Option FieldType)) 0 0 ev_X10_keepAll := met_of (pcs := [0]) (by decide +kernel) rfl (fun G n0 =>
  AllB.c (pb := 0) (
    BS.sq (pc' := 1) (s_aload_n (k := 0) 0 rfl dX10_keepAll_0) <|
    BS.sq (pc' := 2) (s_dup dX10_keepAll_1) <|
    BS.sq (pc' := 5) (s_get 11 inX10 kc12 (by decide) kw604 rfl dX10_keepAll_2) <|
    BS.sq (pc' := 6) (s_iconst 1 (by decide +kernel) dX10_keepAll_5) <|
    BS.sq (pc' := 7) (s_iadd dX10_keepAll_6) <|
    BS.sq (pc' := 10) (s_put tyX10 11 isI inX10 tyX10_ok nmX10 kc12 (by decide) kw604 rfl rfl (okf_I G) dX10_keepAll_7) <|
    BS.sq (pc' := 11) (s_aload_n (k := 0) 0 rfl dX10_keepAll_10) <|
    BS.sq (pc' := 14) (s_get 9 inX10 kc12 (by decide) kw35 rfl dX10_keepAll_11) <|
    BS.sq (pc' := 15) (s_aload_n (k := 0) 0 rfl dX10_keepAll_14) <|
    BS.sq (pc' := 18) (s_get 11 inX10 kc12 (by decide) kw604 rfl dX10_keepAll_15) <|
    BS.sq (pc' := 19) (s_aaload dX10_keepAll_18) <|
    BS.sq (pc' := 20) (s_astore_n (k := 1) 1 rfl (by decide) dX10_keepAll_19) <|
    BS.sq (pc' := 21) (s_aload_n (k := 1) 1 rfl dX10_keepAll_20) <|
    BS.sq (pc' := 22) (s_iconst 0 (by decide +kernel) dX10_keepAll_21) <|
    BS.sq (pc' := 23) (s_aload_n (k := 0) 0 rfl dX10_keepAll_22) <|
    BS.sq (pc' := 26) (s_get 0 inX10 kc12 (by decide) kw23 rfl dX10_keepAll_23) <|
    BS.sq (pc' := 29) (s_get 5 inX7 kc9 (by decide) kw606 rfl dX10_keepAll_26) <|
    BS.sq (pc' := 30) (s_iastore dX10_keepAll_29) <|
    BS.sq (pc' := 31) (s_aload_n (k := 1) 1 rfl dX10_keepAll_30) <|
    BS.sq (pc' := 32) (s_iconst 1 (by decide +kernel) dX10_keepAll_31) <|
    BS.sq (pc' := 33) (s_aload_n (k := 0) 0 rfl dX10_keepAll_32) <|
    BS.sq (pc' := 36) (s_get 14 inX10 kc12 (by decide) kw607 rfl dX10_keepAll_33) <|
    BS.sq (pc' := 37) (s_iastore dX10_keepAll_36) <|
    BS.sq (pc' := 38) (s_aload_n (k := 1) 1 rfl dX10_keepAll_37) <|
    BS.sq (pc' := 39) (s_iconst 2 (by decide +kernel) dX10_keepAll_38) <|
    BS.sq (pc' := 40) (s_aload_n (k := 0) 0 rfl dX10_keepAll_39) <|
    BS.sq (pc' := 43) (s_get 15 inX10 kc12 (by decide) kw608 rfl dX10_keepAll_40) <|
    BS.sq (pc' := 44) (s_iastore dX10_keepAll_43) <|
    s_ret rfl dX10_keepAll_44) <|
  AllB.n)
-- NativeWorks$Assembler.finish()I
noncomputable def bs_X0_finish : List rBl := [sq (h_ld isR 0) (sq (h_get rFo 2 1) (sq (h_get rFo 10 0) (sq (h_get rFo 11 13) (sq (h_st isI 1) (sq (h_ld isR 0) (sq (h_get rFo 2 1) (sq (h_get rFo 10 19) (t_if (fun a => rNot (rEq a 0)) 2 1)))))))),
  sq (h_ld isR 0) (sq (h_get rFo 2 1) (sq (h_get rFo 10 15) (t_if (fun a => rLe a 0) 3 2))),
  t_no,
  sq (h_ld isR 0) (sq (h_get rFo 2 2) (sq (h_call 1 (rRecv rFo 12) ev_X10_brokenSpan) (sq (h_st isI 2) (sq (h_ld isI 2) (t_if (fun a => rEq a 0) 5 4))))),
  t_no,
  sq (h_ld isR 0) (sq (h_get rFo 2 2) (sq (h_call 1 (rRecv rFo 12) ev_X10_layOut) (sq (h_ld isR 0) (sq (h_get rFo 2 2) (sq (h_call 1 (rRecv rFo 12) ev_X10_overlong) (sq (h_st isI 3) (sq (h_ld isI 3) (t_if (fun a => rEq a 0) 7 6)))))))),
  t_no,
  sq (h_ld isR 0) (sq (h_get rFo 2 2) (sq (h_call 1 (rRecv rFo 12) ev_X10_write) (t_if (fun a => rNot (rEq a 0)) 9 8))),
  t_no,
  sq (h_ld isR 0) (sq (h_get rFo 2 2) (sq (h_call 1 (rRecv rFo 12) ev_X10_keepAll) (sq (h_v (.inl 0)) (t_retv isI))))]
noncomputable def ev_X0_finish : rEv := fun as w n => rIni 4 as (fun ls => rRun bs_X0_finish 100000 0 ls [] w n 0)
set_option maxRecDepth 100000 in
set_option maxHeartbeats 4000000 in
theorem ok_X0_finish (l : Launch) : rMet vwCl rFo rZs rRs rNs rTs l yX0_finish cX0_finish 4 ((Option.some FieldType.int)) 3 70 ev_X0_finish := met_of (pcs := [0, 21, 31, 39, 51, 58, 77, 84, 94, 101]) (by decide +kernel) rfl (fun G n0 =>
  AllB.c (pb := 0) (
    BS.sq (pc' := 1) (s_aload_n (k := 0) 0 rfl dX0_finish_0) <|
    BS.sq (pc' := 4) (s_get 1 inX0 kc2 (by decide) kw178 rfl dX0_finish_1) <|
    BS.sq (pc' := 7) (s_get 0 inX8 kc10 (by decide) kw651 rfl dX0_finish_4) <|
    BS.sq (pc' := 10) (s_get 13 inX9 kc11 (by decide) kw652 rfl dX0_finish_7) <|
    BS.sq (pc' := 11) (s_istore_n (k := 1) 1 rfl (by decide) dX0_finish_10) <|
    BS.sq (pc' := 12) (s_aload_n (k := 0) 0 rfl dX0_finish_11) <|
    BS.sq (pc' := 15) (s_get 1 inX0 kc2 (by decide) kw178 rfl dX0_finish_12) <|
    BS.sq (pc' := 18) (s_get 19 inX8 kc10 (by decide) kw653 rfl dX0_finish_15) <|
    s_if_ne rfl rfl (by decide) dX0_finish_18) <|
  AllB.c (pb := 21) (
    BS.sq (pc' := 22) (s_aload_n (k := 0) 0 rfl dX0_finish_21) <|
    BS.sq (pc' := 25) (s_get 1 inX0 kc2 (by decide) kw178 rfl dX0_finish_22) <|
    BS.sq (pc' := 28) (s_get 15 inX8 kc10 (by decide) kw654 rfl dX0_finish_25) <|
    s_if_le rfl rfl (by decide) dX0_finish_28) <|
  AllB.c (pb := 31) (
    BS.no) <|
  AllB.c (pb := 39) (
    BS.sq (pc' := 40) (s_aload_n (k := 0) 0 rfl dX0_finish_39) <|
    BS.sq (pc' := 43) (s_get 2 inX0 kc2 (by decide) kw164 rfl dX0_finish_40) <|
    BS.sq (pc' := 46) (s_callV 0 12 kc12 (ok_X10_brokenSpan l) kGood kw656 kw657 kw658 kw241 kw655 (by decide +kernel) (by decide) (by decide) dX0_finish_43) <|
    BS.sq (pc' := 47) (s_istore_n (k := 2) 2 rfl (by decide) dX0_finish_46) <|
    BS.sq (pc' := 48) (s_iload_n (k := 2) 2 rfl dX0_finish_47) <|
    s_if_eq rfl rfl (by decide) dX0_finish_48) <|
  AllB.c (pb := 51) (
    BS.no) <|
  AllB.c (pb := 58) (
    BS.sq (pc' := 59) (s_aload_n (k := 0) 0 rfl dX0_finish_58) <|
    BS.sq (pc' := 62) (s_get 2 inX0 kc2 (by decide) kw164 rfl dX0_finish_59) <|
    BS.sq (pc' := 65) (s_callV 0 12 kc12 (ok_X10_layOut l) kGood kw660 kw661 kw662 kw241 kw659 (by decide +kernel) (by decide) (by decide) dX0_finish_62) <|
    BS.sq (pc' := 66) (s_aload_n (k := 0) 0 rfl dX0_finish_65) <|
    BS.sq (pc' := 69) (s_get 2 inX0 kc2 (by decide) kw164 rfl dX0_finish_66) <|
    BS.sq (pc' := 72) (s_callV 0 12 kc12 (ok_X10_overlong l) kGood kw664 kw665 kw666 kw241 kw663 (by decide +kernel) (by decide) (by decide) dX0_finish_69) <|
    BS.sq (pc' := 73) (s_istore_n (k := 3) 3 rfl (by decide) dX0_finish_72) <|
    BS.sq (pc' := 74) (s_iload_n (k := 3) 3 rfl dX0_finish_73) <|
    s_if_eq rfl rfl (by decide) dX0_finish_74) <|
  AllB.c (pb := 77) (
    BS.no) <|
  AllB.c (pb := 84) (
    BS.sq (pc' := 85) (s_aload_n (k := 0) 0 rfl dX0_finish_84) <|
    BS.sq (pc' := 88) (s_get 2 inX0 kc2 (by decide) kw164 rfl dX0_finish_85) <|
    BS.sq (pc' := 91) (s_callV 0 12 kc12 (ok_X10_write l) kGood kw668 kw669 kw670 kw241 kw667 (by decide +kernel) (by decide) (by decide) dX0_finish_88) <|
    s_if_ne rfl rfl (by decide) dX0_finish_91) <|
  AllB.c (pb := 94) (
    BS.no) <|
  AllB.c (pb := 101) (
    BS.sq (pc' := 102) (s_aload_n (k := 0) 0 rfl dX0_finish_101) <|
    BS.sq (pc' := 105) (s_get 2 inX0 kc2 (by decide) kw164 rfl dX0_finish_102) <|
    BS.sq (pc' := 108) (s_callV 0 12 kc12 (ok_X10_keepAll l) kGood kw672 kw673 kw674 kw241 kw671 (by decide +kernel) (by decide) (by decide) dX0_finish_105) <|
    BS.sq (pc' := 109) (s_iconst 0 (by decide +kernel) dX0_finish_108) <|
    s_reti isI rfl okr_I dX0_finish_109) <|
  AllB.n)
-- NativeWorks$Assembler.assemble(IZ)I
noncomputable def bs_X0_assemble : List rBl := [sq (h_ld isR 0) (sq (h_get rFo 2 2) (sq (h_ld isI 2) (sq (h_call 2 (rRecv rFo 12) ev_X10_begin) (sq (h_ld isR 0) (sq (h_get rFo 2 1) (sq (h_ld isI 1) (sq (h_call 2 (rRecv rFo 10) ev_X8_open) (sq (h_ld isR 0) (sq (h_get rFo 2 3) (sq (h_v (.inl 0)) (sq (h_put 3 10 isI) (sq (h_ld isR 0) (sq (h_v (.inl 0)) (sq (h_put 2 6 isI) (sq (h_v (.inl 0)) (sq (h_st isI 3) (t_go 1))))))))))))))))),
  sq (h_ld isI 3) (sq (h_v (.inl 65536)) (t_icmp (fun a b => rNot (rLe a b)) 12 2)),
  sq (h_ld isR 0) (sq (h_get rFo 2 1) (sq (h_call 1 (rRecv rFo 10) ev_X8_advance) (t_if (fun a => rEq a 0) 12 3))),
  t_no,
  t_no,
  t_no,
  t_no,
  t_no,
  t_no,
  t_no,
  t_no,
  t_no,
  sq (h_ld isR 0) (sq (h_call 1 (rRecv rFo 2) ev_X0_finish) (t_retv isI))]
noncomputable def ev_X0_assemble : rEv := fun as w n => rIni 4 as (fun ls => rRun bs_X0_assemble 100000 0 ls [] w n 0)
set_option maxRecDepth 100000 in
set_option maxHeartbeats 4000000 in
theorem ok_X0_assemble (l : Launch) : rMet vwCl rFo rZs rRs rNs rTs l yX0_assemble cX0_assemble 4 ((Option.some FieldType.int)) 4 93 ev_X0_assemble := met_of (pcs := [0, 31, 37, 47, 65, 76, 86, 97, 112, 116, 126, 145, 151]) (by decide +kernel) rfl (fun G n0 =>
  AllB.c (pb := 0) (
    BS.sq (pc' := 1) (s_aload_n (k := 0) 0 rfl dX0_assemble_0) <|
    BS.sq (pc' := 4) (s_get 2 inX0 kc2 (by decide) kw164 rfl dX0_assemble_1) <|
    BS.sq (pc' := 5) (s_iload_n (k := 2) 2 rfl dX0_assemble_4) <|
    BS.sq (pc' := 8) (s_callV 1 12 kc12 (ok_X10_begin l) kGood kw676 kw677 kw678 kw241 kw675 (by decide +kernel) (by decide) (by decide) dX0_assemble_5) <|
    BS.sq (pc' := 9) (s_aload_n (k := 0) 0 rfl dX0_assemble_8) <|
    BS.sq (pc' := 12) (s_get 1 inX0 kc2 (by decide) kw178 rfl dX0_assemble_9) <|
    BS.sq (pc' := 13) (s_iload_n (k := 1) 1 rfl dX0_assemble_12) <|
    BS.sq (pc' := 16) (s_callV 1 10 kc10 (ok_X8_open l) kGood kw680 kw681 kw682 kw167 kw679 (by decide +kernel) (by decide) (by decide) dX0_assemble_13) <|
    BS.sq (pc' := 17) (s_aload_n (k := 0) 0 rfl dX0_assemble_16) <|
    BS.sq (pc' := 20) (s_get 3 inX0 kc2 (by decide) kw185 rfl dX0_assemble_17) <|
    BS.sq (pc' := 21) (s_iconst 0 (by decide +kernel) dX0_assemble_20) <|
    BS.sq (pc' := 24) (s_put tyX1 10 isI inX1 tyX1_ok nmX1 kc3 (by decide) kw683 rfl rfl (okf_I G) dX0_assemble_21) <|
    BS.sq (pc' := 25) (s_aload_n (k := 0) 0 rfl dX0_assemble_24) <|
    BS.sq (pc' := 26) (s_iconst 0 (by decide +kernel) dX0_assemble_25) <|
    BS.sq (pc' := 29) (s_put tyX0 6 isI inX0 tyX0_ok nmX0 kc2 (by decide) kw684 rfl rfl (okf_I G) dX0_assemble_26) <|
    BS.sq (pc' := 30) (s_iconst 0 (by decide +kernel) dX0_assemble_29) <|
    BS.sq (pc' := 31) (s_istore_n (k := 3) 3 rfl (by decide) dX0_assemble_30) <|
    BS.go rfl) <|
  AllB.c (pb := 31) (
    BS.sq (pc' := 32) (s_iload_n (k := 3) 3 rfl dX0_assemble_31) <|
    BS.sq (pc' := 34) (s_ldc 65536 kw685 dX0_assemble_32) <|
    s_icmp_gt rfl rfl (by decide) dX0_assemble_34) <|
  AllB.c (pb := 37) (
    BS.sq (pc' := 38) (s_aload_n (k := 0) 0 rfl dX0_assemble_37) <|
    BS.sq (pc' := 41) (s_get 1 inX0 kc2 (by decide) kw178 rfl dX0_assemble_38) <|
    BS.sq (pc' := 44) (s_callV 0 10 kc10 (ok_X8_advance l) kGood kw687 kw688 kw689 kw167 kw686 (by decide +kernel) (by decide) (by decide) dX0_assemble_41) <|
    s_if_eq rfl rfl (by decide) dX0_assemble_44) <|
  AllB.c (pb := 47) (
    BS.no) <|
  AllB.c (pb := 65) (
    BS.no) <|
  AllB.c (pb := 76) (
    BS.no) <|
  AllB.c (pb := 86) (
    BS.no) <|
  AllB.c (pb := 97) (
    BS.no) <|
  AllB.c (pb := 112) (
    BS.no) <|
  AllB.c (pb := 116) (
    BS.no) <|
  AllB.c (pb := 126) (
    BS.no) <|
  AllB.c (pb := 145) (
    BS.no) <|
  AllB.c (pb := 151) (
    BS.sq (pc' := 152) (s_aload_n (k := 0) 0 rfl dX0_assemble_151) <|
    BS.sq (pc' := 155) (s_callV 0 2 kc2 (ok_X0_finish l) kGood kw691 kw692 kw693 kw249 kw690 (by decide +kernel) (by decide) (by decide) dX0_assemble_152) <|
    s_reti isI rfl okr_I dX0_assemble_155) <|
  AllB.n)
-- NativeWorks.tell(III)V
noncomputable def bs_X11_tell : List rBl := [sq (h_ld isR 0) (sq (h_ld isI 1) (sq (h_put 13 6 isI) (sq (h_ld isR 0) (sq (h_ld isI 2) (sq (h_put 13 7 isI) (sq (h_ld isR 0) (sq (h_ld isI 3) (sq (h_put 13 8 isI) (t_ret)))))))))]
noncomputable def ev_X11_tell : rEv := fun as w n => rIni 4 as (fun ls => rRun bs_X11_tell 100000 0 ls [] w n 0)
set_option maxRecDepth 100000 in
set_option maxHeartbeats 4000000 in
theorem ok_X11_tell (l : Launch) : rMet vwCl rFo rZs rRs rNs rTs l yX11_tell cX11_tell 4 ((Option.none : Option FieldType)) 0 0 ev_X11_tell := met_of (pcs := [0]) (by decide +kernel) rfl (fun G n0 =>
  AllB.c (pb := 0) (
    BS.sq (pc' := 1) (s_aload_n (k := 0) 0 rfl dX11_tell_0) <|
    BS.sq (pc' := 2) (s_iload_n (k := 1) 1 rfl dX11_tell_1) <|
    BS.sq (pc' := 5) (s_put tyX11 6 isI inX11 tyX11_ok nmX11 kc13 (by decide) kw269 rfl rfl (okf_I G) dX11_tell_2) <|
    BS.sq (pc' := 6) (s_aload_n (k := 0) 0 rfl dX11_tell_5) <|
    BS.sq (pc' := 7) (s_iload_n (k := 2) 2 rfl dX11_tell_6) <|
    BS.sq (pc' := 10) (s_put tyX11 7 isI inX11 tyX11_ok nmX11 kc13 (by decide) kw270 rfl rfl (okf_I G) dX11_tell_7) <|
    BS.sq (pc' := 11) (s_aload_n (k := 0) 0 rfl dX11_tell_10) <|
    BS.sq (pc' := 12) (s_iload_n (k := 3) 3 rfl dX11_tell_11) <|
    BS.sq (pc' := 15) (s_put tyX11 8 isI inX11 tyX11_ok nmX11 kc13 (by decide) kw271 rfl rfl (okf_I G) dX11_tell_12) <|
    s_ret rfl dX11_tell_15) <|
  AllB.n)
-- NativeWorks.unit(IZ)I
noncomputable def bs_X11_unit : List rBl := [sq (h_ld isR 0) (sq (h_ld isI 1) (sq (h_call 2 (rRecv rFo 13) sev_X11_emptied) (sq (h_st isI 3) (sq (h_ld isR 0) (sq (h_get rFo 13 1) (sq (h_get rFo 12 11) (sq (h_st isI 4) (sq (h_ld isI 4) (sq (h_v (.inl 32)) (t_icmp (fun a b => rNot (rEq a b)) 2 1)))))))))),
  t_no,
  sq (h_ld isR 0) (sq (h_get rFo 13 2) (sq (h_ld isI 3) (sq (h_ld isI 2) (sq (h_call 3 (rRecv rFo 2) ev_X0_assemble) (sq (h_st isI 5) (sq (h_ld isI 5) (t_if (fun a => rEq a 0) 4 3))))))),
  t_no,
  sq (h_ld isR 0) (sq (h_v (.inl 0)) (sq (h_v (.inl 0)) (sq (h_v (.inl 4294967295)) (sq (h_call 4 (rRecv rFo 13) ev_X11_tell) (sq (h_ld isI 4) (t_retv isI))))))]
noncomputable def ev_X11_unit : rEv := fun as w n => rIni 6 as (fun ls => rRun bs_X11_unit 100000 0 ls [] w n 0)
set_option maxRecDepth 100000 in
set_option maxHeartbeats 4000000 in
theorem ok_X11_unit (l : Launch) : rMet vwCl rFo rZs rRs rNs rTs l yX11_unit cX11_unit 6 ((Option.some FieldType.int)) 5 116 ev_X11_unit := met_of (pcs := [0, 22, 40, 56, 81]) (by decide +kernel) rfl (fun G n0 =>
  AllB.c (pb := 0) (
    BS.sq (pc' := 1) (s_aload_n (k := 0) 0 rfl dX11_unit_0) <|
    BS.sq (pc' := 2) (s_iload_n (k := 1) 1 rfl dX11_unit_1) <|
    BS.sq (pc' := 5) (s_callV 1 13 kc13 (sok_X11_emptied l) kGood kw695 kw696 kw697 kw599 kw694 (by decide +kernel) (by decide) (by decide) dX11_unit_2) <|
    BS.sq (pc' := 6) (s_istore_n (k := 3) 3 rfl (by decide) dX11_unit_5) <|
    BS.sq (pc' := 7) (s_aload_n (k := 0) 0 rfl dX11_unit_6) <|
    BS.sq (pc' := 10) (s_get 1 inX11 kc13 (by decide) kw246 rfl dX11_unit_7) <|
    BS.sq (pc' := 13) (s_get 11 inX10 kc12 (by decide) kw698 rfl dX11_unit_10) <|
    BS.sq (pc' := 15) (s_istore 4 (by decide) dX11_unit_13) <|
    BS.sq (pc' := 17) (s_iload 4 dX11_unit_15) <|
    BS.sq (pc' := 19) (s_bipush 32 (by decide +kernel) dX11_unit_17) <|
    s_icmp_ne rfl rfl (by decide) dX11_unit_19) <|
  AllB.c (pb := 22) (
    BS.no) <|
  AllB.c (pb := 40) (
    BS.sq (pc' := 41) (s_aload_n (k := 0) 0 rfl dX11_unit_40) <|
    BS.sq (pc' := 44) (s_get 2 inX11 kc13 (by decide) kw253 rfl dX11_unit_41) <|
    BS.sq (pc' := 45) (s_iload_n (k := 3) 3 rfl dX11_unit_44) <|
    BS.sq (pc' := 46) (s_iload_n (k := 2) 2 rfl dX11_unit_45) <|
    BS.sq (pc' := 49) (s_callV 2 2 kc2 (ok_X0_assemble l) kGood kw700 kw701 kw702 kw249 kw699 (by decide +kernel) (by decide) (by decide) dX11_unit_46) <|
    BS.sq (pc' := 51) (s_istore 5 (by decide) dX11_unit_49) <|
    BS.sq (pc' := 53) (s_iload 5 dX11_unit_51) <|
    s_if_eq rfl rfl (by decide) dX11_unit_53) <|
  AllB.c (pb := 56) (
    BS.no) <|
  AllB.c (pb := 81) (
    BS.sq (pc' := 82) (s_aload_n (k := 0) 0 rfl dX11_unit_81) <|
    BS.sq (pc' := 83) (s_iconst 0 (by decide +kernel) dX11_unit_82) <|
    BS.sq (pc' := 84) (s_iconst 0 (by decide +kernel) dX11_unit_83) <|
    BS.sq (pc' := 85) (s_iconst 4294967295 (by decide +kernel) dX11_unit_84) <|
    BS.sq (pc' := 88) (s_callV 3 13 kc13 (ok_X11_tell l) kGood kw704 kw705 kw706 kw599 kw703 (by decide +kernel) (by decide) (by decide) dX11_unit_85) <|
    BS.sq (pc' := 90) (s_iload 4 dX11_unit_88) <|
    s_reti isI rfl okr_I dX11_unit_90) <|
  AllB.n)
-- NativeWorks$Units.empty()V
noncomputable def bs_X10_empty : List rBl := [sq (h_ld isR 0) (sq (h_v (.inl 0)) (sq (h_put 12 11 isI) (sq (h_ld isR 0) (sq (h_get rFo 12 0) (sq (h_v (.inl 0)) (sq (h_call 2 (rRecv rFo 9) ev_X7_cut) (sq (h_ld isR 0) (sq (h_v (.inl 0)) (sq (h_put 12 14 isI) (sq (h_ld isR 0) (sq (h_v (.inl 0)) (sq (h_put 12 15 isI) (sq (h_ld isR 0) (sq (h_v (.inl 0)) (sq (h_put 12 17 isI) (sq (h_ld isR 0) (sq (h_v (.inl 0)) (sq (h_put 12 18 isI) (t_ret)))))))))))))))))))]
noncomputable def ev_X10_empty : rEv := fun as w n => rIni 1 as (fun ls => rRun bs_X10_empty 100000 0 ls [] w n 0)
set_option maxRecDepth 100000 in
set_option maxHeartbeats 4000000 in
theorem ok_X10_empty (l : Launch) : rMet vwCl rFo rZs rRs rNs rTs l yX10_empty cX10_empty 1 ((Option.none : Option FieldType)) 1 21 ev_X10_empty := met_of (pcs := [0]) (by decide +kernel) rfl (fun G n0 =>
  AllB.c (pb := 0) (
    BS.sq (pc' := 1) (s_aload_n (k := 0) 0 rfl dX10_empty_0) <|
    BS.sq (pc' := 2) (s_iconst 0 (by decide +kernel) dX10_empty_1) <|
    BS.sq (pc' := 5) (s_put tyX10 11 isI inX10 tyX10_ok nmX10 kc12 (by decide) kw604 rfl rfl (okf_I G) dX10_empty_2) <|
    BS.sq (pc' := 6) (s_aload_n (k := 0) 0 rfl dX10_empty_5) <|
    BS.sq (pc' := 9) (s_get 0 inX10 kc12 (by decide) kw23 rfl dX10_empty_6) <|
    BS.sq (pc' := 10) (s_iconst 0 (by decide +kernel) dX10_empty_9) <|
    BS.sq (pc' := 13) (s_callV 1 9 kc9 (ok_X7_cut l) kGood kw707 kw614 kw615 kw18 kw612 (by decide +kernel) (by decide) (by decide) dX10_empty_10) <|
    BS.sq (pc' := 14) (s_aload_n (k := 0) 0 rfl dX10_empty_13) <|
    BS.sq (pc' := 15) (s_iconst 0 (by decide +kernel) dX10_empty_14) <|
    BS.sq (pc' := 18) (s_put tyX10 14 isI inX10 tyX10_ok nmX10 kc12 (by decide) kw607 rfl rfl (okf_I G) dX10_empty_15) <|
    BS.sq (pc' := 19) (s_aload_n (k := 0) 0 rfl dX10_empty_18) <|
    BS.sq (pc' := 20) (s_iconst 0 (by decide +kernel) dX10_empty_19) <|
    BS.sq (pc' := 23) (s_put tyX10 15 isI inX10 tyX10_ok nmX10 kc12 (by decide) kw608 rfl rfl (okf_I G) dX10_empty_20) <|
    BS.sq (pc' := 24) (s_aload_n (k := 0) 0 rfl dX10_empty_23) <|
    BS.sq (pc' := 25) (s_iconst 0 (by decide +kernel) dX10_empty_24) <|
    BS.sq (pc' := 28) (s_put tyX10 17 isI inX10 tyX10_ok nmX10 kc12 (by decide) kw647 rfl rfl (okf_I G) dX10_empty_25) <|
    BS.sq (pc' := 29) (s_aload_n (k := 0) 0 rfl dX10_empty_28) <|
    BS.sq (pc' := 30) (s_iconst 0 (by decide +kernel) dX10_empty_29) <|
    BS.sq (pc' := 33) (s_put tyX10 18 isI inX10 tyX10_ok nmX10 kc12 (by decide) kw708 rfl rfl (okf_I G) dX10_empty_30) <|
    s_ret rfl dX10_empty_33) <|
  AllB.n)
-- NativeWorks.clear()V
noncomputable def bs_X11_clear : List rBl := [sq (h_ld isR 0) (sq (h_get rFo 13 1) (sq (h_call 1 (rRecv rFo 12) ev_X10_empty) (t_ret)))]
noncomputable def ev_X11_clear : rEv := fun as w n => rIni 1 as (fun ls => rRun bs_X11_clear 100000 0 ls [] w n 0)
set_option maxRecDepth 100000 in
set_option maxHeartbeats 4000000 in
theorem ok_X11_clear (l : Launch) : rMet vwCl rFo rZs rRs rNs rTs l yX11_clear cX11_clear 1 ((Option.none : Option FieldType)) 2 41 ev_X11_clear := met_of (pcs := [0]) (by decide +kernel) rfl (fun G n0 =>
  AllB.c (pb := 0) (
    BS.sq (pc' := 1) (s_aload_n (k := 0) 0 rfl dX11_clear_0) <|
    BS.sq (pc' := 4) (s_get 1 inX11 kc13 (by decide) kw246 rfl dX11_clear_1) <|
    BS.sq (pc' := 7) (s_callV 0 12 kc12 (ok_X10_empty l) kGood kw710 kw711 kw712 kw241 kw709 (by decide +kernel) (by decide) (by decide) dX11_clear_4) <|
    s_ret rfl dX11_clear_7) <|
  AllB.n)
-- NativeWorks.fault(I)I
noncomputable def bs_X11_fault : List rBl := [sq (h_ld isI 1) (t_if (fun a => rNot (rEq a 0)) 2 1),
  sq (h_ld isR 0) (sq (h_get rFo 13 6) (t_go 7)),
  sq (h_ld isI 1) (sq (h_v (.inl 1)) (t_icmp (fun a b => rNot (rEq a b)) 4 3)),
  sq (h_ld isR 0) (sq (h_get rFo 13 7) (t_go 7)),
  sq (h_ld isI 1) (sq (h_v (.inl 2)) (t_icmp (fun a b => rNot (rEq a b)) 6 5)),
  sq (h_ld isR 0) (sq (h_get rFo 13 8) (t_go 7)),
  sq (h_v (.inl 4294967295)) (t_go 7),
  t_retv isI]
noncomputable def ev_X11_fault : rEv := fun as w n => rIni 2 as (fun ls => rRun bs_X11_fault 100000 0 ls [] w n 0)
set_option maxRecDepth 100000 in
set_option maxHeartbeats 4000000 in
theorem ok_X11_fault (l : Launch) : rMet vwCl rFo rZs rRs rNs rTs l yX11_fault cX11_fault 2 ((Option.some FieldType.int)) 0 0 ev_X11_fault := met_of (pcs := [0, 4, 11, 16, 23, 28, 35, 36]) (by decide +kernel) rfl (fun G n0 =>
  AllB.c (pb := 0) (
    BS.sq (pc' := 1) (s_iload_n (k := 1) 1 rfl dX11_fault_0) <|
    s_if_ne rfl rfl (by decide) dX11_fault_1) <|
  AllB.c (pb := 4) (
    BS.sq (pc' := 5) (s_aload_n (k := 0) 0 rfl dX11_fault_4) <|
    BS.sq (pc' := 8) (s_get 6 inX11 kc13 (by decide) kw269 rfl dX11_fault_5) <|
    s_goto rfl (by decide) dX11_fault_8) <|
  AllB.c (pb := 11) (
    BS.sq (pc' := 12) (s_iload_n (k := 1) 1 rfl dX11_fault_11) <|
    BS.sq (pc' := 13) (s_iconst 1 (by decide +kernel) dX11_fault_12) <|
    s_icmp_ne rfl rfl (by decide) dX11_fault_13) <|
  AllB.c (pb := 16) (
    BS.sq (pc' := 17) (s_aload_n (k := 0) 0 rfl dX11_fault_16) <|
    BS.sq (pc' := 20) (s_get 7 inX11 kc13 (by decide) kw270 rfl dX11_fault_17) <|
    s_goto rfl (by decide) dX11_fault_20) <|
  AllB.c (pb := 23) (
    BS.sq (pc' := 24) (s_iload_n (k := 1) 1 rfl dX11_fault_23) <|
    BS.sq (pc' := 25) (s_iconst 2 (by decide +kernel) dX11_fault_24) <|
    s_icmp_ne rfl rfl (by decide) dX11_fault_25) <|
  AllB.c (pb := 28) (
    BS.sq (pc' := 29) (s_aload_n (k := 0) 0 rfl dX11_fault_28) <|
    BS.sq (pc' := 32) (s_get 8 inX11 kc13 (by decide) kw271 rfl dX11_fault_29) <|
    s_goto rfl (by decide) dX11_fault_32) <|
  AllB.c (pb := 35) (
    BS.sq (pc' := 36) (s_iconst 4294967295 (by decide +kernel) dX11_fault_35) <|
    BS.go rfl) <|
  AllB.c (pb := 36) (
    s_reti isI rfl okr_I dX11_fault_36) <|
  AllB.n)
-- NativeWorks$Units.has(II)Z
noncomputable def bs_X10_has : List rBl := [sq (h_ld isI 1) (t_if (fun a => rLt a 0) 5 1),
  sq (h_ld isI 1) (sq (h_ld isR 0) (sq (h_get rFo 12 11) (t_icmp (fun a b => rNot (rLt a b)) 5 2))),
  t_no,
  t_no,
  t_no,
  sq (h_v (.inl 0)) (t_go 6),
  t_retv isZ]
noncomputable def ev_X10_has : rEv := fun as w n => rIni 3 as (fun ls => rRun bs_X10_has 100000 0 ls [] w n 0)
set_option maxRecDepth 100000 in
set_option maxHeartbeats 4000000 in
theorem ok_X10_has (l : Launch) : rMet vwCl rFo rZs rRs rNs rTs l yX10_has cX10_has 3 ((Option.some FieldType.boolean)) 0 0 ev_X10_has := met_of (pcs := [0, 4, 12, 16, 21, 25, 26]) (by decide +kernel) rfl (fun G n0 =>
  AllB.c (pb := 0) (
    BS.sq (pc' := 1) (s_iload_n (k := 1) 1 rfl dX10_has_0) <|
    s_if_lt rfl rfl (by decide) dX10_has_1) <|
  AllB.c (pb := 4) (
    BS.sq (pc' := 5) (s_iload_n (k := 1) 1 rfl dX10_has_4) <|
    BS.sq (pc' := 6) (s_aload_n (k := 0) 0 rfl dX10_has_5) <|
    BS.sq (pc' := 9) (s_get 11 inX10 kc12 (by decide) kw604 rfl dX10_has_6) <|
    s_icmp_ge rfl rfl (by decide) dX10_has_9) <|
  AllB.c (pb := 12) (
    BS.no) <|
  AllB.c (pb := 16) (
    BS.no) <|
  AllB.c (pb := 21) (
    BS.no) <|
  AllB.c (pb := 25) (
    BS.sq (pc' := 26) (s_iconst 0 (by decide +kernel) dX10_has_25) <|
    BS.go rfl) <|
  AllB.c (pb := 26) (
    s_reti isZ rfl okr_Z dX10_has_26) <|
  AllB.n)
noncomputable def bsG_X10_has (vLt vEq vLe : Nat → Nat → Bool) : List rBl := [sq (h_ld isI 1) (t_if (fun a => vLt a 0) 5 1),
  sq (h_ld isI 1) (sq (h_ld isR 0) (sq (h_get rFo 12 11) (t_icmp (fun a b => rNot (vLt a b)) 5 2))),
  t_no,
  t_no,
  t_no,
  sq (h_v (.inl 0)) (t_go 6),
  t_retv isZ]
noncomputable def evG_X10_has (vLt vEq vLe : Nat → Nat → Bool) : rEv := fun as w n => rIni 3 as (fun ls => rRun (bsG_X10_has vLt vEq vLe) 100000 0 ls [] w n 0)
theorem evG_X10_has_e : evG_X10_has rLt rEq rLe = ev_X10_has := by rfl
set_option maxRecDepth 1000000 in
set_option maxHeartbeats 40000000 in
theorem se_X10_has (vLt vEq vLe : Nat → Nat → Bool) : (fun (a b n : Nat) => evG_X10_has vLt vEq vLe [.inr (.inr 5), .inl a, .inl b] wL n) = fun a b n => rB (vLt a 0) (some (some (.inl 0), (wL, (n, 0)))) (rB (rNot (vLt a 0)) (some (some (.inl 0), (wL, (n, 0)))) none) := by rfl
noncomputable def sev_X10_has : rEv := rSy2 (.inr (.inr 5)) (.inl 0) wL
theorem sok_X10_has (l : Launch) : rMet vwCl rFo rZs rRs rNs rTs l yX10_has cX10_has 3 ((Option.some FieldType.boolean)) 0 0 sev_X10_has := met_sy2 (ok_X10_has l) (fun a b n => ⟨0, rfl, by
  have e := congrFun (congrFun (congrFun (se_X10_has rLt rEq rLe) a) b) n
  try dsimp only at e
  rw [evG_X10_has_e] at e
  cases h1 : rLt a 0
  · rw [h1] at e
    exact e
  · rw [h1] at e
    exact e⟩)
-- NativeWorks.size(II)I
noncomputable def bs_X11_size : List rBl := [sq (h_ld isR 0) (sq (h_get rFo 13 1) (sq (h_ld isI 1) (sq (h_ld isI 2) (sq (h_call 3 (rRecv rFo 12) sev_X10_has) (t_if (fun a => rEq a 0) 2 1))))),
  t_no,
  sq (h_v (.inl 4294967295)) (t_go 3),
  t_retv isI]
noncomputable def ev_X11_size : rEv := fun as w n => rIni 3 as (fun ls => rRun bs_X11_size 100000 0 ls [] w n 0)
set_option maxRecDepth 100000 in
set_option maxHeartbeats 4000000 in
theorem ok_X11_size (l : Launch) : rMet vwCl rFo rZs rRs rNs rTs l yX11_size cX11_size 3 ((Option.some FieldType.int)) 1 22 ev_X11_size := met_of (pcs := [0, 12, 29, 30]) (by decide +kernel) rfl (fun G n0 =>
  AllB.c (pb := 0) (
    BS.sq (pc' := 1) (s_aload_n (k := 0) 0 rfl dX11_size_0) <|
    BS.sq (pc' := 4) (s_get 1 inX11 kc13 (by decide) kw246 rfl dX11_size_1) <|
    BS.sq (pc' := 5) (s_iload_n (k := 1) 1 rfl dX11_size_4) <|
    BS.sq (pc' := 6) (s_iload_n (k := 2) 2 rfl dX11_size_5) <|
    BS.sq (pc' := 9) (s_callV 2 12 kc12 (sok_X10_has l) kGood kw714 kw715 kw716 kw241 kw713 (by decide +kernel) (by decide) (by decide) dX11_size_6) <|
    s_if_eq rfl rfl (by decide) dX11_size_9) <|
  AllB.c (pb := 12) (
    BS.no) <|
  AllB.c (pb := 29) (
    BS.sq (pc' := 30) (s_iconst 4294967295 (by decide +kernel) dX11_size_29) <|
    BS.go rfl) <|
  AllB.c (pb := 30) (
    s_reti isI rfl okr_I dX11_size_30) <|
  AllB.n)
-- NativeWorks.octet(III)I
noncomputable def bs_X11_octet : List rBl := [sq (h_ld isR 0) (sq (h_get rFo 13 1) (sq (h_ld isI 1) (sq (h_ld isI 2) (sq (h_call 3 (rRecv rFo 12) sev_X10_has) (t_if (fun a => rEq a 0) 3 1))))),
  t_no,
  t_no,
  sq (h_v (.inl 4294967295)) (t_retv isI),
  t_no,
  t_no,
  t_no,
  t_no]
noncomputable def ev_X11_octet : rEv := fun as w n => rIni 4 as (fun ls => rRun bs_X11_octet 100000 0 ls [] w n 0)
set_option maxRecDepth 100000 in
set_option maxHeartbeats 4000000 in
theorem ok_X11_octet (l : Launch) : rMet vwCl rFo rZs rRs rNs rTs l yX11_octet cX11_octet 4 ((Option.some FieldType.int)) 1 22 ev_X11_octet := met_of (pcs := [0, 12, 16, 34, 36, 41, 45, 72]) (by decide +kernel) rfl (fun G n0 =>
  AllB.c (pb := 0) (
    BS.sq (pc' := 1) (s_aload_n (k := 0) 0 rfl dX11_octet_0) <|
    BS.sq (pc' := 4) (s_get 1 inX11 kc13 (by decide) kw246 rfl dX11_octet_1) <|
    BS.sq (pc' := 5) (s_iload_n (k := 1) 1 rfl dX11_octet_4) <|
    BS.sq (pc' := 6) (s_iload_n (k := 2) 2 rfl dX11_octet_5) <|
    BS.sq (pc' := 9) (s_callV 2 12 kc12 (sok_X10_has l) kGood kw714 kw715 kw716 kw241 kw713 (by decide +kernel) (by decide) (by decide) dX11_octet_6) <|
    s_if_eq rfl rfl (by decide) dX11_octet_9) <|
  AllB.c (pb := 12) (
    BS.no) <|
  AllB.c (pb := 16) (
    BS.no) <|
  AllB.c (pb := 34) (
    BS.sq (pc' := 35) (s_iconst 4294967295 (by decide +kernel) dX11_octet_34) <|
    s_reti isI rfl okr_I dX11_octet_35) <|
  AllB.c (pb := 36) (
    BS.no) <|
  AllB.c (pb := 41) (
    BS.no) <|
  AllB.c (pb := 45) (
    BS.no) <|
  AllB.c (pb := 72) (
    BS.no) <|
  AllB.n)
-- NativeWorks$Linker.tell(III)V
noncomputable def bs_X4_tell : List rBl := [sq (h_ld isR 0) (sq (h_ld isI 1) (sq (h_put 6 15 isI) (sq (h_ld isR 0) (sq (h_ld isI 2) (sq (h_put 6 16 isI) (sq (h_ld isR 0) (sq (h_ld isI 3) (sq (h_put 6 17 isI) (t_ret)))))))))]
noncomputable def ev_X4_tell : rEv := fun as w n => rIni 4 as (fun ls => rRun bs_X4_tell 100000 0 ls [] w n 0)
set_option maxRecDepth 100000 in
set_option maxHeartbeats 4000000 in
theorem ok_X4_tell (l : Launch) : rMet vwCl rFo rZs rRs rNs rTs l yX4_tell cX4_tell 4 ((Option.none : Option FieldType)) 0 0 ev_X4_tell := met_of (pcs := [0]) (by decide +kernel) rfl (fun G n0 =>
  AllB.c (pb := 0) (
    BS.sq (pc' := 1) (s_aload_n (k := 0) 0 rfl dX4_tell_0) <|
    BS.sq (pc' := 2) (s_iload_n (k := 1) 1 rfl dX4_tell_1) <|
    BS.sq (pc' := 5) (s_put tyX4 15 isI inX4 tyX4_ok nmX4 kc6 (by decide) kw717 rfl rfl (okf_I G) dX4_tell_2) <|
    BS.sq (pc' := 6) (s_aload_n (k := 0) 0 rfl dX4_tell_5) <|
    BS.sq (pc' := 7) (s_iload_n (k := 2) 2 rfl dX4_tell_6) <|
    BS.sq (pc' := 10) (s_put tyX4 16 isI inX4 tyX4_ok nmX4 kc6 (by decide) kw718 rfl rfl (okf_I G) dX4_tell_7) <|
    BS.sq (pc' := 11) (s_aload_n (k := 0) 0 rfl dX4_tell_10) <|
    BS.sq (pc' := 12) (s_iload_n (k := 3) 3 rfl dX4_tell_11) <|
    BS.sq (pc' := 15) (s_put tyX4 17 isI inX4 tyX4_ok nmX4 kc6 (by decide) kw719 rfl rfl (okf_I G) dX4_tell_12) <|
    s_ret rfl dX4_tell_15) <|
  AllB.n)
-- NativeWorks$Linker.takeUnits()V
noncomputable def bs_X4_takeUnits : List rBl := [sq (h_v (.inl 0)) (sq (h_st isI 1) (t_go 1)),
  sq (h_ld isI 1) (sq (h_ld isR 0) (sq (h_get rFo 6 0) (sq (h_get rFo 12 11) (t_icmp (fun a b => rNot (rLt a b)) 6 2)))),
  t_no,
  t_no,
  t_no,
  t_no,
  sq (h_v (.inl 0)) (sq (h_st isI 1) (t_go 7)),
  sq (h_ld isI 1) (sq (h_v (.inl 32)) (t_icmp (fun a b => rNot (rLt a b)) 16 8)),
  sq (h_v (.inl 0)) (sq (h_st isI 2) (t_go 9)),
  sq (h_ld isI 2) (sq (h_ld isR 0) (sq (h_get rFo 6 0) (sq (h_get rFo 12 11) (t_icmp (fun a b => rNot (rLt a b)) 13 10)))),
  t_no,
  t_no,
  t_no,
  sq (h_ld isI 2) (sq (h_ld isR 0) (sq (h_get rFo 6 0) (sq (h_get rFo 12 11) (t_icmp (fun a b => rNot (rEq a b)) 15 14)))),
  t_ret,
  t_no,
  t_no]
noncomputable def ev_X4_takeUnits : rEv := fun as w n => rIni 3 as (fun ls => rRun bs_X4_takeUnits 100000 0 ls [] w n 0)
set_option maxRecDepth 100000 in
set_option maxHeartbeats 4000000 in
theorem ok_X4_takeUnits (l : Launch) : rMet vwCl rFo rZs rRs rNs rTs l yX4_takeUnits cX4_takeUnits 3 ((Option.none : Option FieldType)) 0 0 ev_X4_takeUnits := met_of (pcs := [0, 2, 13, 32, 36, 37, 44, 46, 52, 54, 65, 74, 82, 88, 99, 100, 113]) (by decide +kernel) rfl (fun G n0 =>
  AllB.c (pb := 0) (
    BS.sq (pc' := 1) (s_iconst 0 (by decide +kernel) dX4_takeUnits_0) <|
    BS.sq (pc' := 2) (s_istore_n (k := 1) 1 rfl (by decide) dX4_takeUnits_1) <|
    BS.go rfl) <|
  AllB.c (pb := 2) (
    BS.sq (pc' := 3) (s_iload_n (k := 1) 1 rfl dX4_takeUnits_2) <|
    BS.sq (pc' := 4) (s_aload_n (k := 0) 0 rfl dX4_takeUnits_3) <|
    BS.sq (pc' := 7) (s_get 0 inX4 kc6 (by decide) kw194 rfl dX4_takeUnits_4) <|
    BS.sq (pc' := 10) (s_get 11 inX10 kc12 (by decide) kw720 rfl dX4_takeUnits_7) <|
    s_icmp_ge rfl rfl (by decide) dX4_takeUnits_10) <|
  AllB.c (pb := 13) (
    BS.no) <|
  AllB.c (pb := 32) (
    BS.no) <|
  AllB.c (pb := 36) (
    BS.no) <|
  AllB.c (pb := 37) (
    BS.no) <|
  AllB.c (pb := 44) (
    BS.sq (pc' := 45) (s_iconst 0 (by decide +kernel) dX4_takeUnits_44) <|
    BS.sq (pc' := 46) (s_istore_n (k := 1) 1 rfl (by decide) dX4_takeUnits_45) <|
    BS.go rfl) <|
  AllB.c (pb := 46) (
    BS.sq (pc' := 47) (s_iload_n (k := 1) 1 rfl dX4_takeUnits_46) <|
    BS.sq (pc' := 49) (s_bipush 32 (by decide +kernel) dX4_takeUnits_47) <|
    s_icmp_ge rfl rfl (by decide) dX4_takeUnits_49) <|
  AllB.c (pb := 52) (
    BS.sq (pc' := 53) (s_iconst 0 (by decide +kernel) dX4_takeUnits_52) <|
    BS.sq (pc' := 54) (s_istore_n (k := 2) 2 rfl (by decide) dX4_takeUnits_53) <|
    BS.go rfl) <|
  AllB.c (pb := 54) (
    BS.sq (pc' := 55) (s_iload_n (k := 2) 2 rfl dX4_takeUnits_54) <|
    BS.sq (pc' := 56) (s_aload_n (k := 0) 0 rfl dX4_takeUnits_55) <|
    BS.sq (pc' := 59) (s_get 0 inX4 kc6 (by decide) kw194 rfl dX4_takeUnits_56) <|
    BS.sq (pc' := 62) (s_get 11 inX10 kc12 (by decide) kw720 rfl dX4_takeUnits_59) <|
    s_icmp_ge rfl rfl (by decide) dX4_takeUnits_62) <|
  AllB.c (pb := 65) (
    BS.no) <|
  AllB.c (pb := 74) (
    BS.no) <|
  AllB.c (pb := 82) (
    BS.no) <|
  AllB.c (pb := 88) (
    BS.sq (pc' := 89) (s_iload_n (k := 2) 2 rfl dX4_takeUnits_88) <|
    BS.sq (pc' := 90) (s_aload_n (k := 0) 0 rfl dX4_takeUnits_89) <|
    BS.sq (pc' := 93) (s_get 0 inX4 kc6 (by decide) kw194 rfl dX4_takeUnits_90) <|
    BS.sq (pc' := 96) (s_get 11 inX10 kc12 (by decide) kw720 rfl dX4_takeUnits_93) <|
    s_icmp_ne rfl rfl (by decide) dX4_takeUnits_96) <|
  AllB.c (pb := 99) (
    s_ret rfl dX4_takeUnits_99) <|
  AllB.c (pb := 100) (
    BS.no) <|
  AllB.c (pb := 113) (
    BS.no) <|
  AllB.n)
