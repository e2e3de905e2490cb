/-! METHODS -/
-- NativeWorks$Names.<init>(II)V
noncomputable def bs_X7_init : List rBl := [sq (h_ld isR 0) (sq (h_oinit) (sq (h_ld isR 0) (sq (h_ld isI 2) (sq (h_newa 2 (.inl 0)) (sq (h_put 9 0 isR) (sq (h_ld isR 0) (sq (h_ld isI 1) (sq (h_v (.inl 1)) (sq (h_bin (fun _ _ => true) rAdd) (sq (h_newa 0 (.inl 0)) (sq (h_put 9 1 isR) (sq (h_ld isR 0) (sq (h_ld isI 1) (sq (h_newa 0 (.inl 0)) (sq (h_put 9 2 isR) (sq (h_ld isR 0) (sq (h_ld isI 1) (sq (h_newa 0 (.inl 0)) (sq (h_put 9 3 isR) (sq (h_ld isR 0) (sq (h_v (.inl 1024)) (sq (h_newa 0 (.inl 0)) (sq (h_put 9 4 isR) (sq (h_ld isR 0) (sq (h_get rFo 9 4) (sq (h_v (.inl 4294967295)) (sq (h_call 2 rAny ev_J7_fill_53178) (sq (h_ld isR 0) (sq (h_v (.inl 0)) (sq (h_put 9 5 isI) (t_ret)))))))))))))))))))))))))))))))]
noncomputable def ev_X7_init : rEv := fun as w n => rIni 3 as (fun ls => rRun bs_X7_init 100000 0 ls [] w n 0)
set_option maxRecDepth 100000 in
set_option maxHeartbeats 4000000 in
theorem ok_X7_init (l : Launch) : rMet vwCl rFo rZs rRs rNs rTs l yX7_init cX7_init 3 ((Option.none : Option FieldType)) 1 23 ev_X7_init := met_of (pcs := [0]) (by decide +kernel) rfl (fun G n0 =>
  AllB.c (pb := 0) (
    BS.sq (pc' := 1) (s_aload_n (k := 0) 0 rfl dX7_init_0) <|
    BS.sq (pc' := 4) (s_oinit kw1 kw2 kwObj (by decide) (by decide) dX7_init_1) <|
    BS.sq (pc' := 5) (s_aload_n (k := 0) 0 rfl dX7_init_4) <|
    BS.sq (pc' := 6) (s_iload_n (k := 2) 2 rfl dX7_init_5) <|
    BS.sq (pc' := 8) (s_newa 2 (.inl 0) (by decide) rfl rfl (fun _ _ h => h) (by decide) kw3 dX7_init_6) <|
    BS.sq (pc' := 11) (s_putF tyX7 0 isR inX7 tyX7_ok nmX7 kc9 (by decide) kw4 rfl rfl rfl rfl (okf_A G _) dX7_init_8) <|
    BS.sq (pc' := 12) (s_aload_n (k := 0) 0 rfl dX7_init_11) <|
    BS.sq (pc' := 13) (s_iload_n (k := 1) 1 rfl dX7_init_12) <|
    BS.sq (pc' := 14) (s_iconst 1 (by decide +kernel) dX7_init_13) <|
    BS.sq (pc' := 15) (s_iadd dX7_init_14) <|
    BS.sq (pc' := 17) (s_newa 0 (.inl 0) (by decide) rfl rfl (fun _ _ h => h) (by decide) kw5 dX7_init_15) <|
    BS.sq (pc' := 20) (s_putF tyX7 1 isR inX7 tyX7_ok nmX7 kc9 (by decide) kw6 rfl rfl rfl rfl (okf_A G _) dX7_init_17) <|
    BS.sq (pc' := 21) (s_aload_n (k := 0) 0 rfl dX7_init_20) <|
    BS.sq (pc' := 22) (s_iload_n (k := 1) 1 rfl dX7_init_21) <|
    BS.sq (pc' := 24) (s_newa 0 (.inl 0) (by decide) rfl rfl (fun _ _ h => h) (by decide) kw5 dX7_init_22) <|
    BS.sq (pc' := 27) (s_putF tyX7 2 isR inX7 tyX7_ok nmX7 kc9 (by decide) kw7 rfl rfl rfl rfl (okf_A G _) dX7_init_24) <|
    BS.sq (pc' := 28) (s_aload_n (k := 0) 0 rfl dX7_init_27) <|
    BS.sq (pc' := 29) (s_iload_n (k := 1) 1 rfl dX7_init_28) <|
    BS.sq (pc' := 31) (s_newa 0 (.inl 0) (by decide) rfl rfl (fun _ _ h => h) (by decide) kw5 dX7_init_29) <|
    BS.sq (pc' := 34) (s_putF tyX7 3 isR inX7 tyX7_ok nmX7 kc9 (by decide) kw8 rfl rfl rfl rfl (okf_A G _) dX7_init_31) <|
    BS.sq (pc' := 35) (s_aload_n (k := 0) 0 rfl dX7_init_34) <|
    BS.sq (pc' := 38) (s_sipush 1024 (by decide +kernel) dX7_init_35) <|
    BS.sq (pc' := 40) (s_newa 0 (.inl 0) (by decide) rfl rfl (fun _ _ h => h) (by decide) kw5 dX7_init_38) <|
    BS.sq (pc' := 43) (s_putF tyX7 4 isR inX7 tyX7_ok nmX7 kc9 (by decide) kw9 rfl rfl rfl rfl (okf_A G _) dX7_init_40) <|
    BS.sq (pc' := 44) (s_aload_n (k := 0) 0 rfl dX7_init_43) <|
    BS.sq (pc' := 47) (s_get 4 inX7 kc9 (by decide) kw9 rfl dX7_init_44) <|
    BS.sq (pc' := 48) (s_iconst 4294967295 (by decide +kernel) dX7_init_47) <|
    BS.sq (pc' := 51) (s_callS 2 (ok_J7_fill_53178 l) kGood kw11 kw12 kw13 kw10 (by decide +kernel) (by decide) (by decide) dX7_init_48) <|
    BS.sq (pc' := 52) (s_aload_n (k := 0) 0 rfl dX7_init_51) <|
    BS.sq (pc' := 53) (s_iconst 0 (by decide +kernel) dX7_init_52) <|
    BS.sq (pc' := 56) (s_put tyX7 5 isI inX7 tyX7_ok nmX7 kc9 (by decide) kw14 rfl rfl (okf_I G) dX7_init_53) <|
    s_ret rfl dX7_init_56) <|
  AllB.n)
-- NativeWorks$Units.<init>()V
noncomputable def bs_X10_init : List rBl := [sq (h_ld isR 0) (sq (h_oinit) (sq (h_ld isR 0) (sq (h_new 9 6 [.inr (.inr 0), .inr (.inr 0), .inr (.inr 0), .inr (.inr 0), .inr (.inr 0), .inl 0]) (sq (h_dup) (sq (h_v (.inl 1024)) (sq (h_v (.inl 129024)) (sq (h_call 3 (rRecv rFo 9) ev_X7_init) (sq (h_put 12 0 isR) (sq (h_ld isR 0) (sq (h_v (.inl 1024)) (sq (h_v (.inl 6)) (sq (h_multi) (sq (h_put 12 1 isR) (sq (h_ld isR 0) (sq (h_v (.inl 1024)) (sq (h_newa 1 (.inr (.inl 0))) (sq (h_put 12 2 isR) (sq (h_ld isR 0) (sq (h_v (.inl 1024)) (sq (h_newa 0 (.inl 0)) (sq (h_put 12 3 isR) (sq (h_ld isR 0) (sq (h_v (.inl 8192)) (sq (h_v (.inl 7)) (sq (h_multi) (sq (h_put 12 4 isR) (sq (h_ld isR 0) (sq (h_v (.inl 4096)) (sq (h_v (.inl 6)) (sq (h_multi) (sq (h_put 12 5 isR) (sq (h_ld isR 0) (sq (h_v (.inl 4096)) (sq (h_newa 1 (.inr (.inl 0))) (sq (h_put 12 6 isR) (sq (h_ld isR 0) (sq (h_v (.inl 131072)) (sq (h_newa 2 (.inl 0)) (sq (h_put 12 7 isR) (sq (h_ld isR 0) (sq (h_v (.inl 131072)) (sq (h_newa 2 (.inl 0)) (sq (h_put 12 8 isR) (sq (h_ld isR 0) (sq (h_v (.inl 33)) (sq (h_v (.inl 17)) (sq (h_multi) (sq (h_put 12 9 isR) (sq (h_ld isR 0) (sq (h_v (.inl 4)) (sq (h_newa 0 (.inl 0)) (sq (h_put 12 10 isR) (t_ret)))))))))))))))))))))))))))))))))))))))))))))))))))))]
noncomputable def ev_X10_init : rEv := fun as w n => rIni 1 as (fun ls => rRun bs_X10_init 100000 0 ls [] w n 0)
set_option maxRecDepth 100000 in
set_option maxHeartbeats 4000000 in
theorem ok_X10_init (l : Launch) : rMet vwCl rFo rZs rRs rNs rTs l yX10_init cX10_init 1 ((Option.none : Option FieldType)) 2 45 ev_X10_init := met_of (pcs := [0]) (by decide +kernel) rfl (fun G n0 =>
  AllB.c (pb := 0) (
    BS.sq (pc' := 1) (s_aload_n (k := 0) 0 rfl dX10_init_0) <|
    BS.sq (pc' := 4) (s_oinit kw15 kw2 kwObj (by decide) (by decide) dX10_init_1) <|
    BS.sq (pc' := 5) (s_aload_n (k := 0) 0 rfl dX10_init_4) <|
    BS.sq (pc' := 8) (s_new tyX7 inX7 tyX7_ok kc9 kw16 kw17 kw18 rfl rfl dX10_init_5) <|
    BS.sq (pc' := 9) (s_dup dX10_init_8) <|
    BS.sq (pc' := 12) (s_sipush 1024 (by decide +kernel) dX10_init_9) <|
    BS.sq (pc' := 14) (s_ldc 129024 kw19 dX10_init_12) <|
    BS.sq (pc' := 17) (s_callI 2 9 kc9 (ok_X7_init l) kGood kw21 kw22 kw18 kw20 rfl (by decide +kernel) (by decide) (by decide) dX10_init_14) <|
    BS.sq (pc' := 20) (s_putF tyX10 0 isR inX10 tyX10_ok nmX10 kc12 (by decide) kw23 rfl rfl rfl rfl (okf_O G _) dX10_init_17) <|
    BS.sq (pc' := 21) (s_aload_n (k := 0) 0 rfl dX10_init_20) <|
    BS.sq (pc' := 24) (s_sipush 1024 (by decide +kernel) dX10_init_21) <|
    BS.sq (pc' := 26) (s_bipush 6 (by decide +kernel) dX10_init_24) <|
    BS.sq (pc' := 30) (s_multi (ty := .int) kw24 kn0 kw5 (by decide) rfl rfl dX10_init_26) <|
    BS.sq (pc' := 33) (s_putF tyX10 1 isR inX10 tyX10_ok nmX10 kc12 (by decide) kw25 rfl rfl rfl rfl (okf_A G _) dX10_init_30) <|
    BS.sq (pc' := 34) (s_aload_n (k := 0) 0 rfl dX10_init_33) <|
    BS.sq (pc' := 37) (s_sipush 1024 (by decide +kernel) dX10_init_34) <|
    BS.sq (pc' := 39) (s_newa 1 (.inr (.inl 0)) (by decide) rfl rfl (fun _ _ h => h) (by decide) kw26 dX10_init_37) <|
    BS.sq (pc' := 42) (s_putF tyX10 2 isR inX10 tyX10_ok nmX10 kc12 (by decide) kw27 rfl rfl rfl rfl (okf_A G _) dX10_init_39) <|
    BS.sq (pc' := 43) (s_aload_n (k := 0) 0 rfl dX10_init_42) <|
    BS.sq (pc' := 46) (s_sipush 1024 (by decide +kernel) dX10_init_43) <|
    BS.sq (pc' := 48) (s_newa 0 (.inl 0) (by decide) rfl rfl (fun _ _ h => h) (by decide) kw5 dX10_init_46) <|
    BS.sq (pc' := 51) (s_putF tyX10 3 isR inX10 tyX10_ok nmX10 kc12 (by decide) kw28 rfl rfl rfl rfl (okf_A G _) dX10_init_48) <|
    BS.sq (pc' := 52) (s_aload_n (k := 0) 0 rfl dX10_init_51) <|
    BS.sq (pc' := 55) (s_sipush 8192 (by decide +kernel) dX10_init_52) <|
    BS.sq (pc' := 57) (s_bipush 7 (by decide +kernel) dX10_init_55) <|
    BS.sq (pc' := 61) (s_multi (ty := .int) kw24 kn0 kw5 (by decide) rfl rfl dX10_init_57) <|
    BS.sq (pc' := 64) (s_putF tyX10 4 isR inX10 tyX10_ok nmX10 kc12 (by decide) kw29 rfl rfl rfl rfl (okf_A G _) dX10_init_61) <|
    BS.sq (pc' := 65) (s_aload_n (k := 0) 0 rfl dX10_init_64) <|
    BS.sq (pc' := 68) (s_sipush 4096 (by decide +kernel) dX10_init_65) <|
    BS.sq (pc' := 70) (s_bipush 6 (by decide +kernel) dX10_init_68) <|
    BS.sq (pc' := 74) (s_multi (ty := .int) kw24 kn0 kw5 (by decide) rfl rfl dX10_init_70) <|
    BS.sq (pc' := 77) (s_putF tyX10 5 isR inX10 tyX10_ok nmX10 kc12 (by decide) kw30 rfl rfl rfl rfl (okf_A G _) dX10_init_74) <|
    BS.sq (pc' := 78) (s_aload_n (k := 0) 0 rfl dX10_init_77) <|
    BS.sq (pc' := 81) (s_sipush 4096 (by decide +kernel) dX10_init_78) <|
    BS.sq (pc' := 83) (s_newa 1 (.inr (.inl 0)) (by decide) rfl rfl (fun _ _ h => h) (by decide) kw26 dX10_init_81) <|
    BS.sq (pc' := 86) (s_putF tyX10 6 isR inX10 tyX10_ok nmX10 kc12 (by decide) kw31 rfl rfl rfl rfl (okf_A G _) dX10_init_83) <|
    BS.sq (pc' := 87) (s_aload_n (k := 0) 0 rfl dX10_init_86) <|
    BS.sq (pc' := 89) (s_ldc 131072 kw32 dX10_init_87) <|
    BS.sq (pc' := 91) (s_newa 2 (.inl 0) (by decide) rfl rfl (fun _ _ h => h) (by decide) kw3 dX10_init_89) <|
    BS.sq (pc' := 94) (s_putF tyX10 7 isR inX10 tyX10_ok nmX10 kc12 (by decide) kw33 rfl rfl rfl rfl (okf_A G _) dX10_init_91) <|
    BS.sq (pc' := 95) (s_aload_n (k := 0) 0 rfl dX10_init_94) <|
    BS.sq (pc' := 97) (s_ldc 131072 kw32 dX10_init_95) <|
    BS.sq (pc' := 99) (s_newa 2 (.inl 0) (by decide) rfl rfl (fun _ _ h => h) (by decide) kw3 dX10_init_97) <|
    BS.sq (pc' := 102) (s_putF tyX10 8 isR inX10 tyX10_ok nmX10 kc12 (by decide) kw34 rfl rfl rfl rfl (okf_A G _) dX10_init_99) <|
    BS.sq (pc' := 103) (s_aload_n (k := 0) 0 rfl dX10_init_102) <|
    BS.sq (pc' := 105) (s_bipush 33 (by decide +kernel) dX10_init_103) <|
    BS.sq (pc' := 107) (s_bipush 17 (by decide +kernel) dX10_init_105) <|
    BS.sq (pc' := 111) (s_multi (ty := .int) kw24 kn0 kw5 (by decide) rfl rfl dX10_init_107) <|
    BS.sq (pc' := 114) (s_putF tyX10 9 isR inX10 tyX10_ok nmX10 kc12 (by decide) kw35 rfl rfl rfl rfl (okf_A G _) dX10_init_111) <|
    BS.sq (pc' := 115) (s_aload_n (k := 0) 0 rfl dX10_init_114) <|
    BS.sq (pc' := 116) (s_iconst 4 (by decide +kernel) dX10_init_115) <|
    BS.sq (pc' := 118) (s_newa 0 (.inl 0) (by decide) rfl rfl (fun _ _ h => h) (by decide) kw5 dX10_init_116) <|
    BS.sq (pc' := 121) (s_putF tyX10 10 isR inX10 tyX10_ok nmX10 kc12 (by decide) kw36 rfl rfl rfl rfl (okf_A G _) dX10_init_118) <|
    s_ret rfl dX10_init_121) <|
  AllB.n)
-- java/lang/String.coder()B
noncomputable def bs_J0_coder_7d493 : List rBl := [sq (h_v (.inl 1)) (t_if (fun a => rEq a 0) 2 1),
  sq (h_ld isR 0) (sq (h_get rFo 0 1) (t_go 3)),
  t_no,
  t_retv isB]
noncomputable def ev_J0_coder_7d493 : rEv := fun as w n => rIni 1 as (fun ls => rRun bs_J0_coder_7d493 100000 0 ls [] w n 0)
set_option maxRecDepth 100000 in
set_option maxHeartbeats 4000000 in
theorem ok_J0_coder_7d493 (l : Launch) : rMet vwCl rFo rZs rRs rNs rTs l yJ0_coder_7d493 cJ0_coder_7d493 1 ((Option.some FieldType.byte)) 0 0 ev_J0_coder_7d493 := met_of (pcs := [0, 6, 13, 14]) (by decide +kernel) rfl (fun G n0 =>
  AllB.c (pb := 0) (
    BS.sq (pc' := 3) (s_gets (.inl 1) kz0 kw37 rfl dJ0_coder_7d493_0) <|
    s_if_eq rfl rfl (by decide) dJ0_coder_7d493_3) <|
  AllB.c (pb := 6) (
    BS.sq (pc' := 7) (s_aload_n (k := 0) 0 rfl dJ0_coder_7d493_6) <|
    BS.sq (pc' := 10) (s_get 1 inJ0 kc0 (by decide) kw38 rfl dJ0_coder_7d493_7) <|
    s_goto rfl (by decide) dJ0_coder_7d493_10) <|
  AllB.c (pb := 13) (
    BS.no) <|
  AllB.c (pb := 14) (
    s_reti isB rfl okr_B dJ0_coder_7d493_14) <|
  AllB.n)
-- java/lang/String.length()I
noncomputable def bs_J0_length_8abf5 : List rBl := [sq (h_ld isR 0) (sq (h_get rFo 0 0) (sq (h_alen rFo) (sq (h_ld isR 0) (sq (h_call 1 (rRecv rFo 0) ev_J0_coder_7d493) (sq (h_bin okShr rShr) (t_retv isI))))))]
noncomputable def ev_J0_length_8abf5 : rEv := fun as w n => rIni 1 as (fun ls => rRun bs_J0_length_8abf5 100000 0 ls [] w n 0)
set_option maxRecDepth 100000 in
set_option maxHeartbeats 4000000 in
theorem ok_J0_length_8abf5 (l : Launch) : rMet vwCl rFo rZs rRs rNs rTs l yJ0_length_8abf5 cJ0_length_8abf5 1 ((Option.some FieldType.int)) 1 20 ev_J0_length_8abf5 := met_of (pcs := [0]) (by decide +kernel) rfl (fun G n0 =>
  AllB.c (pb := 0) (
    BS.sq (pc' := 1) (s_aload_n (k := 0) 0 rfl dJ0_length_8abf5_0) <|
    BS.sq (pc' := 4) (s_get 0 inJ0 kc0 (by decide) kw39 rfl dJ0_length_8abf5_1) <|
    BS.sq (pc' := 5) (s_alen dJ0_length_8abf5_4) <|
    BS.sq (pc' := 6) (s_aload_n (k := 0) 0 rfl dJ0_length_8abf5_5) <|
    BS.sq (pc' := 9) (s_callV 0 0 kc0 (ok_J0_coder_7d493 l) kGood kw41 kw42 kw43 kw44 kw40 (by decide +kernel) (by decide) (by decide) dJ0_length_8abf5_6) <|
    BS.sq (pc' := 10) (s_ishr dJ0_length_8abf5_9) <|
    s_reti isI rfl okr_I dJ0_length_8abf5_10) <|
  AllB.n)
-- java/lang/String.isLatin1()Z
noncomputable def bs_J0_isLatin1_aae02 : List rBl := [sq (h_v (.inl 1)) (t_if (fun a => rEq a 0) 3 1),
  sq (h_ld isR 0) (sq (h_get rFo 0 1) (t_if (fun a => rNot (rEq a 0)) 3 2)),
  sq (h_v (.inl 1)) (t_go 4),
  t_no,
  t_retv isZ]
noncomputable def ev_J0_isLatin1_aae02 : rEv := fun as w n => rIni 1 as (fun ls => rRun bs_J0_isLatin1_aae02 100000 0 ls [] w n 0)
set_option maxRecDepth 100000 in
set_option maxHeartbeats 4000000 in
theorem ok_J0_isLatin1_aae02 (l : Launch) : rMet vwCl rFo rZs rRs rNs rTs l yJ0_isLatin1_aae02 cJ0_isLatin1_aae02 1 ((Option.some FieldType.boolean)) 0 0 ev_J0_isLatin1_aae02 := met_of (pcs := [0, 6, 13, 17, 18]) (by decide +kernel) rfl (fun G n0 =>
  AllB.c (pb := 0) (
    BS.sq (pc' := 3) (s_gets (.inl 1) kz0 kw37 rfl dJ0_isLatin1_aae02_0) <|
    s_if_eq rfl rfl (by decide) dJ0_isLatin1_aae02_3) <|
  AllB.c (pb := 6) (
    BS.sq (pc' := 7) (s_aload_n (k := 0) 0 rfl dJ0_isLatin1_aae02_6) <|
    BS.sq (pc' := 10) (s_get 1 inJ0 kc0 (by decide) kw38 rfl dJ0_isLatin1_aae02_7) <|
    s_if_ne rfl rfl (by decide) dJ0_isLatin1_aae02_10) <|
  AllB.c (pb := 13) (
    BS.sq (pc' := 14) (s_iconst 1 (by decide +kernel) dJ0_isLatin1_aae02_13) <|
    s_goto rfl (by decide) dJ0_isLatin1_aae02_14) <|
  AllB.c (pb := 17) (
    BS.no) <|
  AllB.c (pb := 18) (
    s_reti isZ rfl okr_Z dJ0_isLatin1_aae02_18) <|
  AllB.n)
-- jdk/internal/util/Preconditions.checkIndex(IILjava/util/function/BiFunction;)I
noncomputable def bs_J3_checkIndex_8e157 : List rBl := [sq (h_ld isI 0) (t_if (fun a => rLt a 0) 2 1),
  sq (h_ld isI 0) (sq (h_ld isI 1) (t_icmp rLt 3 2)),
  t_no,
  sq (h_ld isI 0) (t_retv isI)]
noncomputable def ev_J3_checkIndex_8e157 : rEv := fun as w n => rIni 3 as (fun ls => rRun bs_J3_checkIndex_8e157 100000 0 ls [] w n 0)
set_option maxRecDepth 100000 in
set_option maxHeartbeats 4000000 in
theorem ok_J3_checkIndex_8e157 (l : Launch) : rMet vwCl rFo rZs rRs rNs rTs l yJ3_checkIndex_8e157 cJ3_checkIndex_8e157 3 ((Option.some FieldType.int)) 0 0 ev_J3_checkIndex_8e157 := met_of (pcs := [0, 4, 9, 16]) (by decide +kernel) rfl (fun G n0 =>
  AllB.c (pb := 0) (
    BS.sq (pc' := 1) (s_iload_n (k := 0) 0 rfl dJ3_checkIndex_8e157_0) <|
    s_if_lt rfl rfl (by decide) dJ3_checkIndex_8e157_1) <|
  AllB.c (pb := 4) (
    BS.sq (pc' := 5) (s_iload_n (k := 0) 0 rfl dJ3_checkIndex_8e157_4) <|
    BS.sq (pc' := 6) (s_iload_n (k := 1) 1 rfl dJ3_checkIndex_8e157_5) <|
    s_icmp_lt rfl rfl (by decide) dJ3_checkIndex_8e157_6) <|
  AllB.c (pb := 9) (
    BS.no) <|
  AllB.c (pb := 16) (
    BS.sq (pc' := 17) (s_iload_n (k := 0) 0 rfl dJ3_checkIndex_8e157_16) <|
    s_reti isI rfl okr_I dJ3_checkIndex_8e157_17) <|
  AllB.n)
-- java/lang/String.checkIndex(II)V
noncomputable def bs_J0_checkIndex_df160 : List rBl := [sq (h_ld isI 0) (sq (h_ld isI 1) (sq (h_v (.inr (.inr 20002))) (sq (h_call 3 rAny ev_J3_checkIndex_8e157) (sq (h_pop) (t_ret)))))]
noncomputable def ev_J0_checkIndex_df160 : rEv := fun as w n => rIni 2 as (fun ls => rRun bs_J0_checkIndex_df160 100000 0 ls [] w n 0)
set_option maxRecDepth 100000 in
set_option maxHeartbeats 4000000 in
theorem ok_J0_checkIndex_df160 (l : Launch) : rMet vwCl rFo rZs rRs rNs rTs l yJ0_checkIndex_df160 cJ0_checkIndex_df160 2 ((Option.none : Option FieldType)) 1 22 ev_J0_checkIndex_df160 := met_of (pcs := [0]) (by decide +kernel) rfl (fun G n0 =>
  AllB.c (pb := 0) (
    BS.sq (pc' := 1) (s_iload_n (k := 0) 0 rfl dJ0_checkIndex_df160_0) <|
    BS.sq (pc' := 2) (s_iload_n (k := 1) 1 rfl dJ0_checkIndex_df160_1) <|
    BS.sq (pc' := 5) (s_gets (.inr (.inr 20002)) kz1 kw45 rfl dJ0_checkIndex_df160_2) <|
    BS.sq (pc' := 8) (s_callS 3 (ok_J3_checkIndex_8e157 l) kGood kw47 kw48 kw49 kw46 (by decide +kernel) (by decide) (by decide) dJ0_checkIndex_df160_5) <|
    BS.sq (pc' := 9) (s_pop dJ0_checkIndex_df160_8) <|
    s_ret rfl dJ0_checkIndex_df160_9) <|
  AllB.n)
-- java/lang/StringLatin1.charAt([BI)C
noncomputable def bs_J1_charAt_3b067 : List rBl := [sq (h_ld isI 1) (sq (h_ld isR 0) (sq (h_alen rFo) (sq (h_call 2 rAny ev_J0_checkIndex_df160) (sq (h_ld isR 0) (sq (h_ld isI 1) (sq (h_ald rFo okB) (sq (h_v (.inl 255)) (sq (h_bin (fun _ _ => true) Nat.land) (sq (h_un (fun a => Nat.ble a 65535) (fun a => a)) (t_retv isC))))))))))]
noncomputable def ev_J1_charAt_3b067 : rEv := fun as w n => rIni 2 as (fun ls => rRun bs_J1_charAt_3b067 100000 0 ls [] w n 0)
set_option maxRecDepth 100000 in
set_option maxHeartbeats 4000000 in
theorem ok_J1_charAt_3b067 (l : Launch) : rMet vwCl rFo rZs rRs rNs rTs l yJ1_charAt_3b067 cJ1_charAt_3b067 2 ((Option.some FieldType.char)) 2 43 ev_J1_charAt_3b067 := met_of (pcs := [0]) (by decide +kernel) rfl (fun G n0 =>
  AllB.c (pb := 0) (
    BS.sq (pc' := 1) (s_iload_n (k := 1) 1 rfl dJ1_charAt_3b067_0) <|
    BS.sq (pc' := 2) (s_aload_n (k := 0) 0 rfl dJ1_charAt_3b067_1) <|
    BS.sq (pc' := 3) (s_alen dJ1_charAt_3b067_2) <|
    BS.sq (pc' := 6) (s_callS 2 (ok_J0_checkIndex_df160 l) kGood kw51 kw52 kw44 kw50 (by decide +kernel) (by decide) (by decide) dJ1_charAt_3b067_3) <|
    BS.sq (pc' := 7) (s_aload_n (k := 0) 0 rfl dJ1_charAt_3b067_6) <|
    BS.sq (pc' := 8) (s_iload_n (k := 1) 1 rfl dJ1_charAt_3b067_7) <|
    BS.sq (pc' := 9) (s_baload dJ1_charAt_3b067_8) <|
    BS.sq (pc' := 12) (s_sipush 255 (by decide +kernel) dJ1_charAt_3b067_9) <|
    BS.sq (pc' := 13) (s_iand dJ1_charAt_3b067_12) <|
    BS.sq (pc' := 14) (s_i2c dJ1_charAt_3b067_13) <|
    s_reti isC rfl okr_C dJ1_charAt_3b067_14) <|
  AllB.n)
-- java/lang/String.charAt(I)C
noncomputable def bs_J0_charAt_5068e : List rBl := [sq (h_ld isR 0) (sq (h_call 1 (rRecv rFo 0) ev_J0_isLatin1_aae02) (t_if (fun a => rEq a 0) 2 1)),
  sq (h_ld isR 0) (sq (h_get rFo 0 0) (sq (h_ld isI 1) (sq (h_call 2 rAny ev_J1_charAt_3b067) (t_retv isC)))),
  t_no]
noncomputable def ev_J0_charAt_5068e : rEv := fun as w n => rIni 2 as (fun ls => rRun bs_J0_charAt_5068e 100000 0 ls [] w n 0)
set_option maxRecDepth 100000 in
set_option maxHeartbeats 4000000 in
theorem ok_J0_charAt_5068e (l : Launch) : rMet vwCl rFo rZs rRs rNs rTs l yJ0_charAt_5068e cJ0_charAt_5068e 2 ((Option.some FieldType.char)) 3 64 ev_J0_charAt_5068e := met_of (pcs := [0, 7, 16]) (by decide +kernel) rfl (fun G n0 =>
  AllB.c (pb := 0) (
    BS.sq (pc' := 1) (s_aload_n (k := 0) 0 rfl dJ0_charAt_5068e_0) <|
    BS.sq (pc' := 4) (s_callV 0 0 kc0 (ok_J0_isLatin1_aae02 l) kGood kw54 kw55 kw56 kw44 kw53 (by decide +kernel) (by decide) (by decide) dJ0_charAt_5068e_1) <|
    s_if_eq rfl rfl (by decide) dJ0_charAt_5068e_4) <|
  AllB.c (pb := 7) (
    BS.sq (pc' := 8) (s_aload_n (k := 0) 0 rfl dJ0_charAt_5068e_7) <|
    BS.sq (pc' := 11) (s_get 0 inJ0 kc0 (by decide) kw39 rfl dJ0_charAt_5068e_8) <|
    BS.sq (pc' := 12) (s_iload_n (k := 1) 1 rfl dJ0_charAt_5068e_11) <|
    BS.sq (pc' := 15) (s_callS 2 (ok_J1_charAt_3b067 l) kGood kw58 kw59 kw60 kw57 (by decide +kernel) (by decide) (by decide) dJ0_charAt_5068e_12) <|
    s_reti isC rfl okr_C dJ0_charAt_5068e_15) <|
  AllB.c (pb := 16) (
    BS.no) <|
  AllB.n)
-- NativeWorks$Names.add([BII)I
noncomputable def bs_X7_add : List rBl := [sq (h_ld isR 0) (sq (h_get rFo 9 5) (sq (h_ld isR 0) (sq (h_get rFo 9 2) (sq (h_alen rFo) (t_icmp rEq 2 1))))),
  sq (h_ld isR 0) (sq (h_get rFo 9 1) (sq (h_ld isR 0) (sq (h_get rFo 9 5) (sq (h_ald rFo okI) (sq (h_ld isI 3) (sq (h_bin (fun _ _ => true) rAdd) (sq (h_ld isR 0) (sq (h_get rFo 9 0) (sq (h_alen rFo) (t_icmp rLe 3 2)))))))))),
  t_no,
  sq (h_v (.inl 0)) (sq (h_st isI 4) (sq (h_ld isI 2) (sq (h_st isI 5) (t_go 4)))),
  sq (h_ld isI 5) (sq (h_ld isI 2) (sq (h_ld isI 3) (sq (h_bin (fun _ _ => true) rAdd) (t_icmp (fun a b => rNot (rLt a b)) 6 5)))),
  sq (h_v (.inl 31)) (sq (h_ld isI 4) (sq (h_bin (fun _ _ => true) rMul) (sq (h_ld isR 1) (sq (h_ld isI 5) (sq (h_ald rFo okB) (sq (h_bin (fun _ _ => true) rAdd) (sq (h_st isI 4) (sq (h_inc 5 1) (t_go 4))))))))),
  sq (h_ld isR 1) (sq (h_ld isI 2) (sq (h_ld isR 0) (sq (h_get rFo 9 0) (sq (h_ld isR 0) (sq (h_get rFo 9 1) (sq (h_ld isR 0) (sq (h_get rFo 9 5) (sq (h_ald rFo okI) (sq (h_ld isI 3) (sq (h_acopy rFo) (sq (h_ld isR 0) (sq (h_get rFo 9 1) (sq (h_ld isR 0) (sq (h_get rFo 9 5) (sq (h_v (.inl 1)) (sq (h_bin (fun _ _ => true) rAdd) (sq (h_ld isR 0) (sq (h_get rFo 9 1) (sq (h_ld isR 0) (sq (h_get rFo 9 5) (sq (h_ald rFo okI) (sq (h_ld isI 3) (sq (h_bin (fun _ _ => true) rAdd) (sq (h_ast okI) (sq (h_ld isR 0) (sq (h_get rFo 9 3) (sq (h_ld isR 0) (sq (h_get rFo 9 5) (sq (h_ld isI 4) (sq (h_v (.inl 1023)) (sq (h_bin (fun _ _ => true) Nat.land) (sq (h_ast okI) (sq (h_ld isR 0) (sq (h_get rFo 9 2) (sq (h_ld isR 0) (sq (h_get rFo 9 5) (sq (h_ld isR 0) (sq (h_get rFo 9 4) (sq (h_ld isR 0) (sq (h_get rFo 9 3) (sq (h_ld isR 0) (sq (h_get rFo 9 5) (sq (h_ald rFo okI) (sq (h_ald rFo okI) (sq (h_ast okI) (sq (h_ld isR 0) (sq (h_get rFo 9 4) (sq (h_ld isR 0) (sq (h_get rFo 9 3) (sq (h_ld isR 0) (sq (h_get rFo 9 5) (sq (h_ald rFo okI) (sq (h_ld isR 0) (sq (h_get rFo 9 5) (sq (h_ast okI) (sq (h_ld isR 0) (sq (h_dup) (sq (h_get rFo 9 5) (sq (h_dupx1) (t_go 7)))))))))))))))))))))))))))))))))))))))))))))))))))))))))))),
  sq (h_v (.inl 1)) (sq (h_bin (fun _ _ => true) rAdd) (sq (h_put 9 5 isI) (t_retv isI)))]
noncomputable def ev_X7_add : rEv := fun as w n => rIni 6 as (fun ls => rRun bs_X7_add 100000 0 ls [] w n 0)
set_option maxRecDepth 100000 in
set_option maxHeartbeats 4000000 in
theorem ok_X7_add (l : Launch) : rMet vwCl rFo rZs rRs rNs rTs l yX7_add cX7_add 6 ((Option.some FieldType.int)) 1 100 ev_X7_add := met_of (pcs := [0, 12, 31, 33, 39, 47, 65, 168]) (by decide +kernel) rfl (fun G n0 =>
  AllB.c (pb := 0) (
    BS.sq (pc' := 1) (s_aload_n (k := 0) 0 rfl dX7_add_0) <|
    BS.sq (pc' := 4) (s_get 5 inX7 kc9 (by decide) kw14 rfl dX7_add_1) <|
    BS.sq (pc' := 5) (s_aload_n (k := 0) 0 rfl dX7_add_4) <|
    BS.sq (pc' := 8) (s_get 2 inX7 kc9 (by decide) kw7 rfl dX7_add_5) <|
    BS.sq (pc' := 9) (s_alen dX7_add_8) <|
    s_icmp_eq rfl rfl (by decide) dX7_add_9) <|
  AllB.c (pb := 12) (
    BS.sq (pc' := 13) (s_aload_n (k := 0) 0 rfl dX7_add_12) <|
    BS.sq (pc' := 16) (s_get 1 inX7 kc9 (by decide) kw6 rfl dX7_add_13) <|
    BS.sq (pc' := 17) (s_aload_n (k := 0) 0 rfl dX7_add_16) <|
    BS.sq (pc' := 20) (s_get 5 inX7 kc9 (by decide) kw14 rfl dX7_add_17) <|
    BS.sq (pc' := 21) (s_iaload dX7_add_20) <|
    BS.sq (pc' := 22) (s_iload_n (k := 3) 3 rfl dX7_add_21) <|
    BS.sq (pc' := 23) (s_iadd dX7_add_22) <|
    BS.sq (pc' := 24) (s_aload_n (k := 0) 0 rfl dX7_add_23) <|
    BS.sq (pc' := 27) (s_get 0 inX7 kc9 (by decide) kw4 rfl dX7_add_24) <|
    BS.sq (pc' := 28) (s_alen dX7_add_27) <|
    s_icmp_le rfl rfl (by decide) dX7_add_28) <|
  AllB.c (pb := 31) (
    BS.no) <|
  AllB.c (pb := 33) (
    BS.sq (pc' := 34) (s_iconst 0 (by decide +kernel) dX7_add_33) <|
    BS.sq (pc' := 36) (s_istore 4 (by decide) dX7_add_34) <|
    BS.sq (pc' := 37) (s_iload_n (k := 2) 2 rfl dX7_add_36) <|
    BS.sq (pc' := 39) (s_istore 5 (by decide) dX7_add_37) <|
    BS.go rfl) <|
  AllB.c (pb := 39) (
    BS.sq (pc' := 41) (s_iload 5 dX7_add_39) <|
    BS.sq (pc' := 42) (s_iload_n (k := 2) 2 rfl dX7_add_41) <|
    BS.sq (pc' := 43) (s_iload_n (k := 3) 3 rfl dX7_add_42) <|
    BS.sq (pc' := 44) (s_iadd dX7_add_43) <|
    s_icmp_ge rfl rfl (by decide) dX7_add_44) <|
  AllB.c (pb := 47) (
    BS.sq (pc' := 49) (s_bipush 31 (by decide +kernel) dX7_add_47) <|
    BS.sq (pc' := 51) (s_iload 4 dX7_add_49) <|
    BS.sq (pc' := 52) (s_imul dX7_add_51) <|
    BS.sq (pc' := 53) (s_aload_n (k := 1) 1 rfl dX7_add_52) <|
    BS.sq (pc' := 55) (s_iload 5 dX7_add_53) <|
    BS.sq (pc' := 56) (s_baload dX7_add_55) <|
    BS.sq (pc' := 57) (s_iadd dX7_add_56) <|
    BS.sq (pc' := 59) (s_istore 4 (by decide) dX7_add_57) <|
    BS.sq (pc' := 62) (s_iinc 5 1 (1) (by decide +kernel) (by decide) dX7_add_59) <|
    s_goto rfl (by decide) dX7_add_62) <|
  AllB.c (pb := 65) (
    BS.sq (pc' := 66) (s_aload_n (k := 1) 1 rfl dX7_add_65) <|
    BS.sq (pc' := 67) (s_iload_n (k := 2) 2 rfl dX7_add_66) <|
    BS.sq (pc' := 68) (s_aload_n (k := 0) 0 rfl dX7_add_67) <|
    BS.sq (pc' := 71) (s_get 0 inX7 kc9 (by decide) kw4 rfl dX7_add_68) <|
    BS.sq (pc' := 72) (s_aload_n (k := 0) 0 rfl dX7_add_71) <|
    BS.sq (pc' := 75) (s_get 1 inX7 kc9 (by decide) kw6 rfl dX7_add_72) <|
    BS.sq (pc' := 76) (s_aload_n (k := 0) 0 rfl dX7_add_75) <|
    BS.sq (pc' := 79) (s_get 5 inX7 kc9 (by decide) kw14 rfl dX7_add_76) <|
    BS.sq (pc' := 80) (s_iaload dX7_add_79) <|
    BS.sq (pc' := 81) (s_iload_n (k := 3) 3 rfl dX7_add_80) <|
    BS.sq (pc' := 84) (s_acopy kw61 kw62 kw63 kw64 (by decide) (by decide) dX7_add_81) <|
    BS.sq (pc' := 85) (s_aload_n (k := 0) 0 rfl dX7_add_84) <|
    BS.sq (pc' := 88) (s_get 1 inX7 kc9 (by decide) kw6 rfl dX7_add_85) <|
    BS.sq (pc' := 89) (s_aload_n (k := 0) 0 rfl dX7_add_88) <|
    BS.sq (pc' := 92) (s_get 5 inX7 kc9 (by decide) kw14 rfl dX7_add_89) <|
    BS.sq (pc' := 93) (s_iconst 1 (by decide +kernel) dX7_add_92) <|
    BS.sq (pc' := 94) (s_iadd dX7_add_93) <|
    BS.sq (pc' := 95) (s_aload_n (k := 0) 0 rfl dX7_add_94) <|
    BS.sq (pc' := 98) (s_get 1 inX7 kc9 (by decide) kw6 rfl dX7_add_95) <|
    BS.sq (pc' := 99) (s_aload_n (k := 0) 0 rfl dX7_add_98) <|
    BS.sq (pc' := 102) (s_get 5 inX7 kc9 (by decide) kw14 rfl dX7_add_99) <|
    BS.sq (pc' := 103) (s_iaload dX7_add_102) <|
    BS.sq (pc' := 104) (s_iload_n (k := 3) 3 rfl dX7_add_103) <|
    BS.sq (pc' := 105) (s_iadd dX7_add_104) <|
    BS.sq (pc' := 106) (s_iastore dX7_add_105) <|
    BS.sq (pc' := 107) (s_aload_n (k := 0) 0 rfl dX7_add_106) <|
    BS.sq (pc' := 110) (s_get 3 inX7 kc9 (by decide) kw8 rfl dX7_add_107) <|
    BS.sq (pc' := 111) (s_aload_n (k := 0) 0 rfl dX7_add_110) <|
    BS.sq (pc' := 114) (s_get 5 inX7 kc9 (by decide) kw14 rfl dX7_add_111) <|
    BS.sq (pc' := 116) (s_iload 4 dX7_add_114) <|
    BS.sq (pc' := 119) (s_sipush 1023 (by decide +kernel) dX7_add_116) <|
    BS.sq (pc' := 120) (s_iand dX7_add_119) <|
    BS.sq (pc' := 121) (s_iastore dX7_add_120) <|
    BS.sq (pc' := 122) (s_aload_n (k := 0) 0 rfl dX7_add_121) <|
    BS.sq (pc' := 125) (s_get 2 inX7 kc9 (by decide) kw7 rfl dX7_add_122) <|
    BS.sq (pc' := 126) (s_aload_n (k := 0) 0 rfl dX7_add_125) <|
    BS.sq (pc' := 129) (s_get 5 inX7 kc9 (by decide) kw14 rfl dX7_add_126) <|
    BS.sq (pc' := 130) (s_aload_n (k := 0) 0 rfl dX7_add_129) <|
    BS.sq (pc' := 133) (s_get 4 inX7 kc9 (by decide) kw9 rfl dX7_add_130) <|
    BS.sq (pc' := 134) (s_aload_n (k := 0) 0 rfl dX7_add_133) <|
    BS.sq (pc' := 137) (s_get 3 inX7 kc9 (by decide) kw8 rfl dX7_add_134) <|
    BS.sq (pc' := 138) (s_aload_n (k := 0) 0 rfl dX7_add_137) <|
    BS.sq (pc' := 141) (s_get 5 inX7 kc9 (by decide) kw14 rfl dX7_add_138) <|
    BS.sq (pc' := 142) (s_iaload dX7_add_141) <|
    BS.sq (pc' := 143) (s_iaload dX7_add_142) <|
    BS.sq (pc' := 144) (s_iastore dX7_add_143) <|
    BS.sq (pc' := 145) (s_aload_n (k := 0) 0 rfl dX7_add_144) <|
    BS.sq (pc' := 148) (s_get 4 inX7 kc9 (by decide) kw9 rfl dX7_add_145) <|
    BS.sq (pc' := 149) (s_aload_n (k := 0) 0 rfl dX7_add_148) <|
    BS.sq (pc' := 152) (s_get 3 inX7 kc9 (by decide) kw8 rfl dX7_add_149) <|
    BS.sq (pc' := 153) (s_aload_n (k := 0) 0 rfl dX7_add_152) <|
    BS.sq (pc' := 156) (s_get 5 inX7 kc9 (by decide) kw14 rfl dX7_add_153) <|
    BS.sq (pc' := 157) (s_iaload dX7_add_156) <|
    BS.sq (pc' := 158) (s_aload_n (k := 0) 0 rfl dX7_add_157) <|
    BS.sq (pc' := 161) (s_get 5 inX7 kc9 (by decide) kw14 rfl dX7_add_158) <|
    BS.sq (pc' := 162) (s_iastore dX7_add_161) <|
    BS.sq (pc' := 163) (s_aload_n (k := 0) 0 rfl dX7_add_162) <|
    BS.sq (pc' := 164) (s_dup dX7_add_163) <|
    BS.sq (pc' := 167) (s_get 5 inX7 kc9 (by decide) kw14 rfl dX7_add_164) <|
    BS.sq (pc' := 168) (s_dupx1 dX7_add_167) <|
    BS.go rfl) <|
  AllB.c (pb := 168) (
    BS.sq (pc' := 169) (s_iconst 1 (by decide +kernel) dX7_add_168) <|
    BS.sq (pc' := 170) (s_iadd dX7_add_169) <|
    BS.sq (pc' := 173) (s_put tyX7 5 isI inX7 tyX7_ok nmX7 kc9 (by decide) kw14 rfl rfl (okf_I G) dX7_add_170) <|
    s_reti isI rfl okr_I dX7_add_173) <|
  AllB.n)
-- NativeWorks$Line.teach(Ljava/lang/String;)V
noncomputable def bs_X3_teach : List rBl := [sq (h_v (.inl 0)) (sq (h_st isI 2) (sq (h_v (.inl 0)) (sq (h_st isI 3) (t_go 1)))),
  sq (h_ld isI 3) (sq (h_ld isR 1) (sq (h_call 1 (rRecv rFo 0) ev_J0_length_8abf5) (t_icmp (fun a b => rNot (rLt a b)) 6 2))),
  sq (h_ld isI 3) (sq (h_v (.inl 1024)) (t_icmp (fun a b => rNot (rLt a b)) 6 3)),
  sq (h_ld isR 0) (sq (h_get rFo 5 0) (sq (h_ld isI 3) (sq (h_ld isR 1) (sq (h_ld isI 3) (sq (h_call 2 (rRecv rFo 0) ev_J0_charAt_5068e) (sq (h_un (fun a => Nat.ble a 127) (fun a => a)) (sq (h_ast okB) (sq (h_ld isR 0) (sq (h_get rFo 5 0) (sq (h_ld isI 3) (sq (h_ald rFo okB) (sq (h_v (.inl 32)) (t_icmp (fun a b => rNot (rEq a b)) 5 4))))))))))))),
  sq (h_ld isR 0) (sq (h_get rFo 5 1) (sq (h_ld isR 0) (sq (h_get rFo 5 0) (sq (h_ld isI 2) (sq (h_ld isI 3) (sq (h_ld isI 2) (sq (h_bin (fun _ _ => true) rSub) (sq (h_call 4 (rRecv rFo 9) ev_X7_add) (sq (h_pop) (sq (h_ld isI 3) (sq (h_v (.inl 1)) (sq (h_bin (fun _ _ => true) rAdd) (sq (h_st isI 2) (t_go 5)))))))))))))),
  sq (h_inc 3 1) (t_go 1),
  t_ret]
noncomputable def ev_X3_teach : rEv := fun as w n => rIni 4 as (fun ls => rRun bs_X3_teach 100000 0 ls [] w n 0)
set_option maxRecDepth 100000 in
set_option maxHeartbeats 4000000 in
theorem ok_X3_teach (l : Launch) : rMet vwCl rFo rZs rRs rNs rTs l yX3_teach cX3_teach 4 ((Option.none : Option FieldType)) 4 125 ev_X3_teach := met_of (pcs := [0, 4, 12, 19, 42, 62, 68]) (by decide +kernel) rfl (fun G n0 =>
  AllB.c (pb := 0) (
    BS.sq (pc' := 1) (s_iconst 0 (by decide +kernel) dX3_teach_0) <|
    BS.sq (pc' := 2) (s_istore_n (k := 2) 2 rfl (by decide) dX3_teach_1) <|
    BS.sq (pc' := 3) (s_iconst 0 (by decide +kernel) dX3_teach_2) <|
    BS.sq (pc' := 4) (s_istore_n (k := 3) 3 rfl (by decide) dX3_teach_3) <|
    BS.go rfl) <|
  AllB.c (pb := 4) (
    BS.sq (pc' := 5) (s_iload_n (k := 3) 3 rfl dX3_teach_4) <|
    BS.sq (pc' := 6) (s_aload_n (k := 1) 1 rfl dX3_teach_5) <|
    BS.sq (pc' := 9) (s_callV 0 0 kc0 (ok_J0_length_8abf5 l) kGood kw66 kw67 kw68 kw44 kw65 (by decide +kernel) (by decide) (by decide) dX3_teach_6) <|
    s_icmp_ge rfl rfl (by decide) dX3_teach_9) <|
  AllB.c (pb := 12) (
    BS.sq (pc' := 13) (s_iload_n (k := 3) 3 rfl dX3_teach_12) <|
    BS.sq (pc' := 16) (s_sipush 1024 (by decide +kernel) dX3_teach_13) <|
    s_icmp_ge rfl rfl (by decide) dX3_teach_16) <|
  AllB.c (pb := 19) (
    BS.sq (pc' := 20) (s_aload_n (k := 0) 0 rfl dX3_teach_19) <|
    BS.sq (pc' := 23) (s_get 0 inX3 kc5 (by decide) kw69 rfl dX3_teach_20) <|
    BS.sq (pc' := 24) (s_iload_n (k := 3) 3 rfl dX3_teach_23) <|
    BS.sq (pc' := 25) (s_aload_n (k := 1) 1 rfl dX3_teach_24) <|
    BS.sq (pc' := 26) (s_iload_n (k := 3) 3 rfl dX3_teach_25) <|
    BS.sq (pc' := 29) (s_callV 1 0 kc0 (ok_J0_charAt_5068e l) kGood kw71 kw72 kw73 kw44 kw70 (by decide +kernel) (by decide) (by decide) dX3_teach_26) <|
    BS.sq (pc' := 30) (s_i2b dX3_teach_29) <|
    BS.sq (pc' := 31) (s_bastore dX3_teach_30) <|
    BS.sq (pc' := 32) (s_aload_n (k := 0) 0 rfl dX3_teach_31) <|
    BS.sq (pc' := 35) (s_get 0 inX3 kc5 (by decide) kw69 rfl dX3_teach_32) <|
    BS.sq (pc' := 36) (s_iload_n (k := 3) 3 rfl dX3_teach_35) <|
    BS.sq (pc' := 37) (s_baload dX3_teach_36) <|
    BS.sq (pc' := 39) (s_bipush 32 (by decide +kernel) dX3_teach_37) <|
    s_icmp_ne rfl rfl (by decide) dX3_teach_39) <|
  AllB.c (pb := 42) (
    BS.sq (pc' := 43) (s_aload_n (k := 0) 0 rfl dX3_teach_42) <|
    BS.sq (pc' := 46) (s_get 1 inX3 kc5 (by decide) kw74 rfl dX3_teach_43) <|
    BS.sq (pc' := 47) (s_aload_n (k := 0) 0 rfl dX3_teach_46) <|
    BS.sq (pc' := 50) (s_get 0 inX3 kc5 (by decide) kw69 rfl dX3_teach_47) <|
    BS.sq (pc' := 51) (s_iload_n (k := 2) 2 rfl dX3_teach_50) <|
    BS.sq (pc' := 52) (s_iload_n (k := 3) 3 rfl dX3_teach_51) <|
    BS.sq (pc' := 53) (s_iload_n (k := 2) 2 rfl dX3_teach_52) <|
    BS.sq (pc' := 54) (s_isub dX3_teach_53) <|
    BS.sq (pc' := 57) (s_callV 3 9 kc9 (ok_X7_add l) kGood kw76 kw77 kw78 kw18 kw75 (by decide +kernel) (by decide) (by decide) dX3_teach_54) <|
    BS.sq (pc' := 58) (s_pop dX3_teach_57) <|
    BS.sq (pc' := 59) (s_iload_n (k := 3) 3 rfl dX3_teach_58) <|
    BS.sq (pc' := 60) (s_iconst 1 (by decide +kernel) dX3_teach_59) <|
    BS.sq (pc' := 61) (s_iadd dX3_teach_60) <|
    BS.sq (pc' := 62) (s_istore_n (k := 2) 2 rfl (by decide) dX3_teach_61) <|
    BS.go rfl) <|
  AllB.c (pb := 62) (
    BS.sq (pc' := 65) (s_iinc 3 1 (1) (by decide +kernel) (by decide) dX3_teach_62) <|
    s_goto rfl (by decide) dX3_teach_65) <|
  AllB.c (pb := 68) (
    s_ret rfl dX3_teach_68) <|
  AllB.n)
-- NativeWorks$Line.<init>()V
noncomputable def bs_X3_init : List rBl := [sq (h_ld isR 0) (sq (h_oinit) (sq (h_ld isR 0) (sq (h_v (.inl 1024)) (sq (h_newa 2 (.inl 0)) (sq (h_put 5 0 isR) (sq (h_ld isR 0) (sq (h_new 9 6 [.inr (.inr 0), .inr (.inr 0), .inr (.inr 0), .inr (.inr 0), .inr (.inr 0), .inl 0]) (sq (h_dup) (sq (h_v (.inl 200)) (sq (h_v (.inl 1200)) (sq (h_call 3 (rRecv rFo 9) ev_X7_init) (sq (h_put 5 1 isR) (sq (h_ld isR 0) (sq (h_v (.inl 1026)) (sq (h_newa 0 (.inl 0)) (sq (h_put 5 2 isR) (sq (h_ld isR 0) (sq (h_v (.inl 1026)) (sq (h_newa 1 (.inr (.inl 0))) (sq (h_put 5 3 isR) (sq (h_ld isR 0) (sq (h_v (.inl 1026)) (sq (h_newa 0 (.inl 0)) (sq (h_put 5 4 isR) (sq (h_ld isR 0) (sq (h_v (.inl 1026)) (sq (h_newa 0 (.inl 0)) (sq (h_put 5 5 isR) (sq (h_ld isR 0) (sq (h_v (.inr (.inr 2))) (sq (h_call 2 (rRecv rFo 5) ev_X3_teach) (sq (h_ld isR 0) (sq (h_v (.inr (.inr 6))) (sq (h_call 2 (rRecv rFo 5) ev_X3_teach) (sq (h_ld isR 0) (sq (h_v (.inr (.inr 10))) (sq (h_call 2 (rRecv rFo 5) ev_X3_teach) (sq (h_ld isR 0) (sq (h_v (.inr (.inr 14))) (sq (h_call 2 (rRecv rFo 5) ev_X3_teach) (sq (h_ld isR 0) (sq (h_v (.inr (.inr 18))) (sq (h_call 2 (rRecv rFo 5) ev_X3_teach) (sq (h_ld isR 0) (sq (h_v (.inr (.inr 22))) (sq (h_call 2 (rRecv rFo 5) ev_X3_teach) (sq (h_ld isR 0) (sq (h_v (.inr (.inr 26))) (sq (h_call 2 (rRecv rFo 5) ev_X3_teach) (sq (h_ld isR 0) (sq (h_v (.inr (.inr 30))) (sq (h_call 2 (rRecv rFo 5) ev_X3_teach) (sq (h_ld isR 0) (sq (h_v (.inr (.inr 34))) (sq (h_call 2 (rRecv rFo 5) ev_X3_teach) (sq (h_ld isR 0) (sq (h_v (.inr (.inr 38))) (sq (h_call 2 (rRecv rFo 5) ev_X3_teach) (sq (h_ld isR 0) (t_go 1)))))))))))))))))))))))))))))))))))))))))))))))))))))))))))),
  sq (h_v (.inr (.inr 42))) (sq (h_call 2 (rRecv rFo 5) ev_X3_teach) (sq (h_ld isR 0) (sq (h_v (.inr (.inr 46))) (sq (h_call 2 (rRecv rFo 5) ev_X3_teach) (sq (h_ld isR 0) (sq (h_v (.inr (.inr 50))) (sq (h_call 2 (rRecv rFo 5) ev_X3_teach) (sq (h_ld isR 0) (sq (h_v (.inr (.inr 54))) (sq (h_call 2 (rRecv rFo 5) ev_X3_teach) (sq (h_ld isR 0) (sq (h_v (.inr (.inr 58))) (sq (h_call 2 (rRecv rFo 5) ev_X3_teach) (sq (h_ld isR 0) (sq (h_v (.inr (.inr 62))) (sq (h_call 2 (rRecv rFo 5) ev_X3_teach) (sq (h_ld isR 0) (sq (h_v (.inr (.inr 66))) (sq (h_call 2 (rRecv rFo 5) ev_X3_teach) (t_ret))))))))))))))))))))]
noncomputable def ev_X3_init : rEv := fun as w n => rIni 1 as (fun ls => rRun bs_X3_init 100000 0 ls [] w n 0)
set_option maxRecDepth 100000 in
set_option maxHeartbeats 4000000 in
theorem ok_X3_init (l : Launch) : rMet vwCl rFo rZs rRs rNs rTs l yX3_init cX3_init 1 ((Option.none : Option FieldType)) 5 148 ev_X3_init := met_of (pcs := [0, 127]) (by decide +kernel) rfl (fun G n0 =>
  AllB.c (pb := 0) (
    BS.sq (pc' := 1) (s_aload_n (k := 0) 0 rfl dX3_init_0) <|
    BS.sq (pc' := 4) (s_oinit kw79 kw2 kwObj (by decide) (by decide) dX3_init_1) <|
    BS.sq (pc' := 5) (s_aload_n (k := 0) 0 rfl dX3_init_4) <|
    BS.sq (pc' := 8) (s_sipush 1024 (by decide +kernel) dX3_init_5) <|
    BS.sq (pc' := 10) (s_newa 2 (.inl 0) (by decide) rfl rfl (fun _ _ h => h) (by decide) kw3 dX3_init_8) <|
    BS.sq (pc' := 13) (s_putF tyX3 0 isR inX3 tyX3_ok nmX3 kc5 (by decide) kw69 rfl rfl rfl rfl (okf_A G _) dX3_init_10) <|
    BS.sq (pc' := 14) (s_aload_n (k := 0) 0 rfl dX3_init_13) <|
    BS.sq (pc' := 17) (s_new tyX7 inX7 tyX7_ok kc9 kw80 kw17 kw18 rfl rfl dX3_init_14) <|
    BS.sq (pc' := 18) (s_dup dX3_init_17) <|
    BS.sq (pc' := 21) (s_sipush 200 (by decide +kernel) dX3_init_18) <|
    BS.sq (pc' := 24) (s_sipush 1200 (by decide +kernel) dX3_init_21) <|
    BS.sq (pc' := 27) (s_callI 2 9 kc9 (ok_X7_init l) kGood kw81 kw22 kw18 kw20 rfl (by decide +kernel) (by decide) (by decide) dX3_init_24) <|
    BS.sq (pc' := 30) (s_putF tyX3 1 isR inX3 tyX3_ok nmX3 kc5 (by decide) kw74 rfl rfl rfl rfl (okf_O G _) dX3_init_27) <|
    BS.sq (pc' := 31) (s_aload_n (k := 0) 0 rfl dX3_init_30) <|
    BS.sq (pc' := 34) (s_sipush 1026 (by decide +kernel) dX3_init_31) <|
    BS.sq (pc' := 36) (s_newa 0 (.inl 0) (by decide) rfl rfl (fun _ _ h => h) (by decide) kw5 dX3_init_34) <|
    BS.sq (pc' := 39) (s_putF tyX3 2 isR inX3 tyX3_ok nmX3 kc5 (by decide) kw82 rfl rfl rfl rfl (okf_A G _) dX3_init_36) <|
    BS.sq (pc' := 40) (s_aload_n (k := 0) 0 rfl dX3_init_39) <|
    BS.sq (pc' := 43) (s_sipush 1026 (by decide +kernel) dX3_init_40) <|
    BS.sq (pc' := 45) (s_newa 1 (.inr (.inl 0)) (by decide) rfl rfl (fun _ _ h => h) (by decide) kw26 dX3_init_43) <|
    BS.sq (pc' := 48) (s_putF tyX3 3 isR inX3 tyX3_ok nmX3 kc5 (by decide) kw83 rfl rfl rfl rfl (okf_A G _) dX3_init_45) <|
    BS.sq (pc' := 49) (s_aload_n (k := 0) 0 rfl dX3_init_48) <|
    BS.sq (pc' := 52) (s_sipush 1026 (by decide +kernel) dX3_init_49) <|
    BS.sq (pc' := 54) (s_newa 0 (.inl 0) (by decide) rfl rfl (fun _ _ h => h) (by decide) kw5 dX3_init_52) <|
    BS.sq (pc' := 57) (s_putF tyX3 4 isR inX3 tyX3_ok nmX3 kc5 (by decide) kw84 rfl rfl rfl rfl (okf_A G _) dX3_init_54) <|
    BS.sq (pc' := 58) (s_aload_n (k := 0) 0 rfl dX3_init_57) <|
    BS.sq (pc' := 61) (s_sipush 1026 (by decide +kernel) dX3_init_58) <|
    BS.sq (pc' := 63) (s_newa 0 (.inl 0) (by decide) rfl rfl (fun _ _ h => h) (by decide) kw5 dX3_init_61) <|
    BS.sq (pc' := 66) (s_putF tyX3 5 isR inX3 tyX3_ok nmX3 kc5 (by decide) kw85 rfl rfl rfl rfl (okf_A G _) dX3_init_63) <|
    BS.sq (pc' := 67) (s_aload_n (k := 0) 0 rfl dX3_init_66) <|
    BS.sq (pc' := 69) (s_ldcS 0 kr0 dX3_init_67) <|
    BS.sq (pc' := 72) (s_callV 1 5 kc5 (ok_X3_teach l) kGood kw87 kw88 kw89 kw90 kw86 (by decide +kernel) (by decide) (by decide) dX3_init_69) <|
    BS.sq (pc' := 73) (s_aload_n (k := 0) 0 rfl dX3_init_72) <|
    BS.sq (pc' := 75) (s_ldcS 2 kr1 dX3_init_73) <|
    BS.sq (pc' := 78) (s_callV 1 5 kc5 (ok_X3_teach l) kGood kw87 kw88 kw89 kw90 kw86 (by decide +kernel) (by decide) (by decide) dX3_init_75) <|
    BS.sq (pc' := 79) (s_aload_n (k := 0) 0 rfl dX3_init_78) <|
    BS.sq (pc' := 81) (s_ldcS 4 kr2 dX3_init_79) <|
    BS.sq (pc' := 84) (s_callV 1 5 kc5 (ok_X3_teach l) kGood kw87 kw88 kw89 kw90 kw86 (by decide +kernel) (by decide) (by decide) dX3_init_81) <|
    BS.sq (pc' := 85) (s_aload_n (k := 0) 0 rfl dX3_init_84) <|
    BS.sq (pc' := 87) (s_ldcS 6 kr3 dX3_init_85) <|
    BS.sq (pc' := 90) (s_callV 1 5 kc5 (ok_X3_teach l) kGood kw87 kw88 kw89 kw90 kw86 (by decide +kernel) (by decide) (by decide) dX3_init_87) <|
    BS.sq (pc' := 91) (s_aload_n (k := 0) 0 rfl dX3_init_90) <|
    BS.sq (pc' := 93) (s_ldcS 8 kr4 dX3_init_91) <|
    BS.sq (pc' := 96) (s_callV 1 5 kc5 (ok_X3_teach l) kGood kw87 kw88 kw89 kw90 kw86 (by decide +kernel) (by decide) (by decide) dX3_init_93) <|
    BS.sq (pc' := 97) (s_aload_n (k := 0) 0 rfl dX3_init_96) <|
    BS.sq (pc' := 99) (s_ldcS 10 kr5 dX3_init_97) <|
    BS.sq (pc' := 102) (s_callV 1 5 kc5 (ok_X3_teach l) kGood kw87 kw88 kw89 kw90 kw86 (by decide +kernel) (by decide) (by decide) dX3_init_99) <|
    BS.sq (pc' := 103) (s_aload_n (k := 0) 0 rfl dX3_init_102) <|
    BS.sq (pc' := 105) (s_ldcS 12 kr6 dX3_init_103) <|
    BS.sq (pc' := 108) (s_callV 1 5 kc5 (ok_X3_teach l) kGood kw87 kw88 kw89 kw90 kw86 (by decide +kernel) (by decide) (by decide) dX3_init_105) <|
    BS.sq (pc' := 109) (s_aload_n (k := 0) 0 rfl dX3_init_108) <|
    BS.sq (pc' := 111) (s_ldcS 14 kr7 dX3_init_109) <|
    BS.sq (pc' := 114) (s_callV 1 5 kc5 (ok_X3_teach l) kGood kw87 kw88 kw89 kw90 kw86 (by decide +kernel) (by decide) (by decide) dX3_init_111) <|
    BS.sq (pc' := 115) (s_aload_n (k := 0) 0 rfl dX3_init_114) <|
    BS.sq (pc' := 117) (s_ldcS 16 kr8 dX3_init_115) <|
    BS.sq (pc' := 120) (s_callV 1 5 kc5 (ok_X3_teach l) kGood kw87 kw88 kw89 kw90 kw86 (by decide +kernel) (by decide) (by decide) dX3_init_117) <|
    BS.sq (pc' := 121) (s_aload_n (k := 0) 0 rfl dX3_init_120) <|
    BS.sq (pc' := 123) (s_ldcS 18 kr9 dX3_init_121) <|
    BS.sq (pc' := 126) (s_callV 1 5 kc5 (ok_X3_teach l) kGood kw87 kw88 kw89 kw90 kw86 (by decide +kernel) (by decide) (by decide) dX3_init_123) <|
    BS.sq (pc' := 127) (s_aload_n (k := 0) 0 rfl dX3_init_126) <|
    BS.go rfl) <|
  AllB.c (pb := 127) (
    BS.sq (pc' := 129) (s_ldcS 20 kr10 dX3_init_127) <|
    BS.sq (pc' := 132) (s_callV 1 5 kc5 (ok_X3_teach l) kGood kw87 kw88 kw89 kw90 kw86 (by decide +kernel) (by decide) (by decide) dX3_init_129) <|
    BS.sq (pc' := 133) (s_aload_n (k := 0) 0 rfl dX3_init_132) <|
    BS.sq (pc' := 135) (s_ldcS 22 kr11 dX3_init_133) <|
    BS.sq (pc' := 138) (s_callV 1 5 kc5 (ok_X3_teach l) kGood kw87 kw88 kw89 kw90 kw86 (by decide +kernel) (by decide) (by decide) dX3_init_135) <|
    BS.sq (pc' := 139) (s_aload_n (k := 0) 0 rfl dX3_init_138) <|
    BS.sq (pc' := 141) (s_ldcS 24 kr12 dX3_init_139) <|
    BS.sq (pc' := 144) (s_callV 1 5 kc5 (ok_X3_teach l) kGood kw87 kw88 kw89 kw90 kw86 (by decide +kernel) (by decide) (by decide) dX3_init_141) <|
    BS.sq (pc' := 145) (s_aload_n (k := 0) 0 rfl dX3_init_144) <|
    BS.sq (pc' := 147) (s_ldcS 26 kr13 dX3_init_145) <|
    BS.sq (pc' := 150) (s_callV 1 5 kc5 (ok_X3_teach l) kGood kw87 kw88 kw89 kw90 kw86 (by decide +kernel) (by decide) (by decide) dX3_init_147) <|
    BS.sq (pc' := 151) (s_aload_n (k := 0) 0 rfl dX3_init_150) <|
    BS.sq (pc' := 153) (s_ldcS 28 kr14 dX3_init_151) <|
    BS.sq (pc' := 156) (s_callV 1 5 kc5 (ok_X3_teach l) kGood kw87 kw88 kw89 kw90 kw86 (by decide +kernel) (by decide) (by decide) dX3_init_153) <|
    BS.sq (pc' := 157) (s_aload_n (k := 0) 0 rfl dX3_init_156) <|
    BS.sq (pc' := 159) (s_ldcS 30 kr15 dX3_init_157) <|
    BS.sq (pc' := 162) (s_callV 1 5 kc5 (ok_X3_teach l) kGood kw87 kw88 kw89 kw90 kw86 (by decide +kernel) (by decide) (by decide) dX3_init_159) <|
    BS.sq (pc' := 163) (s_aload_n (k := 0) 0 rfl dX3_init_162) <|
    BS.sq (pc' := 165) (s_ldcS 32 kr16 dX3_init_163) <|
    BS.sq (pc' := 168) (s_callV 1 5 kc5 (ok_X3_teach l) kGood kw87 kw88 kw89 kw90 kw86 (by decide +kernel) (by decide) (by decide) dX3_init_165) <|
    s_ret rfl dX3_init_168) <|
  AllB.n)
-- NativeWorks$Source.<init>([BLNativeWorks$Names;)V
noncomputable def bs_X9_init : List rBl := [sq (h_ld isR 0) (sq (h_oinit) (sq (h_ld isR 0) (sq (h_ld isR 1) (sq (h_put 11 0 isR) (sq (h_ld isR 0) (sq (h_ld isR 2) (sq (h_put 11 1 isR) (sq (h_ld isR 0) (sq (h_v (.inl 65538)) (sq (h_newa 0 (.inl 0)) (sq (h_put 11 2 isR) (sq (h_ld isR 0) (sq (h_v (.inl 65537)) (sq (h_newa 2 (.inl 0)) (sq (h_put 11 3 isR) (sq (h_ld isR 0) (sq (h_v (.inl 65538)) (sq (h_newa 0 (.inl 0)) (sq (h_put 11 4 isR) (sq (h_ld isR 0) (sq (h_v (.inl 65538)) (sq (h_newa 0 (.inl 0)) (sq (h_put 11 5 isR) (sq (h_ld isR 0) (sq (h_v (.inl 65538)) (sq (h_newa 0 (.inl 0)) (sq (h_put 11 6 isR) (sq (h_ld isR 0) (sq (h_new 9 6 [.inr (.inr 0), .inr (.inr 0), .inr (.inr 0), .inr (.inr 0), .inr (.inr 0), .inl 0]) (sq (h_dup) (sq (h_v (.inl 5500)) (sq (h_v (.inl 65536)) (sq (h_call 3 (rRecv rFo 9) ev_X7_init) (sq (h_put 11 7 isR) (sq (h_ld isR 0) (sq (h_v (.inl 5500)) (sq (h_newa 0 (.inl 0)) (sq (h_put 11 8 isR) (sq (h_ld isR 0) (sq (h_v (.inl 5500)) (sq (h_newa 0 (.inl 0)) (sq (h_put 11 9 isR) (sq (h_ld isR 0) (sq (h_v (.inl 5501)) (sq (h_newa 0 (.inl 0)) (sq (h_put 11 10 isR) (sq (h_ld isR 0) (sq (h_v (.inl 32768)) (sq (h_newa 0 (.inl 0)) (sq (h_put 11 11 isR) (sq (h_ld isR 0) (sq (h_v (.inl 32768)) (sq (h_newa 0 (.inl 0)) (sq (h_put 11 12 isR) (sq (h_ld isR 0) (sq (h_v (.inl 0)) (sq (h_put 11 13 isI) (t_ret))))))))))))))))))))))))))))))))))))))))))))))))))))))))))]
noncomputable def ev_X9_init : rEv := fun as w n => rIni 3 as (fun ls => rRun bs_X9_init 100000 0 ls [] w n 0)
set_option maxRecDepth 100000 in
set_option maxHeartbeats 4000000 in
theorem ok_X9_init (l : Launch) : rMet vwCl rFo rZs rRs rNs rTs l yX9_init cX9_init 3 ((Option.none : Option FieldType)) 2 45 ev_X9_init := met_of (pcs := [0]) (by decide +kernel) rfl (fun G n0 =>
  AllB.c (pb := 0) (
    BS.sq (pc' := 1) (s_aload_n (k := 0) 0 rfl dX9_init_0) <|
    BS.sq (pc' := 4) (s_oinit kw91 kw2 kwObj (by decide) (by decide) dX9_init_1) <|
    BS.sq (pc' := 5) (s_aload_n (k := 0) 0 rfl dX9_init_4) <|
    BS.sq (pc' := 6) (s_aload_n (k := 1) 1 rfl dX9_init_5) <|
    BS.sq (pc' := 9) (s_putF tyX9 0 isR inX9 tyX9_ok nmX9 kc11 (by decide) kw92 rfl rfl rfl rfl (okf_A G _) dX9_init_6) <|
    BS.sq (pc' := 10) (s_aload_n (k := 0) 0 rfl dX9_init_9) <|
    BS.sq (pc' := 11) (s_aload_n (k := 2) 2 rfl dX9_init_10) <|
    BS.sq (pc' := 14) (s_putF tyX9 1 isR inX9 tyX9_ok nmX9 kc11 (by decide) kw93 rfl rfl rfl rfl (okf_O G _) dX9_init_11) <|
    BS.sq (pc' := 15) (s_aload_n (k := 0) 0 rfl dX9_init_14) <|
    BS.sq (pc' := 17) (s_ldc 65538 kw94 dX9_init_15) <|
    BS.sq (pc' := 19) (s_newa 0 (.inl 0) (by decide) rfl rfl (fun _ _ h => h) (by decide) kw5 dX9_init_17) <|
    BS.sq (pc' := 22) (s_putF tyX9 2 isR inX9 tyX9_ok nmX9 kc11 (by decide) kw95 rfl rfl rfl rfl (okf_A G _) dX9_init_19) <|
    BS.sq (pc' := 23) (s_aload_n (k := 0) 0 rfl dX9_init_22) <|
    BS.sq (pc' := 25) (s_ldc 65537 kw96 dX9_init_23) <|
    BS.sq (pc' := 27) (s_newa 2 (.inl 0) (by decide) rfl rfl (fun _ _ h => h) (by decide) kw3 dX9_init_25) <|
    BS.sq (pc' := 30) (s_putF tyX9 3 isR inX9 tyX9_ok nmX9 kc11 (by decide) kw97 rfl rfl rfl rfl (okf_A G _) dX9_init_27) <|
    BS.sq (pc' := 31) (s_aload_n (k := 0) 0 rfl dX9_init_30) <|
    BS.sq (pc' := 33) (s_ldc 65538 kw94 dX9_init_31) <|
    BS.sq (pc' := 35) (s_newa 0 (.inl 0) (by decide) rfl rfl (fun _ _ h => h) (by decide) kw5 dX9_init_33) <|
    BS.sq (pc' := 38) (s_putF tyX9 4 isR inX9 tyX9_ok nmX9 kc11 (by decide) kw98 rfl rfl rfl rfl (okf_A G _) dX9_init_35) <|
    BS.sq (pc' := 39) (s_aload_n (k := 0) 0 rfl dX9_init_38) <|
    BS.sq (pc' := 41) (s_ldc 65538 kw94 dX9_init_39) <|
    BS.sq (pc' := 43) (s_newa 0 (.inl 0) (by decide) rfl rfl (fun _ _ h => h) (by decide) kw5 dX9_init_41) <|
    BS.sq (pc' := 46) (s_putF tyX9 5 isR inX9 tyX9_ok nmX9 kc11 (by decide) kw99 rfl rfl rfl rfl (okf_A G _) dX9_init_43) <|
    BS.sq (pc' := 47) (s_aload_n (k := 0) 0 rfl dX9_init_46) <|
    BS.sq (pc' := 49) (s_ldc 65538 kw94 dX9_init_47) <|
    BS.sq (pc' := 51) (s_newa 0 (.inl 0) (by decide) rfl rfl (fun _ _ h => h) (by decide) kw5 dX9_init_49) <|
    BS.sq (pc' := 54) (s_putF tyX9 6 isR inX9 tyX9_ok nmX9 kc11 (by decide) kw100 rfl rfl rfl rfl (okf_A G _) dX9_init_51) <|
    BS.sq (pc' := 55) (s_aload_n (k := 0) 0 rfl dX9_init_54) <|
    BS.sq (pc' := 58) (s_new tyX7 inX7 tyX7_ok kc9 kw101 kw17 kw18 rfl rfl dX9_init_55) <|
    BS.sq (pc' := 59) (s_dup dX9_init_58) <|
    BS.sq (pc' := 62) (s_sipush 5500 (by decide +kernel) dX9_init_59) <|
    BS.sq (pc' := 64) (s_ldc 65536 kw102 dX9_init_62) <|
    BS.sq (pc' := 67) (s_callI 2 9 kc9 (ok_X7_init l) kGood kw103 kw22 kw18 kw20 rfl (by decide +kernel) (by decide) (by decide) dX9_init_64) <|
    BS.sq (pc' := 70) (s_putF tyX9 7 isR inX9 tyX9_ok nmX9 kc11 (by decide) kw104 rfl rfl rfl rfl (okf_O G _) dX9_init_67) <|
    BS.sq (pc' := 71) (s_aload_n (k := 0) 0 rfl dX9_init_70) <|
    BS.sq (pc' := 74) (s_sipush 5500 (by decide +kernel) dX9_init_71) <|
    BS.sq (pc' := 76) (s_newa 0 (.inl 0) (by decide) rfl rfl (fun _ _ h => h) (by decide) kw5 dX9_init_74) <|
    BS.sq (pc' := 79) (s_putF tyX9 8 isR inX9 tyX9_ok nmX9 kc11 (by decide) kw105 rfl rfl rfl rfl (okf_A G _) dX9_init_76) <|
    BS.sq (pc' := 80) (s_aload_n (k := 0) 0 rfl dX9_init_79) <|
    BS.sq (pc' := 83) (s_sipush 5500 (by decide +kernel) dX9_init_80) <|
    BS.sq (pc' := 85) (s_newa 0 (.inl 0) (by decide) rfl rfl (fun _ _ h => h) (by decide) kw5 dX9_init_83) <|
    BS.sq (pc' := 88) (s_putF tyX9 9 isR inX9 tyX9_ok nmX9 kc11 (by decide) kw106 rfl rfl rfl rfl (okf_A G _) dX9_init_85) <|
    BS.sq (pc' := 89) (s_aload_n (k := 0) 0 rfl dX9_init_88) <|
    BS.sq (pc' := 92) (s_sipush 5501 (by decide +kernel) dX9_init_89) <|
    BS.sq (pc' := 94) (s_newa 0 (.inl 0) (by decide) rfl rfl (fun _ _ h => h) (by decide) kw5 dX9_init_92) <|
    BS.sq (pc' := 97) (s_putF tyX9 10 isR inX9 tyX9_ok nmX9 kc11 (by decide) kw107 rfl rfl rfl rfl (okf_A G _) dX9_init_94) <|
    BS.sq (pc' := 98) (s_aload_n (k := 0) 0 rfl dX9_init_97) <|
    BS.sq (pc' := 100) (s_ldc 32768 kw108 dX9_init_98) <|
    BS.sq (pc' := 102) (s_newa 0 (.inl 0) (by decide) rfl rfl (fun _ _ h => h) (by decide) kw5 dX9_init_100) <|
    BS.sq (pc' := 105) (s_putF tyX9 11 isR inX9 tyX9_ok nmX9 kc11 (by decide) kw109 rfl rfl rfl rfl (okf_A G _) dX9_init_102) <|
    BS.sq (pc' := 106) (s_aload_n (k := 0) 0 rfl dX9_init_105) <|
    BS.sq (pc' := 108) (s_ldc 32768 kw108 dX9_init_106) <|
    BS.sq (pc' := 110) (s_newa 0 (.inl 0) (by decide) rfl rfl (fun _ _ h => h) (by decide) kw5 dX9_init_108) <|
    BS.sq (pc' := 113) (s_putF tyX9 12 isR inX9 tyX9_ok nmX9 kc11 (by decide) kw110 rfl rfl rfl rfl (okf_A G _) dX9_init_110) <|
    BS.sq (pc' := 114) (s_aload_n (k := 0) 0 rfl dX9_init_113) <|
    BS.sq (pc' := 115) (s_iconst 0 (by decide +kernel) dX9_init_114) <|
    BS.sq (pc' := 118) (s_put tyX9 13 isI inX9 tyX9_ok nmX9 kc11 (by decide) kw111 rfl rfl (okf_I G) dX9_init_115) <|
    s_ret rfl dX9_init_118) <|
  AllB.n)
-- NativeWorks$Reader.<init>(LNativeWorks$Source;LNativeWorks$Line;)V
noncomputable def bs_X8_init : List rBl := [sq (h_ld isR 0) (sq (h_oinit) (sq (h_ld isR 0) (sq (h_ld isR 1) (sq (h_put 10 0 isR) (sq (h_ld isR 0) (sq (h_ld isR 2) (sq (h_put 10 1 isR) (sq (h_ld isR 0) (sq (h_v (.inl 21)) (sq (h_newa 0 (.inl 0)) (sq (h_put 10 3 isR) (sq (h_ld isR 0) (sq (h_v (.inl 21)) (sq (h_newa 0 (.inl 0)) (sq (h_put 10 4 isR) (sq (h_ld isR 0) (sq (h_v (.inl 21)) (sq (h_newa 0 (.inl 0)) (sq (h_put 10 5 isR) (sq (h_ld isR 0) (sq (h_v (.inl 21)) (sq (h_newa 0 (.inl 0)) (sq (h_put 10 6 isR) (sq (h_ld isR 0) (sq (h_v (.inl 21)) (sq (h_newa 0 (.inl 0)) (sq (h_put 10 7 isR) (sq (h_ld isR 0) (sq (h_v (.inl 21)) (sq (h_newa 0 (.inl 0)) (sq (h_put 10 8 isR) (sq (h_ld isR 0) (sq (h_v (.inl 21)) (sq (h_newa 0 (.inl 0)) (sq (h_put 10 9 isR) (sq (h_ld isR 0) (sq (h_v (.inl 21)) (sq (h_newa 0 (.inl 0)) (sq (h_put 10 10 isR) (sq (h_ld isR 0) (sq (h_v (.inl 21504)) (sq (h_newa 2 (.inl 0)) (sq (h_put 10 11 isR) (sq (h_ld isR 0) (sq (h_v (.inl 10752)) (sq (h_newa 0 (.inl 0)) (sq (h_put 10 12 isR) (sq (h_ld isR 0) (sq (h_v (.inl 10752)) (sq (h_newa 0 (.inl 0)) (sq (h_put 10 13 isR) (sq (h_ld isR 0) (sq (h_v (.inl 20)) (sq (h_newa 3 (.inl 0)) (sq (h_put 10 14 isR) (t_ret))))))))))))))))))))))))))))))))))))))))))))))))))))))))]
noncomputable def ev_X8_init : rEv := fun as w n => rIni 3 as (fun ls => rRun bs_X8_init 100000 0 ls [] w n 0)
set_option maxRecDepth 100000 in
set_option maxHeartbeats 4000000 in
theorem ok_X8_init (l : Launch) : rMet vwCl rFo rZs rRs rNs rTs l yX8_init cX8_init 3 ((Option.none : Option FieldType)) 1 20 ev_X8_init := met_of (pcs := [0]) (by decide +kernel) rfl (fun G n0 =>
  AllB.c (pb := 0) (
    BS.sq (pc' := 1) (s_aload_n (k := 0) 0 rfl dX8_init_0) <|
    BS.sq (pc' := 4) (s_oinit kw112 kw2 kwObj (by decide) (by decide) dX8_init_1) <|
    BS.sq (pc' := 5) (s_aload_n (k := 0) 0 rfl dX8_init_4) <|
    BS.sq (pc' := 6) (s_aload_n (k := 1) 1 rfl dX8_init_5) <|
    BS.sq (pc' := 9) (s_putF tyX8 0 isR inX8 tyX8_ok nmX8 kc10 (by decide) kw113 rfl rfl rfl rfl (okf_O G _) dX8_init_6) <|
    BS.sq (pc' := 10) (s_aload_n (k := 0) 0 rfl dX8_init_9) <|
    BS.sq (pc' := 11) (s_aload_n (k := 2) 2 rfl dX8_init_10) <|
    BS.sq (pc' := 14) (s_putF tyX8 1 isR inX8 tyX8_ok nmX8 kc10 (by decide) kw114 rfl rfl rfl rfl (okf_O G _) dX8_init_11) <|
    BS.sq (pc' := 15) (s_aload_n (k := 0) 0 rfl dX8_init_14) <|
    BS.sq (pc' := 17) (s_bipush 21 (by decide +kernel) dX8_init_15) <|
    BS.sq (pc' := 19) (s_newa 0 (.inl 0) (by decide) rfl rfl (fun _ _ h => h) (by decide) kw5 dX8_init_17) <|
    BS.sq (pc' := 22) (s_putF tyX8 3 isR inX8 tyX8_ok nmX8 kc10 (by decide) kw115 rfl rfl rfl rfl (okf_A G _) dX8_init_19) <|
    BS.sq (pc' := 23) (s_aload_n (k := 0) 0 rfl dX8_init_22) <|
    BS.sq (pc' := 25) (s_bipush 21 (by decide +kernel) dX8_init_23) <|
    BS.sq (pc' := 27) (s_newa 0 (.inl 0) (by decide) rfl rfl (fun _ _ h => h) (by decide) kw5 dX8_init_25) <|
    BS.sq (pc' := 30) (s_putF tyX8 4 isR inX8 tyX8_ok nmX8 kc10 (by decide) kw116 rfl rfl rfl rfl (okf_A G _) dX8_init_27) <|
    BS.sq (pc' := 31) (s_aload_n (k := 0) 0 rfl dX8_init_30) <|
    BS.sq (pc' := 33) (s_bipush 21 (by decide +kernel) dX8_init_31) <|
    BS.sq (pc' := 35) (s_newa 0 (.inl 0) (by decide) rfl rfl (fun _ _ h => h) (by decide) kw5 dX8_init_33) <|
    BS.sq (pc' := 38) (s_putF tyX8 5 isR inX8 tyX8_ok nmX8 kc10 (by decide) kw117 rfl rfl rfl rfl (okf_A G _) dX8_init_35) <|
    BS.sq (pc' := 39) (s_aload_n (k := 0) 0 rfl dX8_init_38) <|
    BS.sq (pc' := 41) (s_bipush 21 (by decide +kernel) dX8_init_39) <|
    BS.sq (pc' := 43) (s_newa 0 (.inl 0) (by decide) rfl rfl (fun _ _ h => h) (by decide) kw5 dX8_init_41) <|
    BS.sq (pc' := 46) (s_putF tyX8 6 isR inX8 tyX8_ok nmX8 kc10 (by decide) kw118 rfl rfl rfl rfl (okf_A G _) dX8_init_43) <|
    BS.sq (pc' := 47) (s_aload_n (k := 0) 0 rfl dX8_init_46) <|
    BS.sq (pc' := 49) (s_bipush 21 (by decide +kernel) dX8_init_47) <|
    BS.sq (pc' := 51) (s_newa 0 (.inl 0) (by decide) rfl rfl (fun _ _ h => h) (by decide) kw5 dX8_init_49) <|
    BS.sq (pc' := 54) (s_putF tyX8 7 isR inX8 tyX8_ok nmX8 kc10 (by decide) kw119 rfl rfl rfl rfl (okf_A G _) dX8_init_51) <|
    BS.sq (pc' := 55) (s_aload_n (k := 0) 0 rfl dX8_init_54) <|
    BS.sq (pc' := 57) (s_bipush 21 (by decide +kernel) dX8_init_55) <|
    BS.sq (pc' := 59) (s_newa 0 (.inl 0) (by decide) rfl rfl (fun _ _ h => h) (by decide) kw5 dX8_init_57) <|
    BS.sq (pc' := 62) (s_putF tyX8 8 isR inX8 tyX8_ok nmX8 kc10 (by decide) kw120 rfl rfl rfl rfl (okf_A G _) dX8_init_59) <|
    BS.sq (pc' := 63) (s_aload_n (k := 0) 0 rfl dX8_init_62) <|
    BS.sq (pc' := 65) (s_bipush 21 (by decide +kernel) dX8_init_63) <|
    BS.sq (pc' := 67) (s_newa 0 (.inl 0) (by decide) rfl rfl (fun _ _ h => h) (by decide) kw5 dX8_init_65) <|
    BS.sq (pc' := 70) (s_putF tyX8 9 isR inX8 tyX8_ok nmX8 kc10 (by decide) kw121 rfl rfl rfl rfl (okf_A G _) dX8_init_67) <|
    BS.sq (pc' := 71) (s_aload_n (k := 0) 0 rfl dX8_init_70) <|
    BS.sq (pc' := 73) (s_bipush 21 (by decide +kernel) dX8_init_71) <|
    BS.sq (pc' := 75) (s_newa 0 (.inl 0) (by decide) rfl rfl (fun _ _ h => h) (by decide) kw5 dX8_init_73) <|
    BS.sq (pc' := 78) (s_putF tyX8 10 isR inX8 tyX8_ok nmX8 kc10 (by decide) kw122 rfl rfl rfl rfl (okf_A G _) dX8_init_75) <|
    BS.sq (pc' := 79) (s_aload_n (k := 0) 0 rfl dX8_init_78) <|
    BS.sq (pc' := 82) (s_sipush 21504 (by decide +kernel) dX8_init_79) <|
    BS.sq (pc' := 84) (s_newa 2 (.inl 0) (by decide) rfl rfl (fun _ _ h => h) (by decide) kw3 dX8_init_82) <|
    BS.sq (pc' := 87) (s_putF tyX8 11 isR inX8 tyX8_ok nmX8 kc10 (by decide) kw123 rfl rfl rfl rfl (okf_A G _) dX8_init_84) <|
    BS.sq (pc' := 88) (s_aload_n (k := 0) 0 rfl dX8_init_87) <|
    BS.sq (pc' := 91) (s_sipush 10752 (by decide +kernel) dX8_init_88) <|
    BS.sq (pc' := 93) (s_newa 0 (.inl 0) (by decide) rfl rfl (fun _ _ h => h) (by decide) kw5 dX8_init_91) <|
    BS.sq (pc' := 96) (s_putF tyX8 12 isR inX8 tyX8_ok nmX8 kc10 (by decide) kw124 rfl rfl rfl rfl (okf_A G _) dX8_init_93) <|
    BS.sq (pc' := 97) (s_aload_n (k := 0) 0 rfl dX8_init_96) <|
    BS.sq (pc' := 100) (s_sipush 10752 (by decide +kernel) dX8_init_97) <|
    BS.sq (pc' := 102) (s_newa 0 (.inl 0) (by decide) rfl rfl (fun _ _ h => h) (by decide) kw5 dX8_init_100) <|
    BS.sq (pc' := 105) (s_putF tyX8 13 isR inX8 tyX8_ok nmX8 kc10 (by decide) kw125 rfl rfl rfl rfl (okf_A G _) dX8_init_102) <|
    BS.sq (pc' := 106) (s_aload_n (k := 0) 0 rfl dX8_init_105) <|
    BS.sq (pc' := 108) (s_bipush 20 (by decide +kernel) dX8_init_106) <|
    BS.sq (pc' := 110) (s_newa 3 (.inl 0) (by decide) rfl rfl (fun _ _ h => h) (by decide) kw126 dX8_init_108) <|
    BS.sq (pc' := 113) (s_putF tyX8 14 isR inX8 tyX8_ok nmX8 kc10 (by decide) kw127 rfl rfl rfl rfl (okf_A G _) dX8_init_110) <|
    s_ret rfl dX8_init_113) <|
  AllB.n)
-- NativeWorks$Expression.<init>(LNativeWorks$Line;LNativeWorks$Units;)V
noncomputable def bs_X1_init : List rBl := [sq (h_ld isR 0) (sq (h_oinit) (sq (h_ld isR 0) (sq (h_ld isR 1) (sq (h_put 3 0 isR) (sq (h_ld isR 0) (sq (h_ld isR 2) (sq (h_put 3 1 isR) (sq (h_ld isR 0) (sq (h_v (.inl 1026)) (sq (h_newa 1 (.inr (.inl 0))) (sq (h_put 3 2 isR) (sq (h_ld isR 0) (sq (h_v (.inl 1026)) (sq (h_newa 0 (.inl 0)) (sq (h_put 3 3 isR) (sq (h_ld isR 0) (sq (h_v (.inl 1026)) (sq (h_newa 0 (.inl 0)) (sq (h_put 3 4 isR) (sq (h_ld isR 0) (sq (h_v (.inl 1026)) (sq (h_newa 0 (.inl 0)) (sq (h_put 3 5 isR) (sq (h_ld isR 0) (sq (h_v (.inl 128)) (sq (h_newa 2 (.inl 0)) (sq (h_put 3 6 isR) (sq (h_ld isR 0) (sq (h_v (.inl 64)) (sq (h_newa 2 (.inl 0)) (sq (h_put 3 7 isR) (t_ret))))))))))))))))))))))))))))))))]
noncomputable def ev_X1_init : rEv := fun as w n => rIni 3 as (fun ls => rRun bs_X1_init 100000 0 ls [] w n 0)
set_option maxRecDepth 100000 in
set_option maxHeartbeats 4000000 in
theorem ok_X1_init (l : Launch) : rMet vwCl rFo rZs rRs rNs rTs l yX1_init cX1_init 3 ((Option.none : Option FieldType)) 1 20 ev_X1_init := met_of (pcs := [0]) (by decide +kernel) rfl (fun G n0 =>
  AllB.c (pb := 0) (
    BS.sq (pc' := 1) (s_aload_n (k := 0) 0 rfl dX1_init_0) <|
    BS.sq (pc' := 4) (s_oinit kw128 kw2 kwObj (by decide) (by decide) dX1_init_1) <|
    BS.sq (pc' := 5) (s_aload_n (k := 0) 0 rfl dX1_init_4) <|
    BS.sq (pc' := 6) (s_aload_n (k := 1) 1 rfl dX1_init_5) <|
    BS.sq (pc' := 9) (s_putF tyX1 0 isR inX1 tyX1_ok nmX1 kc3 (by decide) kw129 rfl rfl rfl rfl (okf_O G _) dX1_init_6) <|
    BS.sq (pc' := 10) (s_aload_n (k := 0) 0 rfl dX1_init_9) <|
    BS.sq (pc' := 11) (s_aload_n (k := 2) 2 rfl dX1_init_10) <|
    BS.sq (pc' := 14) (s_putF tyX1 1 isR inX1 tyX1_ok nmX1 kc3 (by decide) kw130 rfl rfl rfl rfl (okf_O G _) dX1_init_11) <|
    BS.sq (pc' := 15) (s_aload_n (k := 0) 0 rfl dX1_init_14) <|
    BS.sq (pc' := 18) (s_sipush 1026 (by decide +kernel) dX1_init_15) <|
    BS.sq (pc' := 20) (s_newa 1 (.inr (.inl 0)) (by decide) rfl rfl (fun _ _ h => h) (by decide) kw26 dX1_init_18) <|
    BS.sq (pc' := 23) (s_putF tyX1 2 isR inX1 tyX1_ok nmX1 kc3 (by decide) kw131 rfl rfl rfl rfl (okf_A G _) dX1_init_20) <|
    BS.sq (pc' := 24) (s_aload_n (k := 0) 0 rfl dX1_init_23) <|
    BS.sq (pc' := 27) (s_sipush 1026 (by decide +kernel) dX1_init_24) <|
    BS.sq (pc' := 29) (s_newa 0 (.inl 0) (by decide) rfl rfl (fun _ _ h => h) (by decide) kw5 dX1_init_27) <|
    BS.sq (pc' := 32) (s_putF tyX1 3 isR inX1 tyX1_ok nmX1 kc3 (by decide) kw132 rfl rfl rfl rfl (okf_A G _) dX1_init_29) <|
    BS.sq (pc' := 33) (s_aload_n (k := 0) 0 rfl dX1_init_32) <|
    BS.sq (pc' := 36) (s_sipush 1026 (by decide +kernel) dX1_init_33) <|
    BS.sq (pc' := 38) (s_newa 0 (.inl 0) (by decide) rfl rfl (fun _ _ h => h) (by decide) kw5 dX1_init_36) <|
    BS.sq (pc' := 41) (s_putF tyX1 4 isR inX1 tyX1_ok nmX1 kc3 (by decide) kw133 rfl rfl rfl rfl (okf_A G _) dX1_init_38) <|
    BS.sq (pc' := 42) (s_aload_n (k := 0) 0 rfl dX1_init_41) <|
    BS.sq (pc' := 45) (s_sipush 1026 (by decide +kernel) dX1_init_42) <|
    BS.sq (pc' := 47) (s_newa 0 (.inl 0) (by decide) rfl rfl (fun _ _ h => h) (by decide) kw5 dX1_init_45) <|
    BS.sq (pc' := 50) (s_putF tyX1 5 isR inX1 tyX1_ok nmX1 kc3 (by decide) kw134 rfl rfl rfl rfl (okf_A G _) dX1_init_47) <|
    BS.sq (pc' := 51) (s_aload_n (k := 0) 0 rfl dX1_init_50) <|
    BS.sq (pc' := 54) (s_sipush 128 (by decide +kernel) dX1_init_51) <|
    BS.sq (pc' := 56) (s_newa 2 (.inl 0) (by decide) rfl rfl (fun _ _ h => h) (by decide) kw3 dX1_init_54) <|
    BS.sq (pc' := 59) (s_putF tyX1 6 isR inX1 tyX1_ok nmX1 kc3 (by decide) kw135 rfl rfl rfl rfl (okf_A G _) dX1_init_56) <|
    BS.sq (pc' := 60) (s_aload_n (k := 0) 0 rfl dX1_init_59) <|
    BS.sq (pc' := 62) (s_bipush 64 (by decide +kernel) dX1_init_60) <|
    BS.sq (pc' := 64) (s_newa 2 (.inl 0) (by decide) rfl rfl (fun _ _ h => h) (by decide) kw3 dX1_init_62) <|
    BS.sq (pc' := 67) (s_putF tyX1 7 isR inX1 tyX1_ok nmX1 kc3 (by decide) kw136 rfl rfl rfl rfl (okf_A G _) dX1_init_64) <|
    s_ret rfl dX1_init_67) <|
  AllB.n)
-- NativeWorks$Instruction.isConditional(I)Z
noncomputable def bs_X2_isConditional : List rBl := [sq (h_ld isI 0) (sq (h_v (.inl 34)) (t_icmp rEq 3 1)),
  sq (h_ld isI 0) (sq (h_v (.inl 35)) (t_icmp rEq 3 2)),
  sq (h_ld isI 0) (sq (h_v (.inl 36)) (t_icmp (fun a b => rNot (rEq a b)) 4 3)),
  sq (h_v (.inl 1)) (t_go 5),
  sq (h_v (.inl 0)) (t_go 5),
  t_retv isZ]
noncomputable def ev_X2_isConditional : rEv := fun as w n => rIni 1 as (fun ls => rRun bs_X2_isConditional 100000 0 ls [] w n 0)
set_option maxRecDepth 100000 in
set_option maxHeartbeats 4000000 in
theorem ok_X2_isConditional (l : Launch) : rMet vwCl rFo rZs rRs rNs rTs l yX2_isConditional cX2_isConditional 1 ((Option.some FieldType.boolean)) 0 0 ev_X2_isConditional := met_of (pcs := [0, 6, 12, 18, 22, 23]) (by decide +kernel) rfl (fun G n0 =>
  AllB.c (pb := 0) (
    BS.sq (pc' := 1) (s_iload_n (k := 0) 0 rfl dX2_isConditional_0) <|
    BS.sq (pc' := 3) (s_bipush 34 (by decide +kernel) dX2_isConditional_1) <|
    s_icmp_eq rfl rfl (by decide) dX2_isConditional_3) <|
  AllB.c (pb := 6) (
    BS.sq (pc' := 7) (s_iload_n (k := 0) 0 rfl dX2_isConditional_6) <|
    BS.sq (pc' := 9) (s_bipush 35 (by decide +kernel) dX2_isConditional_7) <|
    s_icmp_eq rfl rfl (by decide) dX2_isConditional_9) <|
  AllB.c (pb := 12) (
    BS.sq (pc' := 13) (s_iload_n (k := 0) 0 rfl dX2_isConditional_12) <|
    BS.sq (pc' := 15) (s_bipush 36 (by decide +kernel) dX2_isConditional_13) <|
    s_icmp_ne rfl rfl (by decide) dX2_isConditional_15) <|
  AllB.c (pb := 18) (
    BS.sq (pc' := 19) (s_iconst 1 (by decide +kernel) dX2_isConditional_18) <|
    s_goto rfl (by decide) dX2_isConditional_19) <|
  AllB.c (pb := 22) (
    BS.sq (pc' := 23) (s_iconst 0 (by decide +kernel) dX2_isConditional_22) <|
    BS.go rfl) <|
  AllB.c (pb := 23) (
    s_reti isZ rfl okr_Z dX2_isConditional_23) <|
  AllB.n)
-- NativeWorks$Instruction.enter(I)V
noncomputable def bs_X2_enter : List rBl := [sq (h_ld isR 0) (sq (h_get rFo 4 0) (sq (h_ld isI 1) (sq (h_v (.inl 4)) (sq (h_bin (fun _ _ => true) rAdd) (sq (h_ald rFo okI) (sq (h_st isI 2) (sq (h_ld isI 2) (sq (h_v (.inl 8)) (sq (h_bin okShr rShr) (sq (h_v (.inl 15)) (t_icmp (fun a b => rNot (rEq a b)) 2 1))))))))))),
  sq (h_v (.inl 1)) (t_go 5),
  sq (h_ld isI 2) (sq (h_v (.inl 8)) (sq (h_bin okShr rShr) (sq (h_v (.inl 243)) (t_icmp (fun a b => rNot (rEq a b)) 4 3)))),
  sq (h_v (.inl 2)) (t_go 5),
  sq (h_v (.inl 0)) (t_go 5),
  sq (h_st isI 3) (sq (h_v (.inr (.inr 70))) (sq (h_ld isR 0) (sq (h_get rFo 4 0) (sq (h_ld isI 1) (sq (h_v (.inl 2)) (sq (h_bin (fun _ _ => true) rAdd) (sq (h_ald rFo okI) (sq (h_ald rFo okI) (sq (h_v (.inl 4294967295)) (t_icmp rEq 7 6)))))))))),
  sq (h_v (.inl 8)) (t_go 10),
  sq (h_ld isR 0) (sq (h_get rFo 4 0) (sq (h_ld isI 1) (sq (h_ald rFo okI) (sq (h_call 1 rAny ev_X2_isConditional) (t_if (fun a => rEq a 0) 9 8))))),
  sq (h_v (.inl 16)) (t_go 10),
  sq (h_v (.inl 1)) (t_go 10),
  sq (h_st isI 4) (sq (h_ld isI 3) (sq (h_v (.inl 256)) (sq (h_bin (fun _ _ => true) rMul) (sq (h_ld isI 2) (sq (h_v (.inl 255)) (sq (h_bin (fun _ _ => true) Nat.land) (sq (h_bin (fun _ _ => true) rAdd) (sq (h_v (.inl 8)) (sq (h_bin (fun _ _ => true) rMul) (sq (h_st isI 5) (sq (h_ld isI 5) (sq (h_st isI 6) (t_go 11))))))))))))),
  sq (h_ld isI 6) (sq (h_ld isI 5) (sq (h_v (.inl 8)) (sq (h_ld isI 4) (sq (h_bin (fun _ _ => true) rMul) (sq (h_bin (fun _ _ => true) rAdd) (t_icmp (fun a b => rNot (rLt a b)) 18 12)))))),
  sq (h_ld isI 6) (sq (h_ld isR 0) (sq (h_get rFo 4 2) (sq (h_alen rFo) (t_icmp (fun a b => rNot (rLt a b)) 18 13)))),
  sq (h_ld isR 0) (sq (h_get rFo 4 0) (sq (h_ld isI 1) (sq (h_v (.inl 5)) (sq (h_bin (fun _ _ => true) rAdd) (sq (h_ald rFo okI) (sq (h_st isI 7) (sq (h_ld isI 7) (sq (h_v (.inl 4294967295)) (t_icmp rEq 15 14))))))))),
  sq (h_ld isI 7) (sq (h_ld isI 6) (sq (h_v (.inl 8)) (sq (h_bin rDok Nat.mod) (t_icmp (fun a b => rNot (rEq a b)) 17 15)))),
  sq (h_ld isR 0) (sq (h_get rFo 4 2) (sq (h_ld isI 6) (sq (h_ald rFo okI) (sq (h_v (.inl 4294967295)) (t_icmp (fun a b => rNot (rEq a b)) 17 16))))),
  sq (h_ld isR 0) (sq (h_get rFo 4 2) (sq (h_ld isI 6) (sq (h_ld isI 1) (sq (h_ast okI) (t_go 17))))),
  sq (h_inc 6 1) (t_go 11),
  t_ret]
noncomputable def ev_X2_enter : rEv := fun as w n => rIni 8 as (fun ls => rRun bs_X2_enter 100000 0 ls [] w n 0)
set_option maxRecDepth 100000 in
set_option maxHeartbeats 4000000 in
theorem ok_X2_enter (l : Launch) : rMet vwCl rFo rZs rRs rNs rTs l yX2_enter cX2_enter 8 ((Option.none : Option FieldType)) 1 20 ev_X2_enter := met_of (pcs := [0, 18, 22, 32, 36, 37, 54, 59, 71, 76, 77, 99, 112, 122, 138, 148, 159, 167, 173]) (by decide +kernel) rfl (fun G n0 =>
  AllB.c (pb := 0) (
    BS.sq (pc' := 1) (s_aload_n (k := 0) 0 rfl dX2_enter_0) <|
    BS.sq (pc' := 4) (s_get 0 inX2 kc4 (by decide) kw137 rfl dX2_enter_1) <|
    BS.sq (pc' := 5) (s_iload_n (k := 1) 1 rfl dX2_enter_4) <|
    BS.sq (pc' := 6) (s_iconst 4 (by decide +kernel) dX2_enter_5) <|
    BS.sq (pc' := 7) (s_iadd dX2_enter_6) <|
    BS.sq (pc' := 8) (s_iaload dX2_enter_7) <|
    BS.sq (pc' := 9) (s_istore_n (k := 2) 2 rfl (by decide) dX2_enter_8) <|
    BS.sq (pc' := 10) (s_iload_n (k := 2) 2 rfl dX2_enter_9) <|
    BS.sq (pc' := 12) (s_bipush 8 (by decide +kernel) dX2_enter_10) <|
    BS.sq (pc' := 13) (s_ishr dX2_enter_12) <|
    BS.sq (pc' := 15) (s_bipush 15 (by decide +kernel) dX2_enter_13) <|
    s_icmp_ne rfl rfl (by decide) dX2_enter_15) <|
  AllB.c (pb := 18) (
    BS.sq (pc' := 19) (s_iconst 1 (by decide +kernel) dX2_enter_18) <|
    s_goto rfl (by decide) dX2_enter_19) <|
  AllB.c (pb := 22) (
    BS.sq (pc' := 23) (s_iload_n (k := 2) 2 rfl dX2_enter_22) <|
    BS.sq (pc' := 25) (s_bipush 8 (by decide +kernel) dX2_enter_23) <|
    BS.sq (pc' := 26) (s_ishr dX2_enter_25) <|
    BS.sq (pc' := 29) (s_sipush 243 (by decide +kernel) dX2_enter_26) <|
    s_icmp_ne rfl rfl (by decide) dX2_enter_29) <|
  AllB.c (pb := 32) (
    BS.sq (pc' := 33) (s_iconst 2 (by decide +kernel) dX2_enter_32) <|
    s_goto rfl (by decide) dX2_enter_33) <|
  AllB.c (pb := 36) (
    BS.sq (pc' := 37) (s_iconst 0 (by decide +kernel) dX2_enter_36) <|
    BS.go rfl) <|
  AllB.c (pb := 37) (
    BS.sq (pc' := 38) (s_istore_n (k := 3) 3 rfl (by decide) dX2_enter_37) <|
    BS.sq (pc' := 41) (s_gets (.inr (.inr 70)) kz2 kw138 rfl dX2_enter_38) <|
    BS.sq (pc' := 42) (s_aload_n (k := 0) 0 rfl dX2_enter_41) <|
    BS.sq (pc' := 45) (s_get 0 inX2 kc4 (by decide) kw137 rfl dX2_enter_42) <|
    BS.sq (pc' := 46) (s_iload_n (k := 1) 1 rfl dX2_enter_45) <|
    BS.sq (pc' := 47) (s_iconst 2 (by decide +kernel) dX2_enter_46) <|
    BS.sq (pc' := 48) (s_iadd dX2_enter_47) <|
    BS.sq (pc' := 49) (s_iaload dX2_enter_48) <|
    BS.sq (pc' := 50) (s_iaload dX2_enter_49) <|
    BS.sq (pc' := 51) (s_iconst 4294967295 (by decide +kernel) dX2_enter_50) <|
    s_icmp_eq rfl rfl (by decide) dX2_enter_51) <|
  AllB.c (pb := 54) (
    BS.sq (pc' := 56) (s_bipush 8 (by decide +kernel) dX2_enter_54) <|
    s_goto rfl (by decide) dX2_enter_56) <|
  AllB.c (pb := 59) (
    BS.sq (pc' := 60) (s_aload_n (k := 0) 0 rfl dX2_enter_59) <|
    BS.sq (pc' := 63) (s_get 0 inX2 kc4 (by decide) kw137 rfl dX2_enter_60) <|
    BS.sq (pc' := 64) (s_iload_n (k := 1) 1 rfl dX2_enter_63) <|
    BS.sq (pc' := 65) (s_iaload dX2_enter_64) <|
    BS.sq (pc' := 68) (s_callS 1 (ok_X2_isConditional l) kGood kw140 kw141 kw142 kw139 (by decide +kernel) (by decide) (by decide) dX2_enter_65) <|
    s_if_eq rfl rfl (by decide) dX2_enter_68) <|
  AllB.c (pb := 71) (
    BS.sq (pc' := 73) (s_bipush 16 (by decide +kernel) dX2_enter_71) <|
    s_goto rfl (by decide) dX2_enter_73) <|
  AllB.c (pb := 76) (
    BS.sq (pc' := 77) (s_iconst 1 (by decide +kernel) dX2_enter_76) <|
    BS.go rfl) <|
  AllB.c (pb := 77) (
    BS.sq (pc' := 79) (s_istore 4 (by decide) dX2_enter_77) <|
    BS.sq (pc' := 80) (s_iload_n (k := 3) 3 rfl dX2_enter_79) <|
    BS.sq (pc' := 83) (s_sipush 256 (by decide +kernel) dX2_enter_80) <|
    BS.sq (pc' := 84) (s_imul dX2_enter_83) <|
    BS.sq (pc' := 85) (s_iload_n (k := 2) 2 rfl dX2_enter_84) <|
    BS.sq (pc' := 88) (s_sipush 255 (by decide +kernel) dX2_enter_85) <|
    BS.sq (pc' := 89) (s_iand dX2_enter_88) <|
    BS.sq (pc' := 90) (s_iadd dX2_enter_89) <|
    BS.sq (pc' := 92) (s_bipush 8 (by decide +kernel) dX2_enter_90) <|
    BS.sq (pc' := 93) (s_imul dX2_enter_92) <|
    BS.sq (pc' := 95) (s_istore 5 (by decide) dX2_enter_93) <|
    BS.sq (pc' := 97) (s_iload 5 dX2_enter_95) <|
    BS.sq (pc' := 99) (s_istore 6 (by decide) dX2_enter_97) <|
    BS.go rfl) <|
  AllB.c (pb := 99) (
    BS.sq (pc' := 101) (s_iload 6 dX2_enter_99) <|
    BS.sq (pc' := 103) (s_iload 5 dX2_enter_101) <|
    BS.sq (pc' := 105) (s_bipush 8 (by decide +kernel) dX2_enter_103) <|
    BS.sq (pc' := 107) (s_iload 4 dX2_enter_105) <|
    BS.sq (pc' := 108) (s_imul dX2_enter_107) <|
    BS.sq (pc' := 109) (s_iadd dX2_enter_108) <|
    s_icmp_ge rfl rfl (by decide) dX2_enter_109) <|
  AllB.c (pb := 112) (
    BS.sq (pc' := 114) (s_iload 6 dX2_enter_112) <|
    BS.sq (pc' := 115) (s_aload_n (k := 0) 0 rfl dX2_enter_114) <|
    BS.sq (pc' := 118) (s_get 2 inX2 kc4 (by decide) kw143 rfl dX2_enter_115) <|
    BS.sq (pc' := 119) (s_alen dX2_enter_118) <|
    s_icmp_ge rfl rfl (by decide) dX2_enter_119) <|
  AllB.c (pb := 122) (
    BS.sq (pc' := 123) (s_aload_n (k := 0) 0 rfl dX2_enter_122) <|
    BS.sq (pc' := 126) (s_get 0 inX2 kc4 (by decide) kw137 rfl dX2_enter_123) <|
    BS.sq (pc' := 127) (s_iload_n (k := 1) 1 rfl dX2_enter_126) <|
    BS.sq (pc' := 128) (s_iconst 5 (by decide +kernel) dX2_enter_127) <|
    BS.sq (pc' := 129) (s_iadd dX2_enter_128) <|
    BS.sq (pc' := 130) (s_iaload dX2_enter_129) <|
    BS.sq (pc' := 132) (s_istore 7 (by decide) dX2_enter_130) <|
    BS.sq (pc' := 134) (s_iload 7 dX2_enter_132) <|
    BS.sq (pc' := 135) (s_iconst 4294967295 (by decide +kernel) dX2_enter_134) <|
    s_icmp_eq rfl rfl (by decide) dX2_enter_135) <|
  AllB.c (pb := 138) (
    BS.sq (pc' := 140) (s_iload 7 dX2_enter_138) <|
    BS.sq (pc' := 142) (s_iload 6 dX2_enter_140) <|
    BS.sq (pc' := 144) (s_bipush 8 (by decide +kernel) dX2_enter_142) <|
    BS.sq (pc' := 145) (s_irem dX2_enter_144) <|
    s_icmp_ne rfl rfl (by decide) dX2_enter_145) <|
  AllB.c (pb := 148) (
    BS.sq (pc' := 149) (s_aload_n (k := 0) 0 rfl dX2_enter_148) <|
    BS.sq (pc' := 152) (s_get 2 inX2 kc4 (by decide) kw143 rfl dX2_enter_149) <|
    BS.sq (pc' := 154) (s_iload 6 dX2_enter_152) <|
    BS.sq (pc' := 155) (s_iaload dX2_enter_154) <|
    BS.sq (pc' := 156) (s_iconst 4294967295 (by decide +kernel) dX2_enter_155) <|
    s_icmp_ne rfl rfl (by decide) dX2_enter_156) <|
  AllB.c (pb := 159) (
    BS.sq (pc' := 160) (s_aload_n (k := 0) 0 rfl dX2_enter_159) <|
    BS.sq (pc' := 163) (s_get 2 inX2 kc4 (by decide) kw143 rfl dX2_enter_160) <|
    BS.sq (pc' := 165) (s_iload 6 dX2_enter_163) <|
    BS.sq (pc' := 166) (s_iload_n (k := 1) 1 rfl dX2_enter_165) <|
    BS.sq (pc' := 167) (s_iastore dX2_enter_166) <|
    BS.go rfl) <|
  AllB.c (pb := 167) (
    BS.sq (pc' := 170) (s_iinc 6 1 (1) (by decide +kernel) (by decide) dX2_enter_167) <|
    s_goto rfl (by decide) dX2_enter_170) <|
  AllB.c (pb := 173) (
    s_ret rfl dX2_enter_173) <|
  AllB.n)
-- NativeWorks$Instruction.<init>()V
noncomputable def bs_X2_init : List rBl := [sq (h_ld isR 0) (sq (h_oinit) (sq (h_ld isR 0) (sq (h_v (.inl 8)) (sq (h_v (.inr (.inr 72))) (sq (h_alen rFo) (sq (h_bin (fun _ _ => true) rMul) (sq (h_v (.inr (.inr 74))) (sq (h_alen rFo) (sq (h_bin (fun _ _ => true) rAdd) (sq (h_newa 0 (.inl 0)) (sq (h_put 4 0 isR) (sq (h_ld isR 0) (sq (h_v (.inl 55)) (sq (h_newa 0 (.inl 0)) (sq (h_put 4 1 isR) (sq (h_ld isR 0) (sq (h_v (.inl 6144)) (sq (h_newa 0 (.inl 0)) (sq (h_put 4 2 isR) (sq (h_ld isR 0) (sq (h_v (.inl 4)) (sq (h_newa 0 (.inl 0)) (sq (h_put 4 3 isR) (sq (h_ld isR 0) (sq (h_v (.inl 4)) (sq (h_newa 0 (.inl 0)) (sq (h_put 4 4 isR) (sq (h_ld isR 0) (sq (h_v (.inl 32)) (sq (h_newa 2 (.inl 0)) (sq (h_put 4 5 isR) (sq (h_ld isR 0) (sq (h_get rFo 4 2) (sq (h_v (.inl 4294967295)) (sq (h_call 2 rAny ev_J7_fill_53178) (sq (h_v (.inl 0)) (sq (h_st isI 1) (t_go 1)))))))))))))))))))))))))))))))))))))),
  sq (h_ld isI 1) (sq (h_v (.inl 8)) (sq (h_v (.inr (.inr 72))) (sq (h_alen rFo) (sq (h_bin (fun _ _ => true) rMul) (t_icmp (fun a b => rNot (rLt a b)) 14 2))))),
  sq (h_ld isI 1) (sq (h_v (.inr (.inr 72))) (sq (h_alen rFo) (sq (h_bin rDok Nat.div) (sq (h_st isI 2) (sq (h_ld isI 1) (sq (h_v (.inl 6)) (sq (h_bin rDok Nat.mod) (sq (h_st isI 3) (sq (h_v (.inr (.inr 72))) (sq (h_ld isI 1) (sq (h_v (.inr (.inr 72))) (sq (h_alen rFo) (sq (h_bin rDok Nat.mod) (sq (h_ald rFo okI) (sq (h_st isI 4) (sq (h_ld isI 3) (t_if (fun a => rEq a 0) 5 3))))))))))))))))),
  sq (h_ld isI 3) (sq (h_v (.inl 5)) (t_icmp (fun a b => rNot (rEq a b)) 6 4)),
  sq (h_ld isI 4) (t_if (fun a => rNot (rEq a 0)) 6 5),
  sq (h_v (.inl 1)) (t_go 7),
  sq (h_v (.inl 0)) (t_go 7),
  sq (h_st isI 5) (sq (h_ld isR 0) (sq (h_get rFo 4 0) (sq (h_ld isI 1) (sq (h_ld isI 5) (t_if (fun a => rEq a 0) 9 8))))),
  sq (h_ld isI 2) (t_go 13),
  sq (h_ld isI 3) (sq (h_v (.inl 4)) (t_icmp (fun a b => rNot (rEq a b)) 12 10)),
  sq (h_ld isI 4) (sq (h_v (.inl 128)) (t_icmp (fun a b => rNot (rLt a b)) 12 11)),
  sq (h_ld isI 4) (sq (h_v (.inl 8)) (sq (h_ld isI 2) (sq (h_bin (fun _ _ => true) rMul) (sq (h_bin (fun _ _ => true) rAdd) (t_go 13))))),
  sq (h_ld isI 4) (t_go 13),
  sq (h_ast okI) (sq (h_inc 1 1) (t_go 1)),
  sq (h_v (.inr (.inr 74))) (sq (h_v (.inl 0)) (sq (h_ld isR 0) (sq (h_get rFo 4 0) (sq (h_v (.inl 8)) (sq (h_v (.inr (.inr 72))) (sq (h_alen rFo) (sq (h_bin (fun _ _ => true) rMul) (sq (h_v (.inr (.inr 74))) (sq (h_alen rFo) (sq (h_acopy rFo) (sq (h_v (.inl 0)) (sq (h_st isI 1) (t_go 15))))))))))))),
  sq (h_ld isI 1) (sq (h_ld isR 0) (sq (h_get rFo 4 0) (sq (h_alen rFo) (t_icmp (fun a b => rNot (rLt a b)) 17 16)))),
  sq (h_ld isR 0) (sq (h_get rFo 4 1) (sq (h_ld isR 0) (sq (h_get rFo 4 0) (sq (h_ld isI 1) (sq (h_ald rFo okI) (sq (h_v (.inl 1)) (sq (h_bin (fun _ _ => true) rAdd) (sq (h_ld isI 1) (sq (h_v (.inl 6)) (sq (h_bin (fun _ _ => true) rAdd) (sq (h_ast okI) (sq (h_ld isR 0) (sq (h_ld isI 1) (sq (h_call 2 (rRecv rFo 4) ev_X2_enter) (sq (h_inc 1 6) (t_go 15)))))))))))))))),
  t_ret]
noncomputable def ev_X2_init : rEv := fun as w n => rIni 6 as (fun ls => rRun bs_X2_init 100000 0 ls [] w n 0)
set_option maxRecDepth 100000 in
set_option maxHeartbeats 4000000 in
theorem ok_X2_init (l : Launch) : rMet vwCl rFo rZs rRs rNs rTs l yX2_init cX2_init 6 ((Option.none : Option FieldType)) 2 100 ev_X2_init := met_of (pcs := [0, 71, 82, 110, 115, 120, 124, 125, 137, 141, 146, 154, 164, 166, 173, 197, 206, 234]) (by decide +kernel) rfl (fun G n0 =>
  AllB.c (pb := 0) (
    BS.sq (pc' := 1) (s_aload_n (k := 0) 0 rfl dX2_init_0) <|
    BS.sq (pc' := 4) (s_oinit kw144 kw2 kwObj (by decide) (by decide) dX2_init_1) <|
    BS.sq (pc' := 5) (s_aload_n (k := 0) 0 rfl dX2_init_4) <|
    BS.sq (pc' := 7) (s_bipush 8 (by decide +kernel) dX2_init_5) <|
    BS.sq (pc' := 10) (s_gets (.inr (.inr 72)) kz3 kw145 rfl dX2_init_7) <|
    BS.sq (pc' := 11) (s_alen dX2_init_10) <|
    BS.sq (pc' := 12) (s_imul dX2_init_11) <|
    BS.sq (pc' := 15) (s_gets (.inr (.inr 74)) kz4 kw146 rfl dX2_init_12) <|
    BS.sq (pc' := 16) (s_alen dX2_init_15) <|
    BS.sq (pc' := 17) (s_iadd dX2_init_16) <|
    BS.sq (pc' := 19) (s_newa 0 (.inl 0) (by decide) rfl rfl (fun _ _ h => h) (by decide) kw5 dX2_init_17) <|
    BS.sq (pc' := 22) (s_putF tyX2 0 isR inX2 tyX2_ok nmX2 kc4 (by decide) kw137 rfl rfl rfl rfl (okf_A G _) dX2_init_19) <|
    BS.sq (pc' := 23) (s_aload_n (k := 0) 0 rfl dX2_init_22) <|
    BS.sq (pc' := 25) (s_bipush 55 (by decide +kernel) dX2_init_23) <|
    BS.sq (pc' := 27) (s_newa 0 (.inl 0) (by decide) rfl rfl (fun _ _ h => h) (by decide) kw5 dX2_init_25) <|
    BS.sq (pc' := 30) (s_putF tyX2 1 isR inX2 tyX2_ok nmX2 kc4 (by decide) kw147 rfl rfl rfl rfl (okf_A G _) dX2_init_27) <|
    BS.sq (pc' := 31) (s_aload_n (k := 0) 0 rfl dX2_init_30) <|
    BS.sq (pc' := 34) (s_sipush 6144 (by decide +kernel) dX2_init_31) <|
    BS.sq (pc' := 36) (s_newa 0 (.inl 0) (by decide) rfl rfl (fun _ _ h => h) (by decide) kw5 dX2_init_34) <|
    BS.sq (pc' := 39) (s_putF tyX2 2 isR inX2 tyX2_ok nmX2 kc4 (by decide) kw143 rfl rfl rfl rfl (okf_A G _) dX2_init_36) <|
    BS.sq (pc' := 40) (s_aload_n (k := 0) 0 rfl dX2_init_39) <|
    BS.sq (pc' := 41) (s_iconst 4 (by decide +kernel) dX2_init_40) <|
    BS.sq (pc' := 43) (s_newa 0 (.inl 0) (by decide) rfl rfl (fun _ _ h => h) (by decide) kw5 dX2_init_41) <|
    BS.sq (pc' := 46) (s_putF tyX2 3 isR inX2 tyX2_ok nmX2 kc4 (by decide) kw148 rfl rfl rfl rfl (okf_A G _) dX2_init_43) <|
    BS.sq (pc' := 47) (s_aload_n (k := 0) 0 rfl dX2_init_46) <|
    BS.sq (pc' := 48) (s_iconst 4 (by decide +kernel) dX2_init_47) <|
    BS.sq (pc' := 50) (s_newa 0 (.inl 0) (by decide) rfl rfl (fun _ _ h => h) (by decide) kw5 dX2_init_48) <|
    BS.sq (pc' := 53) (s_putF tyX2 4 isR inX2 tyX2_ok nmX2 kc4 (by decide) kw149 rfl rfl rfl rfl (okf_A G _) dX2_init_50) <|
    BS.sq (pc' := 54) (s_aload_n (k := 0) 0 rfl dX2_init_53) <|
    BS.sq (pc' := 56) (s_bipush 32 (by decide +kernel) dX2_init_54) <|
    BS.sq (pc' := 58) (s_newa 2 (.inl 0) (by decide) rfl rfl (fun _ _ h => h) (by decide) kw3 dX2_init_56) <|
    BS.sq (pc' := 61) (s_putF tyX2 5 isR inX2 tyX2_ok nmX2 kc4 (by decide) kw150 rfl rfl rfl rfl (okf_A G _) dX2_init_58) <|
    BS.sq (pc' := 62) (s_aload_n (k := 0) 0 rfl dX2_init_61) <|
    BS.sq (pc' := 65) (s_get 2 inX2 kc4 (by decide) kw143 rfl dX2_init_62) <|
    BS.sq (pc' := 66) (s_iconst 4294967295 (by decide +kernel) dX2_init_65) <|
    BS.sq (pc' := 69) (s_callS 2 (ok_J7_fill_53178 l) kGood kw151 kw12 kw13 kw10 (by decide +kernel) (by decide) (by decide) dX2_init_66) <|
    BS.sq (pc' := 70) (s_iconst 0 (by decide +kernel) dX2_init_69) <|
    BS.sq (pc' := 71) (s_istore_n (k := 1) 1 rfl (by decide) dX2_init_70) <|
    BS.go rfl) <|
  AllB.c (pb := 71) (
    BS.sq (pc' := 72) (s_iload_n (k := 1) 1 rfl dX2_init_71) <|
    BS.sq (pc' := 74) (s_bipush 8 (by decide +kernel) dX2_init_72) <|
    BS.sq (pc' := 77) (s_gets (.inr (.inr 72)) kz3 kw145 rfl dX2_init_74) <|
    BS.sq (pc' := 78) (s_alen dX2_init_77) <|
    BS.sq (pc' := 79) (s_imul dX2_init_78) <|
    s_icmp_ge rfl rfl (by decide) dX2_init_79) <|
  AllB.c (pb := 82) (
    BS.sq (pc' := 83) (s_iload_n (k := 1) 1 rfl dX2_init_82) <|
    BS.sq (pc' := 86) (s_gets (.inr (.inr 72)) kz3 kw145 rfl dX2_init_83) <|
    BS.sq (pc' := 87) (s_alen dX2_init_86) <|
    BS.sq (pc' := 88) (s_idiv dX2_init_87) <|
    BS.sq (pc' := 89) (s_istore_n (k := 2) 2 rfl (by decide) dX2_init_88) <|
    BS.sq (pc' := 90) (s_iload_n (k := 1) 1 rfl dX2_init_89) <|
    BS.sq (pc' := 92) (s_bipush 6 (by decide +kernel) dX2_init_90) <|
    BS.sq (pc' := 93) (s_irem dX2_init_92) <|
    BS.sq (pc' := 94) (s_istore_n (k := 3) 3 rfl (by decide) dX2_init_93) <|
    BS.sq (pc' := 97) (s_gets (.inr (.inr 72)) kz3 kw145 rfl dX2_init_94) <|
    BS.sq (pc' := 98) (s_iload_n (k := 1) 1 rfl dX2_init_97) <|
    BS.sq (pc' := 101) (s_gets (.inr (.inr 72)) kz3 kw145 rfl dX2_init_98) <|
    BS.sq (pc' := 102) (s_alen dX2_init_101) <|
    BS.sq (pc' := 103) (s_irem dX2_init_102) <|
    BS.sq (pc' := 104) (s_iaload dX2_init_103) <|
    BS.sq (pc' := 106) (s_istore 4 (by decide) dX2_init_104) <|
    BS.sq (pc' := 107) (s_iload_n (k := 3) 3 rfl dX2_init_106) <|
    s_if_eq rfl rfl (by decide) dX2_init_107) <|
  AllB.c (pb := 110) (
    BS.sq (pc' := 111) (s_iload_n (k := 3) 3 rfl dX2_init_110) <|
    BS.sq (pc' := 112) (s_iconst 5 (by decide +kernel) dX2_init_111) <|
    s_icmp_ne rfl rfl (by decide) dX2_init_112) <|
  AllB.c (pb := 115) (
    BS.sq (pc' := 117) (s_iload 4 dX2_init_115) <|
    s_if_ne rfl rfl (by decide) dX2_init_117) <|
  AllB.c (pb := 120) (
    BS.sq (pc' := 121) (s_iconst 1 (by decide +kernel) dX2_init_120) <|
    s_goto rfl (by decide) dX2_init_121) <|
  AllB.c (pb := 124) (
    BS.sq (pc' := 125) (s_iconst 0 (by decide +kernel) dX2_init_124) <|
    BS.go rfl) <|
  AllB.c (pb := 125) (
    BS.sq (pc' := 127) (s_istore 5 (by decide) dX2_init_125) <|
    BS.sq (pc' := 128) (s_aload_n (k := 0) 0 rfl dX2_init_127) <|
    BS.sq (pc' := 131) (s_get 0 inX2 kc4 (by decide) kw137 rfl dX2_init_128) <|
    BS.sq (pc' := 132) (s_iload_n (k := 1) 1 rfl dX2_init_131) <|
    BS.sq (pc' := 134) (s_iload 5 dX2_init_132) <|
    s_if_eq rfl rfl (by decide) dX2_init_134) <|
  AllB.c (pb := 137) (
    BS.sq (pc' := 138) (s_iload_n (k := 2) 2 rfl dX2_init_137) <|
    s_goto rfl (by decide) dX2_init_138) <|
  AllB.c (pb := 141) (
    BS.sq (pc' := 142) (s_iload_n (k := 3) 3 rfl dX2_init_141) <|
    BS.sq (pc' := 143) (s_iconst 4 (by decide +kernel) dX2_init_142) <|
    s_icmp_ne rfl rfl (by decide) dX2_init_143) <|
  AllB.c (pb := 146) (
    BS.sq (pc' := 148) (s_iload 4 dX2_init_146) <|
    BS.sq (pc' := 151) (s_sipush 128 (by decide +kernel) dX2_init_148) <|
    s_icmp_ge rfl rfl (by decide) dX2_init_151) <|
  AllB.c (pb := 154) (
    BS.sq (pc' := 156) (s_iload 4 dX2_init_154) <|
    BS.sq (pc' := 158) (s_bipush 8 (by decide +kernel) dX2_init_156) <|
    BS.sq (pc' := 159) (s_iload_n (k := 2) 2 rfl dX2_init_158) <|
    BS.sq (pc' := 160) (s_imul dX2_init_159) <|
    BS.sq (pc' := 161) (s_iadd dX2_init_160) <|
    s_goto rfl (by decide) dX2_init_161) <|
  AllB.c (pb := 164) (
    BS.sq (pc' := 166) (s_iload 4 dX2_init_164) <|
    BS.go rfl) <|
  AllB.c (pb := 166) (
    BS.sq (pc' := 167) (s_iastore dX2_init_166) <|
    BS.sq (pc' := 170) (s_iinc 1 1 (1) (by decide +kernel) (by decide) dX2_init_167) <|
    s_goto rfl (by decide) dX2_init_170) <|
  AllB.c (pb := 173) (
    BS.sq (pc' := 176) (s_gets (.inr (.inr 74)) kz4 kw146 rfl dX2_init_173) <|
    BS.sq (pc' := 177) (s_iconst 0 (by decide +kernel) dX2_init_176) <|
    BS.sq (pc' := 178) (s_aload_n (k := 0) 0 rfl dX2_init_177) <|
    BS.sq (pc' := 181) (s_get 0 inX2 kc4 (by decide) kw137 rfl dX2_init_178) <|
    BS.sq (pc' := 183) (s_bipush 8 (by decide +kernel) dX2_init_181) <|
    BS.sq (pc' := 186) (s_gets (.inr (.inr 72)) kz3 kw145 rfl dX2_init_183) <|
    BS.sq (pc' := 187) (s_alen dX2_init_186) <|
    BS.sq (pc' := 188) (s_imul dX2_init_187) <|
    BS.sq (pc' := 191) (s_gets (.inr (.inr 74)) kz4 kw146 rfl dX2_init_188) <|
    BS.sq (pc' := 192) (s_alen dX2_init_191) <|
    BS.sq (pc' := 195) (s_acopy kw152 kw62 kw63 kw64 (by decide) (by decide) dX2_init_192) <|
    BS.sq (pc' := 196) (s_iconst 0 (by decide +kernel) dX2_init_195) <|
    BS.sq (pc' := 197) (s_istore_n (k := 1) 1 rfl (by decide) dX2_init_196) <|
    BS.go rfl) <|
  AllB.c (pb := 197) (
    BS.sq (pc' := 198) (s_iload_n (k := 1) 1 rfl dX2_init_197) <|
    BS.sq (pc' := 199) (s_aload_n (k := 0) 0 rfl dX2_init_198) <|
    BS.sq (pc' := 202) (s_get 0 inX2 kc4 (by decide) kw137 rfl dX2_init_199) <|
    BS.sq (pc' := 203) (s_alen dX2_init_202) <|
    s_icmp_ge rfl rfl (by decide) dX2_init_203) <|
  AllB.c (pb := 206) (
    BS.sq (pc' := 207) (s_aload_n (k := 0) 0 rfl dX2_init_206) <|
    BS.sq (pc' := 210) (s_get 1 inX2 kc4 (by decide) kw147 rfl dX2_init_207) <|
    BS.sq (pc' := 211) (s_aload_n (k := 0) 0 rfl dX2_init_210) <|
    BS.sq (pc' := 214) (s_get 0 inX2 kc4 (by decide) kw137 rfl dX2_init_211) <|
    BS.sq (pc' := 215) (s_iload_n (k := 1) 1 rfl dX2_init_214) <|
    BS.sq (pc' := 216) (s_iaload dX2_init_215) <|
    BS.sq (pc' := 217) (s_iconst 1 (by decide +kernel) dX2_init_216) <|
    BS.sq (pc' := 218) (s_iadd dX2_init_217) <|
    BS.sq (pc' := 219) (s_iload_n (k := 1) 1 rfl dX2_init_218) <|
    BS.sq (pc' := 221) (s_bipush 6 (by decide +kernel) dX2_init_219) <|
    BS.sq (pc' := 222) (s_iadd dX2_init_221) <|
    BS.sq (pc' := 223) (s_iastore dX2_init_222) <|
    BS.sq (pc' := 224) (s_aload_n (k := 0) 0 rfl dX2_init_223) <|
    BS.sq (pc' := 225) (s_iload_n (k := 1) 1 rfl dX2_init_224) <|
    BS.sq (pc' := 228) (s_callV 1 4 kc4 (ok_X2_enter l) kGood kw154 kw155 kw156 kw142 kw153 (by decide +kernel) (by decide) (by decide) dX2_init_225) <|
    BS.sq (pc' := 231) (s_iinc 1 6 (6) (by decide +kernel) (by decide) dX2_init_228) <|
    s_goto rfl (by decide) dX2_init_231) <|
  AllB.c (pb := 234) (
    s_ret rfl dX2_init_234) <|
  AllB.n)
-- NativeWorks$Assembler.<init>([BLNativeWorks$Units;)V
noncomputable def bs_X0_init : List rBl := [sq (h_ld isR 0) (sq (h_oinit) (sq (h_new 5 10 [.inr (.inr 0), .inr (.inr 0), .inr (.inr 0), .inr (.inr 0), .inr (.inr 0), .inr (.inr 0), .inl 0, .inl 0, .inl 0, .inl 0]) (sq (h_dup) (sq (h_call 1 (rRecv rFo 5) ev_X3_init) (sq (h_st isR 3) (sq (h_ld isR 0) (sq (h_ld isR 3) (sq (h_put 2 0 isR) (sq (h_ld isR 0) (sq (h_ld isR 2) (sq (h_put 2 2 isR) (sq (h_ld isR 0) (sq (h_new 10 20 [.inr (.inr 0), .inr (.inr 0), .inl 0, .inr (.inr 0), .inr (.inr 0), .inr (.inr 0), .inr (.inr 0), .inr (.inr 0), .inr (.inr 0), .inr (.inr 0), .inr (.inr 0), .inr (.inr 0), .inr (.inr 0), .inr (.inr 0), .inr (.inr 0), .inl 0, .inl 0, .inl 0, .inl 0, .inl 0]) (sq (h_dup) (sq (h_new 11 14 [.inr (.inr 0), .inr (.inr 0), .inr (.inr 0), .inr (.inr 0), .inr (.inr 0), .inr (.inr 0), .inr (.inr 0), .inr (.inr 0), .inr (.inr 0), .inr (.inr 0), .inr (.inr 0), .inr (.inr 0), .inr (.inr 0), .inl 0]) (sq (h_dup) (sq (h_ld isR 1) (sq (h_ld isR 3) (sq (h_get rFo 5 1) (sq (h_call 3 (rRecv rFo 11) ev_X9_init) (sq (h_ld isR 3) (sq (h_call 3 (rRecv rFo 10) ev_X8_init) (sq (h_put 2 1 isR) (sq (h_ld isR 0) (sq (h_new 3 11 [.inr (.inr 0), .inr (.inr 0), .inr (.inr 0), .inr (.inr 0), .inr (.inr 0), .inr (.inr 0), .inr (.inr 0), .inr (.inr 0), .inl 0, .inl 0, .inl 0]) (sq (h_dup) (sq (h_ld isR 3) (sq (h_ld isR 2) (sq (h_call 3 (rRecv rFo 3) ev_X1_init) (sq (h_put 2 3 isR) (sq (h_ld isR 0) (sq (h_new 4 21 [.inr (.inr 0), .inr (.inr 0), .inr (.inr 0), .inr (.inr 0), .inr (.inr 0), .inr (.inr 0), .inl 0, .inl 0, .inl 0, .inl 0, .inl 0, .inl 0, .inl 0, .inl 0, .inr (.inl 0), .inl 0, .inr (.inl 0), .inl 0, .inl 0, .inl 0, .inl 0]) (sq (h_dup) (sq (h_call 1 (rRecv rFo 4) ev_X2_init) (sq (h_put 2 4 isR) (sq (h_ld isR 0) (sq (h_v (.inl 4)) (sq (h_newa 0 (.inl 0)) (sq (h_put 2 5 isR) (t_ret))))))))))))))))))))))))))))))))))))))))]
noncomputable def ev_X0_init : rEv := fun as w n => rIni 4 as (fun ls => rRun bs_X0_init 100000 0 ls [] w n 0)
set_option maxRecDepth 100000 in
set_option maxHeartbeats 4000000 in
theorem ok_X0_init (l : Launch) : rMet vwCl rFo rZs rRs rNs rTs l yX0_init cX0_init 4 ((Option.none : Option FieldType)) 6 168 ev_X0_init := met_of (pcs := [0]) (by decide +kernel) rfl (fun G n0 =>
  AllB.c (pb := 0) (
    BS.sq (pc' := 1) (s_aload_n (k := 0) 0 rfl dX0_init_0) <|
    BS.sq (pc' := 4) (s_oinit kw157 kw2 kwObj (by decide) (by decide) dX0_init_1) <|
    BS.sq (pc' := 7) (s_new tyX3 inX3 tyX3_ok kc5 kw158 kw159 kw90 rfl rfl dX0_init_4) <|
    BS.sq (pc' := 8) (s_dup dX0_init_7) <|
    BS.sq (pc' := 11) (s_callI 0 5 kc5 (ok_X3_init l) kGood kw161 kw162 kw90 kw160 rfl (by decide +kernel) (by decide) (by decide) dX0_init_8) <|
    BS.sq (pc' := 12) (s_astore_n (k := 3) 3 rfl (by decide) dX0_init_11) <|
    BS.sq (pc' := 13) (s_aload_n (k := 0) 0 rfl dX0_init_12) <|
    BS.sq (pc' := 14) (s_aload_n (k := 3) 3 rfl dX0_init_13) <|
    BS.sq (pc' := 17) (s_putF tyX0 0 isR inX0 tyX0_ok nmX0 kc2 (by decide) kw163 rfl rfl rfl rfl (okf_O G _) dX0_init_14) <|
    BS.sq (pc' := 18) (s_aload_n (k := 0) 0 rfl dX0_init_17) <|
    BS.sq (pc' := 19) (s_aload_n (k := 2) 2 rfl dX0_init_18) <|
    BS.sq (pc' := 22) (s_putF tyX0 2 isR inX0 tyX0_ok nmX0 kc2 (by decide) kw164 rfl rfl rfl rfl (okf_O G _) dX0_init_19) <|
    BS.sq (pc' := 23) (s_aload_n (k := 0) 0 rfl dX0_init_22) <|
    BS.sq (pc' := 26) (s_new tyX8 inX8 tyX8_ok kc10 kw165 kw166 kw167 rfl rfl dX0_init_23) <|
    BS.sq (pc' := 27) (s_dup dX0_init_26) <|
    BS.sq (pc' := 30) (s_new tyX9 inX9 tyX9_ok kc11 kw168 kw169 kw170 rfl rfl dX0_init_27) <|
    BS.sq (pc' := 31) (s_dup dX0_init_30) <|
    BS.sq (pc' := 32) (s_aload_n (k := 1) 1 rfl dX0_init_31) <|
    BS.sq (pc' := 33) (s_aload_n (k := 3) 3 rfl dX0_init_32) <|
    BS.sq (pc' := 36) (s_get 1 inX3 kc5 (by decide) kw171 rfl dX0_init_33) <|
    BS.sq (pc' := 39) (s_callI 2 11 kc11 (ok_X9_init l) kGood kw173 kw174 kw170 kw172 rfl (by decide +kernel) (by decide) (by decide) dX0_init_36) <|
    BS.sq (pc' := 40) (s_aload_n (k := 3) 3 rfl dX0_init_39) <|
    BS.sq (pc' := 43) (s_callI 2 10 kc10 (ok_X8_init l) kGood kw176 kw177 kw167 kw175 rfl (by decide +kernel) (by decide) (by decide) dX0_init_40) <|
    BS.sq (pc' := 46) (s_putF tyX0 1 isR inX0 tyX0_ok nmX0 kc2 (by decide) kw178 rfl rfl rfl rfl (okf_O G _) dX0_init_43) <|
    BS.sq (pc' := 47) (s_aload_n (k := 0) 0 rfl dX0_init_46) <|
    BS.sq (pc' := 50) (s_new tyX1 inX1 tyX1_ok kc3 kw179 kw180 kw181 rfl rfl dX0_init_47) <|
    BS.sq (pc' := 51) (s_dup dX0_init_50) <|
    BS.sq (pc' := 52) (s_aload_n (k := 3) 3 rfl dX0_init_51) <|
    BS.sq (pc' := 53) (s_aload_n (k := 2) 2 rfl dX0_init_52) <|
    BS.sq (pc' := 56) (s_callI 2 3 kc3 (ok_X1_init l) kGood kw183 kw184 kw181 kw182 rfl (by decide +kernel) (by decide) (by decide) dX0_init_53) <|
    BS.sq (pc' := 59) (s_putF tyX0 3 isR inX0 tyX0_ok nmX0 kc2 (by decide) kw185 rfl rfl rfl rfl (okf_O G _) dX0_init_56) <|
    BS.sq (pc' := 60) (s_aload_n (k := 0) 0 rfl dX0_init_59) <|
    BS.sq (pc' := 63) (s_new tyX2 inX2 tyX2_ok kc4 kw186 kw187 kw142 rfl rfl dX0_init_60) <|
    BS.sq (pc' := 64) (s_dup dX0_init_63) <|
    BS.sq (pc' := 67) (s_callI 0 4 kc4 (ok_X2_init l) kGood kw189 kw190 kw142 kw188 rfl (by decide +kernel) (by decide) (by decide) dX0_init_64) <|
    BS.sq (pc' := 70) (s_putF tyX0 4 isR inX0 tyX0_ok nmX0 kc2 (by decide) kw191 rfl rfl rfl rfl (okf_O G _) dX0_init_67) <|
    BS.sq (pc' := 71) (s_aload_n (k := 0) 0 rfl dX0_init_70) <|
    BS.sq (pc' := 72) (s_iconst 4 (by decide +kernel) dX0_init_71) <|
    BS.sq (pc' := 74) (s_newa 0 (.inl 0) (by decide) rfl rfl (fun _ _ h => h) (by decide) kw5 dX0_init_72) <|
    BS.sq (pc' := 77) (s_putF tyX0 5 isR inX0 tyX0_ok nmX0 kc2 (by decide) kw192 rfl rfl rfl rfl (okf_A G _) dX0_init_74) <|
    s_ret rfl dX0_init_77) <|
  AllB.n)
-- NativeWorks$Linker.<init>(LNativeWorks$Units;)V
noncomputable def bs_X4_init : List rBl := [sq (h_ld isR 0) (sq (h_oinit) (sq (h_ld isR 0) (sq (h_ld isR 1) (sq (h_put 6 0 isR) (sq (h_ld isR 0) (sq (h_v (.inl 32)) (sq (h_newa 3 (.inl 0)) (sq (h_put 6 1 isR) (sq (h_ld isR 0) (sq (h_v (.inl 128)) (sq (h_newa 3 (.inl 0)) (sq (h_put 6 2 isR) (sq (h_ld isR 0) (sq (h_v (.inl 128)) (sq (h_newa 0 (.inl 0)) (sq (h_put 6 3 isR) (sq (h_ld isR 0) (sq (h_v (.inl 1024)) (sq (h_newa 0 (.inl 0)) (sq (h_put 6 4 isR) (sq (h_ld isR 0) (sq (h_v (.inl 4)) (sq (h_newa 0 (.inl 0)) (sq (h_put 6 5 isR) (sq (h_ld isR 0) (sq (h_v (.inl 4)) (sq (h_newa 0 (.inl 0)) (sq (h_put 6 6 isR) (sq (h_ld isR 0) (sq (h_v (.inl 131072)) (sq (h_newa 2 (.inl 0)) (sq (h_put 6 7 isR) (sq (h_ld isR 0) (sq (h_v (.inl 131072)) (sq (h_newa 0 (.inl 0)) (sq (h_put 6 8 isR) (sq (h_ld isR 0) (sq (h_new 9 6 [.inr (.inr 0), .inr (.inr 0), .inr (.inr 0), .inr (.inr 0), .inr (.inr 0), .inl 0]) (sq (h_dup) (sq (h_v (.inl 1024)) (sq (h_v (.inl 129024)) (sq (h_call 3 (rRecv rFo 9) ev_X7_init) (sq (h_put 6 9 isR) (sq (h_ld isR 0) (sq (h_v (.inl 1024)) (sq (h_newa 1 (.inr (.inl 0))) (sq (h_put 6 10 isR) (sq (h_ld isR 0) (sq (h_get rFo 6 8) (sq (h_v (.inl 4294967295)) (sq (h_call 2 rAny ev_J7_fill_53178) (t_ret))))))))))))))))))))))))))))))))))))))))))))))))))))]
noncomputable def ev_X4_init : rEv := fun as w n => rIni 2 as (fun ls => rRun bs_X4_init 100000 0 ls [] w n 0)
set_option maxRecDepth 100000 in
set_option maxHeartbeats 4000000 in
theorem ok_X4_init (l : Launch) : rMet vwCl rFo rZs rRs rNs rTs l yX4_init cX4_init 2 ((Option.none : Option FieldType)) 2 45 ev_X4_init := met_of (pcs := [0]) (by decide +kernel) rfl (fun G n0 =>
  AllB.c (pb := 0) (
    BS.sq (pc' := 1) (s_aload_n (k := 0) 0 rfl dX4_init_0) <|
    BS.sq (pc' := 4) (s_oinit kw193 kw2 kwObj (by decide) (by decide) dX4_init_1) <|
    BS.sq (pc' := 5) (s_aload_n (k := 0) 0 rfl dX4_init_4) <|
    BS.sq (pc' := 6) (s_aload_n (k := 1) 1 rfl dX4_init_5) <|
    BS.sq (pc' := 9) (s_putF tyX4 0 isR inX4 tyX4_ok nmX4 kc6 (by decide) kw194 rfl rfl rfl rfl (okf_O G _) dX4_init_6) <|
    BS.sq (pc' := 10) (s_aload_n (k := 0) 0 rfl dX4_init_9) <|
    BS.sq (pc' := 12) (s_bipush 32 (by decide +kernel) dX4_init_10) <|
    BS.sq (pc' := 14) (s_newa 3 (.inl 0) (by decide) rfl rfl (fun _ _ h => h) (by decide) kw126 dX4_init_12) <|
    BS.sq (pc' := 17) (s_putF tyX4 1 isR inX4 tyX4_ok nmX4 kc6 (by decide) kw195 rfl rfl rfl rfl (okf_A G _) dX4_init_14) <|
    BS.sq (pc' := 18) (s_aload_n (k := 0) 0 rfl dX4_init_17) <|
    BS.sq (pc' := 21) (s_sipush 128 (by decide +kernel) dX4_init_18) <|
    BS.sq (pc' := 23) (s_newa 3 (.inl 0) (by decide) rfl rfl (fun _ _ h => h) (by decide) kw126 dX4_init_21) <|
    BS.sq (pc' := 26) (s_putF tyX4 2 isR inX4 tyX4_ok nmX4 kc6 (by decide) kw196 rfl rfl rfl rfl (okf_A G _) dX4_init_23) <|
    BS.sq (pc' := 27) (s_aload_n (k := 0) 0 rfl dX4_init_26) <|
    BS.sq (pc' := 30) (s_sipush 128 (by decide +kernel) dX4_init_27) <|
    BS.sq (pc' := 32) (s_newa 0 (.inl 0) (by decide) rfl rfl (fun _ _ h => h) (by decide) kw5 dX4_init_30) <|
    BS.sq (pc' := 35) (s_putF tyX4 3 isR inX4 tyX4_ok nmX4 kc6 (by decide) kw197 rfl rfl rfl rfl (okf_A G _) dX4_init_32) <|
    BS.sq (pc' := 36) (s_aload_n (k := 0) 0 rfl dX4_init_35) <|
    BS.sq (pc' := 39) (s_sipush 1024 (by decide +kernel) dX4_init_36) <|
    BS.sq (pc' := 41) (s_newa 0 (.inl 0) (by decide) rfl rfl (fun _ _ h => h) (by decide) kw5 dX4_init_39) <|
    BS.sq (pc' := 44) (s_putF tyX4 4 isR inX4 tyX4_ok nmX4 kc6 (by decide) kw198 rfl rfl rfl rfl (okf_A G _) dX4_init_41) <|
    BS.sq (pc' := 45) (s_aload_n (k := 0) 0 rfl dX4_init_44) <|
    BS.sq (pc' := 46) (s_iconst 4 (by decide +kernel) dX4_init_45) <|
    BS.sq (pc' := 48) (s_newa 0 (.inl 0) (by decide) rfl rfl (fun _ _ h => h) (by decide) kw5 dX4_init_46) <|
    BS.sq (pc' := 51) (s_putF tyX4 5 isR inX4 tyX4_ok nmX4 kc6 (by decide) kw199 rfl rfl rfl rfl (okf_A G _) dX4_init_48) <|
    BS.sq (pc' := 52) (s_aload_n (k := 0) 0 rfl dX4_init_51) <|
    BS.sq (pc' := 53) (s_iconst 4 (by decide +kernel) dX4_init_52) <|
    BS.sq (pc' := 55) (s_newa 0 (.inl 0) (by decide) rfl rfl (fun _ _ h => h) (by decide) kw5 dX4_init_53) <|
    BS.sq (pc' := 58) (s_putF tyX4 6 isR inX4 tyX4_ok nmX4 kc6 (by decide) kw200 rfl rfl rfl rfl (okf_A G _) dX4_init_55) <|
    BS.sq (pc' := 59) (s_aload_n (k := 0) 0 rfl dX4_init_58) <|
    BS.sq (pc' := 61) (s_ldc 131072 kw201 dX4_init_59) <|
    BS.sq (pc' := 63) (s_newa 2 (.inl 0) (by decide) rfl rfl (fun _ _ h => h) (by decide) kw3 dX4_init_61) <|
    BS.sq (pc' := 66) (s_putF tyX4 7 isR inX4 tyX4_ok nmX4 kc6 (by decide) kw202 rfl rfl rfl rfl (okf_A G _) dX4_init_63) <|
    BS.sq (pc' := 67) (s_aload_n (k := 0) 0 rfl dX4_init_66) <|
    BS.sq (pc' := 69) (s_ldc 131072 kw201 dX4_init_67) <|
    BS.sq (pc' := 71) (s_newa 0 (.inl 0) (by decide) rfl rfl (fun _ _ h => h) (by decide) kw5 dX4_init_69) <|
    BS.sq (pc' := 74) (s_putF tyX4 8 isR inX4 tyX4_ok nmX4 kc6 (by decide) kw203 rfl rfl rfl rfl (okf_A G _) dX4_init_71) <|
    BS.sq (pc' := 75) (s_aload_n (k := 0) 0 rfl dX4_init_74) <|
    BS.sq (pc' := 78) (s_new tyX7 inX7 tyX7_ok kc9 kw204 kw17 kw18 rfl rfl dX4_init_75) <|
    BS.sq (pc' := 79) (s_dup dX4_init_78) <|
    BS.sq (pc' := 82) (s_sipush 1024 (by decide +kernel) dX4_init_79) <|
    BS.sq (pc' := 84) (s_ldc 129024 kw205 dX4_init_82) <|
    BS.sq (pc' := 87) (s_callI 2 9 kc9 (ok_X7_init l) kGood kw206 kw22 kw18 kw20 rfl (by decide +kernel) (by decide) (by decide) dX4_init_84) <|
    BS.sq (pc' := 90) (s_putF tyX4 9 isR inX4 tyX4_ok nmX4 kc6 (by decide) kw207 rfl rfl rfl rfl (okf_O G _) dX4_init_87) <|
    BS.sq (pc' := 91) (s_aload_n (k := 0) 0 rfl dX4_init_90) <|
    BS.sq (pc' := 94) (s_sipush 1024 (by decide +kernel) dX4_init_91) <|
    BS.sq (pc' := 96) (s_newa 1 (.inr (.inl 0)) (by decide) rfl rfl (fun _ _ h => h) (by decide) kw26 dX4_init_94) <|
    BS.sq (pc' := 99) (s_putF tyX4 10 isR inX4 tyX4_ok nmX4 kc6 (by decide) kw208 rfl rfl rfl rfl (okf_A G _) dX4_init_96) <|
    BS.sq (pc' := 100) (s_aload_n (k := 0) 0 rfl dX4_init_99) <|
    BS.sq (pc' := 103) (s_get 8 inX4 kc6 (by decide) kw203 rfl dX4_init_100) <|
    BS.sq (pc' := 104) (s_iconst 4294967295 (by decide +kernel) dX4_init_103) <|
    BS.sq (pc' := 107) (s_callS 2 (ok_J7_fill_53178 l) kGood kw209 kw12 kw13 kw10 (by decide +kernel) (by decide) (by decide) dX4_init_104) <|
    s_ret rfl dX4_init_107) <|
  AllB.n)
-- NativeWorks$Memory.<init>()V
noncomputable def bs_X6_init : List rBl := [sq (h_ld isR 0) (sq (h_oinit) (sq (h_ld isR 0) (sq (h_v (.inl 196608)) (sq (h_newa 2 (.inl 0)) (sq (h_put 8 0 isR) (sq (h_ld isR 0) (sq (h_v (.inl 65536)) (sq (h_newa 2 (.inl 0)) (sq (h_put 8 1 isR) (sq (h_ld isR 0) (sq (h_v (.inl 131072)) (sq (h_newa 3 (.inl 0)) (sq (h_put 8 2 isR) (sq (h_ld isR 0) (sq (h_v (.inl 0)) (sq (h_put 8 3 isZ) (sq (h_ld isR 0) (sq (h_v (.inr (.inl 4194304))) (sq (h_put 8 10 isJ) (sq (h_ld isR 0) (sq (h_v (.inr (.inl 4194304))) (sq (h_put 8 11 isJ) (t_ret)))))))))))))))))))))))]
noncomputable def ev_X6_init : rEv := fun as w n => rIni 1 as (fun ls => rRun bs_X6_init 100000 0 ls [] w n 0)
set_option maxRecDepth 100000 in
set_option maxHeartbeats 4000000 in
theorem ok_X6_init (l : Launch) : rMet vwCl rFo rZs rRs rNs rTs l yX6_init cX6_init 1 ((Option.none : Option FieldType)) 1 20 ev_X6_init := met_of (pcs := [0]) (by decide +kernel) rfl (fun G n0 =>
  AllB.c (pb := 0) (
    BS.sq (pc' := 1) (s_aload_n (k := 0) 0 rfl dX6_init_0) <|
    BS.sq (pc' := 4) (s_oinit kw210 kw2 kwObj (by decide) (by decide) dX6_init_1) <|
    BS.sq (pc' := 5) (s_aload_n (k := 0) 0 rfl dX6_init_4) <|
    BS.sq (pc' := 7) (s_ldc 196608 kw211 dX6_init_5) <|
    BS.sq (pc' := 9) (s_newa 2 (.inl 0) (by decide) rfl rfl (fun _ _ h => h) (by decide) kw3 dX6_init_7) <|
    BS.sq (pc' := 12) (s_putF tyX6 0 isR inX6 tyX6_ok nmX6 kc8 (by decide) kw212 rfl rfl rfl rfl (okf_A G _) dX6_init_9) <|
    BS.sq (pc' := 13) (s_aload_n (k := 0) 0 rfl dX6_init_12) <|
    BS.sq (pc' := 15) (s_ldc 65536 kw213 dX6_init_13) <|
    BS.sq (pc' := 17) (s_newa 2 (.inl 0) (by decide) rfl rfl (fun _ _ h => h) (by decide) kw3 dX6_init_15) <|
    BS.sq (pc' := 20) (s_putF tyX6 1 isR inX6 tyX6_ok nmX6 kc8 (by decide) kw214 rfl rfl rfl rfl (okf_A G _) dX6_init_17) <|
    BS.sq (pc' := 21) (s_aload_n (k := 0) 0 rfl dX6_init_20) <|
    BS.sq (pc' := 23) (s_ldc 131072 kw215 dX6_init_21) <|
    BS.sq (pc' := 25) (s_newa 3 (.inl 0) (by decide) rfl rfl (fun _ _ h => h) (by decide) kw126 dX6_init_23) <|
    BS.sq (pc' := 28) (s_putF tyX6 2 isR inX6 tyX6_ok nmX6 kc8 (by decide) kw216 rfl rfl rfl rfl (okf_A G _) dX6_init_25) <|
    BS.sq (pc' := 29) (s_aload_n (k := 0) 0 rfl dX6_init_28) <|
    BS.sq (pc' := 30) (s_iconst 0 (by decide +kernel) dX6_init_29) <|
    BS.sq (pc' := 33) (s_put tyX6 3 isZ inX6 tyX6_ok nmX6 kc8 (by decide) kw217 rfl rfl (okf_Z G) dX6_init_30) <|
    BS.sq (pc' := 34) (s_aload_n (k := 0) 0 rfl dX6_init_33) <|
    BS.sq (pc' := 37) (s_ldc2 4194304 kw218 dX6_init_34) <|
    BS.sq (pc' := 40) (s_put tyX6 10 isJ inX6 tyX6_ok nmX6 kc8 (by decide) kw219 rfl rfl (okf_J G) dX6_init_37) <|
    BS.sq (pc' := 41) (s_aload_n (k := 0) 0 rfl dX6_init_40) <|
    BS.sq (pc' := 44) (s_ldc2 4194304 kw218 dX6_init_41) <|
    BS.sq (pc' := 47) (s_put tyX6 11 isJ inX6 tyX6_ok nmX6 kc8 (by decide) kw220 rfl rfl (okf_J G) dX6_init_44) <|
    s_ret rfl dX6_init_47) <|
  AllB.n)
-- NativeWorks$Machine.<init>()V
noncomputable def bs_X5_init : List rBl := [sq (h_ld isR 0) (sq (h_oinit) (sq (h_ld isR 0) (sq (h_new 8 12 [.inr (.inr 0), .inr (.inr 0), .inr (.inr 0), .inl 0, .inr (.inl 0), .inr (.inl 0), .inr (.inl 0), .inr (.inl 0), .inr (.inl 0), .inr (.inl 0), .inr (.inl 0), .inr (.inl 0)]) (sq (h_dup) (sq (h_call 1 (rRecv rFo 8) ev_X6_init) (sq (h_put 7 0 isR) (sq (h_ld isR 0) (sq (h_new 4 21 [.inr (.inr 0), .inr (.inr 0), .inr (.inr 0), .inr (.inr 0), .inr (.inr 0), .inr (.inr 0), .inl 0, .inl 0, .inl 0, .inl 0, .inl 0, .inl 0, .inl 0, .inl 0, .inr (.inl 0), .inl 0, .inr (.inl 0), .inl 0, .inl 0, .inl 0, .inl 0]) (sq (h_dup) (sq (h_call 1 (rRecv rFo 4) ev_X2_init) (sq (h_put 7 1 isR) (sq (h_ld isR 0) (sq (h_v (.inl 16)) (sq (h_newa 1 (.inr (.inl 0))) (sq (h_put 7 2 isR) (sq (h_ld isR 0) (sq (h_v (.inl 65536)) (sq (h_newa 2 (.inl 0)) (sq (h_put 7 3 isR) (sq (h_ld isR 0) (sq (h_v (.inl 65536)) (sq (h_newa 2 (.inl 0)) (sq (h_put 7 4 isR) (sq (h_ld isR 0) (sq (h_v (.inl 16)) (sq (h_newa 1 (.inr (.inl 0))) (sq (h_put 7 5 isR) (t_ret))))))))))))))))))))))))))))]
noncomputable def ev_X5_init : rEv := fun as w n => rIni 1 as (fun ls => rRun bs_X5_init 100000 0 ls [] w n 0)
set_option maxRecDepth 100000 in
set_option maxHeartbeats 4000000 in
theorem ok_X5_init (l : Launch) : rMet vwCl rFo rZs rRs rNs rTs l yX5_init cX5_init 1 ((Option.none : Option FieldType)) 3 125 ev_X5_init := met_of (pcs := [0]) (by decide +kernel) rfl (fun G n0 =>
  AllB.c (pb := 0) (
    BS.sq (pc' := 1) (s_aload_n (k := 0) 0 rfl dX5_init_0) <|
    BS.sq (pc' := 4) (s_oinit kw221 kw2 kwObj (by decide) (by decide) dX5_init_1) <|
    BS.sq (pc' := 5) (s_aload_n (k := 0) 0 rfl dX5_init_4) <|
    BS.sq (pc' := 8) (s_new tyX6 inX6 tyX6_ok kc8 kw222 kw223 kw224 rfl rfl dX5_init_5) <|
    BS.sq (pc' := 9) (s_dup dX5_init_8) <|
    BS.sq (pc' := 12) (s_callI 0 8 kc8 (ok_X6_init l) kGood kw226 kw227 kw224 kw225 rfl (by decide +kernel) (by decide) (by decide) dX5_init_9) <|
    BS.sq (pc' := 15) (s_putF tyX5 0 isR inX5 tyX5_ok nmX5 kc7 (by decide) kw228 rfl rfl rfl rfl (okf_O G _) dX5_init_12) <|
    BS.sq (pc' := 16) (s_aload_n (k := 0) 0 rfl dX5_init_15) <|
    BS.sq (pc' := 19) (s_new tyX2 inX2 tyX2_ok kc4 kw229 kw187 kw142 rfl rfl dX5_init_16) <|
    BS.sq (pc' := 20) (s_dup dX5_init_19) <|
    BS.sq (pc' := 23) (s_callI 0 4 kc4 (ok_X2_init l) kGood kw230 kw190 kw142 kw188 rfl (by decide +kernel) (by decide) (by decide) dX5_init_20) <|
    BS.sq (pc' := 26) (s_putF tyX5 1 isR inX5 tyX5_ok nmX5 kc7 (by decide) kw231 rfl rfl rfl rfl (okf_O G _) dX5_init_23) <|
    BS.sq (pc' := 27) (s_aload_n (k := 0) 0 rfl dX5_init_26) <|
    BS.sq (pc' := 29) (s_bipush 16 (by decide +kernel) dX5_init_27) <|
    BS.sq (pc' := 31) (s_newa 1 (.inr (.inl 0)) (by decide) rfl rfl (fun _ _ h => h) (by decide) kw26 dX5_init_29) <|
    BS.sq (pc' := 34) (s_putF tyX5 2 isR inX5 tyX5_ok nmX5 kc7 (by decide) kw232 rfl rfl rfl rfl (okf_A G _) dX5_init_31) <|
    BS.sq (pc' := 35) (s_aload_n (k := 0) 0 rfl dX5_init_34) <|
    BS.sq (pc' := 37) (s_ldc 65536 kw233 dX5_init_35) <|
    BS.sq (pc' := 39) (s_newa 2 (.inl 0) (by decide) rfl rfl (fun _ _ h => h) (by decide) kw3 dX5_init_37) <|
    BS.sq (pc' := 42) (s_putF tyX5 3 isR inX5 tyX5_ok nmX5 kc7 (by decide) kw234 rfl rfl rfl rfl (okf_A G _) dX5_init_39) <|
    BS.sq (pc' := 43) (s_aload_n (k := 0) 0 rfl dX5_init_42) <|
    BS.sq (pc' := 45) (s_ldc 65536 kw233 dX5_init_43) <|
    BS.sq (pc' := 47) (s_newa 2 (.inl 0) (by decide) rfl rfl (fun _ _ h => h) (by decide) kw3 dX5_init_45) <|
    BS.sq (pc' := 50) (s_putF tyX5 4 isR inX5 tyX5_ok nmX5 kc7 (by decide) kw235 rfl rfl rfl rfl (okf_A G _) dX5_init_47) <|
    BS.sq (pc' := 51) (s_aload_n (k := 0) 0 rfl dX5_init_50) <|
    BS.sq (pc' := 53) (s_bipush 16 (by decide +kernel) dX5_init_51) <|
    BS.sq (pc' := 55) (s_newa 1 (.inr (.inl 0)) (by decide) rfl rfl (fun _ _ h => h) (by decide) kw26 dX5_init_53) <|
    BS.sq (pc' := 58) (s_putF tyX5 5 isR inX5 tyX5_ok nmX5 kc7 (by decide) kw236 rfl rfl rfl rfl (okf_A G _) dX5_init_55) <|
    s_ret rfl dX5_init_58) <|
  AllB.n)
