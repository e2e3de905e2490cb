/-! METHODS -/
-- NativeWorks$Names.<init>(II)V
noncomputable def bs_X7_init : List rBl := [sq (h_ld isR 0) (sq (h_oinit) (sq (h_ld isR 0) (sq (h_ld isI 2) (sq (h_newa 2 (.inl 0)) (sq (h_put 9 0 isR) (sq (h_ld isR 0) (sq (h_ld isI 1) (sq (h_v (.inl 1)) (sq (h_bin (fun _ _ => true) rAdd) (sq (h_newa 0 (.inl 0)) (sq (h_put 9 1 isR) (sq (h_ld isR 0) (sq (h_ld isI 1) (sq (h_newa 0 (.inl 0)) (sq (h_put 9 2 isR) (sq (h_ld isR 0) (sq (h_ld isI 1) (sq (h_newa 0 (.inl 0)) (sq (h_put 9 3 isR) (sq (h_ld isR 0) (sq (h_v (.inl 1024)) (sq (h_newa 0 (.inl 0)) (sq (h_put 9 4 isR) (sq (h_ld isR 0) (sq (h_get rFo 9 4) (sq (h_v (.inl 4294967295)) (sq (h_call 2 rAny ev_J7_fill_53178) (sq (h_ld isR 0) (sq (h_v (.inl 0)) (sq (h_put 9 5 isI) (t_ret)))))))))))))))))))))))))))))))]
noncomputable def ev_X7_init : rEv := fun as w n => rIni 3 as (fun ls => rRun bs_X7_init 100000 0 ls [] w n 0)
set_option maxRecDepth 100000 in
set_option maxHeartbeats 4000000 in
theorem ok_X7_init (l : Launch) : rMet vwCl rFo rZs rRs rNs rTs l yX7_init cX7_init 3 ((Option.none : Option FieldType)) 1 23 ev_X7_init := met_of (pcs := [0]) (by decide +kernel) rfl (fun G n0 =>
  AllB.c (pb := 0) (
    BS.sq (pc' := 1) (s_aload_n (k := 0) 0 rfl dX7_init_0) <|
    BS.sq (pc' := 4) (s_oinit kw1 kw2 kwObj (by decide) (by decide) dX7_init_1) <|
    BS.sq (pc' := 5) (s_aload_n (k := 0) 0 rfl dX7_init_4) <|
    BS.sq (pc' := 6) (s_iload_n (k := 2) 2 rfl dX7_init_5) <|
    BS.sq (pc' := 8) (s_newa 2 (.inl 0) (by decide) rfl rfl (fun _ _ h => h) (by decide) kw3 dX7_init_6) <|
    BS.sq (pc' := 11) (s_putF tyX7 0 isR inX7 tyX7_ok nmX7 kc9 (by decide) kw4 rfl rfl rfl rfl (okf_A G _) dX7_init_8) <|
    BS.sq (pc' := 12) (s_aload_n (k := 0) 0 rfl dX7_init_11) <|
    BS.sq (pc' := 13) (s_iload_n (k := 1) 1 rfl dX7_init_12) <|
    BS.sq (pc' := 14) (s_iconst 1 (by decide +kernel) dX7_init_13) <|
    BS.sq (pc' := 15) (s_iadd dX7_init_14) <|
    BS.sq (pc' := 17) (s_newa 0 (.inl 0) (by decide) rfl rfl (fun _ _ h => h) (by decide) kw5 dX7_init_15) <|
    BS.sq (pc' := 20) (s_putF tyX7 1 isR inX7 tyX7_ok nmX7 kc9 (by decide) kw6 rfl rfl rfl rfl (okf_A G _) dX7_init_17) <|
    BS.sq (pc' := 21) (s_aload_n (k := 0) 0 rfl dX7_init_20) <|
    BS.sq (pc' := 22) (s_iload_n (k := 1) 1 rfl dX7_init_21) <|
    BS.sq (pc' := 24) (s_newa 0 (.inl 0) (by decide) rfl rfl (fun _ _ h => h) (by decide) kw5 dX7_init_22) <|
    BS.sq (pc' := 27) (s_putF tyX7 2 isR inX7 tyX7_ok nmX7 kc9 (by decide) kw7 rfl rfl rfl rfl (okf_A G _) dX7_init_24) <|
    BS.sq (pc' := 28) (s_aload_n (k := 0) 0 rfl dX7_init_27) <|
    BS.sq (pc' := 29) (s_iload_n (k := 1) 1 rfl dX7_init_28) <|
    BS.sq (pc' := 31) (s_newa 0 (.inl 0) (by decide) rfl rfl (fun _ _ h => h) (by decide) kw5 dX7_init_29) <|
    BS.sq (pc' := 34) (s_putF tyX7 3 isR inX7 tyX7_ok nmX7 kc9 (by decide) kw8 rfl rfl rfl rfl (okf_A G _) dX7_init_31) <|
    BS.sq (pc' := 35) (s_aload_n (k := 0) 0 rfl dX7_init_34) <|
    BS.sq (pc' := 38) (s_sipush 1024 (by decide +kernel) dX7_init_35) <|
    BS.sq (pc' := 40) (s_newa 0 (.inl 0) (by decide) rfl rfl (fun _ _ h => h) (by decide) kw5 dX7_init_38) <|
    BS.sq (pc' := 43) (s_putF tyX7 4 isR inX7 tyX7_ok nmX7 kc9 (by decide) kw9 rfl rfl rfl rfl (okf_A G _) dX7_init_40) <|
    BS.sq (pc' := 44) (s_aload_n (k := 0) 0 rfl dX7_init_43) <|
    BS.sq (pc' := 47) (s_get 4 inX7 kc9 (by decide) kw9 rfl dX7_init_44) <|
    BS.sq (pc' := 48) (s_iconst 4294967295 (by decide +kernel) dX7_init_47) <|
    BS.sq (pc' := 51) (s_callS 2 (ok_J7_fill_53178 l) kGood kw11 kw12 kw13 kw10 (by decide +kernel) (by decide) (by decide) dX7_init_48) <|
    BS.sq (pc' := 52) (s_aload_n (k := 0) 0 rfl dX7_init_51) <|
    BS.sq (pc' := 53) (s_iconst 0 (by decide +kernel) dX7_init_52) <|
    BS.sq (pc' := 56) (s_put tyX7 5 isI inX7 tyX7_ok nmX7 kc9 (by decide) kw14 rfl rfl (okf_I G) dX7_init_53) <|
    s_ret rfl dX7_init_56) <|
  AllB.n)
-- NativeWorks$Units.<init>()V
noncomputable def bs_X10_init : List rBl := [sq (h_ld isR 0) (sq (h_oinit) (sq (h_ld isR 0) (sq (h_new 9 6 [.inr (.inr 0), .inr (.inr 0), .inr (.inr 0), .inr (.inr 0), .inr (.inr 0), .inl 0]) (sq (h_dup) (sq (h_v (.inl 1024)) (sq (h_v (.inl 129024)) (sq (h_call 3 (rRecv rFo 9) ev_X7_init) (sq (h_put 12 0 isR) (sq (h_ld isR 0) (sq (h_v (.inl 1024)) (sq (h_v (.inl 6)) (sq (h_multi 0 5) (sq (h_put 12 1 isR) (sq (h_ld isR 0) (sq (h_v (.inl 1024)) (sq (h_newa 1 (.inr (.inl 0))) (sq (h_put 12 2 isR) (sq (h_ld isR 0) (sq (h_v (.inl 1024)) (sq (h_newa 0 (.inl 0)) (sq (h_put 12 3 isR) (sq (h_ld isR 0) (sq (h_v (.inl 8192)) (sq (h_v (.inl 7)) (sq (h_multi 0 5) (sq (h_put 12 4 isR) (sq (h_ld isR 0) (sq (h_v (.inl 4096)) (sq (h_v (.inl 6)) (sq (h_multi 0 5) (sq (h_put 12 5 isR) (sq (h_ld isR 0) (sq (h_v (.inl 4096)) (sq (h_newa 1 (.inr (.inl 0))) (sq (h_put 12 6 isR) (sq (h_ld isR 0) (sq (h_v (.inl 131072)) (sq (h_newa 2 (.inl 0)) (sq (h_put 12 7 isR) (sq (h_ld isR 0) (sq (h_v (.inl 131072)) (sq (h_newa 2 (.inl 0)) (sq (h_put 12 8 isR) (sq (h_ld isR 0) (sq (h_v (.inl 33)) (sq (h_v (.inl 17)) (sq (h_multiK) (sq (h_put 12 9 isR) (sq (h_ld isR 0) (sq (h_v (.inl 4)) (sq (h_newa 0 (.inl 0)) (sq (h_put 12 10 isR) (t_ret)))))))))))))))))))))))))))))))))))))))))))))))))))))]
noncomputable def ev_X10_init : rEv := fun as w n => rIni 1 as (fun ls => rRun bs_X10_init 100000 0 ls [] w n 0)
set_option maxRecDepth 100000 in
set_option maxHeartbeats 4000000 in
theorem ok_X10_init (l : Launch) : rMet vwCl rFo rZs rRs rNs rTs l yX10_init cX10_init 1 ((Option.none : Option FieldType)) 2 45 ev_X10_init := met_of (pcs := [0]) (by decide +kernel) rfl (fun G n0 =>
  AllB.c (pb := 0) (
    BS.sq (pc' := 1) (s_aload_n (k := 0) 0 rfl dX10_init_0) <|
    BS.sq (pc' := 4) (s_oinit kw15 kw2 kwObj (by decide) (by decide) dX10_init_1) <|
    BS.sq (pc' := 5) (s_aload_n (k := 0) 0 rfl dX10_init_4) <|
    BS.sq (pc' := 8) (s_new tyX7 inX7 tyX7_ok kc9 kw16 kw17 kw18 rfl rfl dX10_init_5) <|
    BS.sq (pc' := 9) (s_dup dX10_init_8) <|
    BS.sq (pc' := 12) (s_sipush 1024 (by decide +kernel) dX10_init_9) <|
    BS.sq (pc' := 14) (s_ldc 129024 kw19 dX10_init_12) <|
    BS.sq (pc' := 17) (s_callI 2 9 kc9 (ok_X7_init l) kGood kw21 kw22 kw18 kw20 rfl (by decide +kernel) (by decide) (by decide) dX10_init_14) <|
    BS.sq (pc' := 20) (s_putF tyX10 0 isR inX10 tyX10_ok nmX10 kc12 (by decide) kw23 rfl rfl rfl rfl (okf_O G _) dX10_init_17) <|
    BS.sq (pc' := 21) (s_aload_n (k := 0) 0 rfl dX10_init_20) <|
    BS.sq (pc' := 24) (s_sipush 1024 (by decide +kernel) dX10_init_21) <|
    BS.sq (pc' := 26) (s_bipush 6 (by decide +kernel) dX10_init_24) <|
    BS.sq (pc' := 30) (s_multi 0 5 (by decide) (by decide) (by decide) rfl rfl (fun _ _ h => h) (fun _ _ h => h) kw24 kn0 kw5 (by decide) rfl rfl dX10_init_26) <|
    BS.sq (pc' := 33) (s_putF tyX10 1 isR inX10 tyX10_ok nmX10 kc12 (by decide) kw25 rfl rfl rfl rfl (okf_A G _) dX10_init_30) <|
    BS.sq (pc' := 34) (s_aload_n (k := 0) 0 rfl dX10_init_33) <|
    BS.sq (pc' := 37) (s_sipush 1024 (by decide +kernel) dX10_init_34) <|
    BS.sq (pc' := 39) (s_newa 1 (.inr (.inl 0)) (by decide) rfl rfl (fun _ _ h => h) (by decide) kw26 dX10_init_37) <|
    BS.sq (pc' := 42) (s_putF tyX10 2 isR inX10 tyX10_ok nmX10 kc12 (by decide) kw27 rfl rfl rfl rfl (okf_A G _) dX10_init_39) <|
    BS.sq (pc' := 43) (s_aload_n (k := 0) 0 rfl dX10_init_42) <|
    BS.sq (pc' := 46) (s_sipush 1024 (by decide +kernel) dX10_init_43) <|
    BS.sq (pc' := 48) (s_newa 0 (.inl 0) (by decide) rfl rfl (fun _ _ h => h) (by decide) kw5 dX10_init_46) <|
    BS.sq (pc' := 51) (s_putF tyX10 3 isR inX10 tyX10_ok nmX10 kc12 (by decide) kw28 rfl rfl rfl rfl (okf_A G _) dX10_init_48) <|
    BS.sq (pc' := 52) (s_aload_n (k := 0) 0 rfl dX10_init_51) <|
    BS.sq (pc' := 55) (s_sipush 8192 (by decide +kernel) dX10_init_52) <|
    BS.sq (pc' := 57) (s_bipush 7 (by decide +kernel) dX10_init_55) <|
    BS.sq (pc' := 61) (s_multi 0 5 (by decide) (by decide) (by decide) rfl rfl (fun _ _ h => h) (fun _ _ h => h) kw24 kn0 kw5 (by decide) rfl rfl dX10_init_57) <|
    BS.sq (pc' := 64) (s_putF tyX10 4 isR inX10 tyX10_ok nmX10 kc12 (by decide) kw29 rfl rfl rfl rfl (okf_A G _) dX10_init_61) <|
    BS.sq (pc' := 65) (s_aload_n (k := 0) 0 rfl dX10_init_64) <|
    BS.sq (pc' := 68) (s_sipush 4096 (by decide +kernel) dX10_init_65) <|
    BS.sq (pc' := 70) (s_bipush 6 (by decide +kernel) dX10_init_68) <|
    BS.sq (pc' := 74) (s_multi 0 5 (by decide) (by decide) (by decide) rfl rfl (fun _ _ h => h) (fun _ _ h => h) kw24 kn0 kw5 (by decide) rfl rfl dX10_init_70) <|
    BS.sq (pc' := 77) (s_putF tyX10 5 isR inX10 tyX10_ok nmX10 kc12 (by decide) kw30 rfl rfl rfl rfl (okf_A G _) dX10_init_74) <|
    BS.sq (pc' := 78) (s_aload_n (k := 0) 0 rfl dX10_init_77) <|
    BS.sq (pc' := 81) (s_sipush 4096 (by decide +kernel) dX10_init_78) <|
    BS.sq (pc' := 83) (s_newa 1 (.inr (.inl 0)) (by decide) rfl rfl (fun _ _ h => h) (by decide) kw26 dX10_init_81) <|
    BS.sq (pc' := 86) (s_putF tyX10 6 isR inX10 tyX10_ok nmX10 kc12 (by decide) kw31 rfl rfl rfl rfl (okf_A G _) dX10_init_83) <|
    BS.sq (pc' := 87) (s_aload_n (k := 0) 0 rfl dX10_init_86) <|
    BS.sq (pc' := 89) (s_ldc 131072 kw32 dX10_init_87) <|
    BS.sq (pc' := 91) (s_newa 2 (.inl 0) (by decide) rfl rfl (fun _ _ h => h) (by decide) kw3 dX10_init_89) <|
    BS.sq (pc' := 94) (s_putF tyX10 7 isR inX10 tyX10_ok nmX10 kc12 (by decide) kw33 rfl rfl rfl rfl (okf_A G _) dX10_init_91) <|
    BS.sq (pc' := 95) (s_aload_n (k := 0) 0 rfl dX10_init_94) <|
    BS.sq (pc' := 97) (s_ldc 131072 kw32 dX10_init_95) <|
    BS.sq (pc' := 99) (s_newa 2 (.inl 0) (by decide) rfl rfl (fun _ _ h => h) (by decide) kw3 dX10_init_97) <|
    BS.sq (pc' := 102) (s_putF tyX10 8 isR inX10 tyX10_ok nmX10 kc12 (by decide) kw34 rfl rfl rfl rfl (okf_A G _) dX10_init_99) <|
    BS.sq (pc' := 103) (s_aload_n (k := 0) 0 rfl dX10_init_102) <|
    BS.sq (pc' := 105) (s_bipush 33 (by decide +kernel) dX10_init_103) <|
    BS.sq (pc' := 107) (s_bipush 17 (by decide +kernel) dX10_init_105) <|
    BS.sq (pc' := 111) (s_multiK rfl kw24 kn0 kw5 dX10_init_107) <|
    BS.sq (pc' := 114) (s_putF tyX10 9 isR inX10 tyX10_ok nmX10 kc12 (by decide) kw35 rfl rfl rfl rfl (okf_A G _) dX10_init_111) <|
    BS.sq (pc' := 115) (s_aload_n (k := 0) 0 rfl dX10_init_114) <|
    BS.sq (pc' := 116) (s_iconst 4 (by decide +kernel) dX10_init_115) <|
    BS.sq (pc' := 118) (s_newa 0 (.inl 0) (by decide) rfl rfl (fun _ _ h => h) (by decide) kw5 dX10_init_116) <|
    BS.sq (pc' := 121) (s_putF tyX10 10 isR inX10 tyX10_ok nmX10 kc12 (by decide) kw36 rfl rfl rfl rfl (okf_A G _) dX10_init_118) <|
    s_ret rfl dX10_init_121) <|
  AllB.n)
-- java/lang/String.coder()B
noncomputable def bs_J0_coder_7d493 : List rBl := [sq (h_v (.inl 1)) (t_if (fun a => rEq a 0) 2 1),
  sq (h_ld isR 0) (sq (h_get rFo 0 1) (t_go 3)),
  t_no,
  t_retv isB]
noncomputable def ev_J0_coder_7d493 : rEv := fun as w n => rIni 1 as (fun ls => rRun bs_J0_coder_7d493 100000 0 ls [] w n 0)
set_option maxRecDepth 100000 in
set_option maxHeartbeats 4000000 in
theorem ok_J0_coder_7d493 (l : Launch) : rMet vwCl rFo rZs rRs rNs rTs l yJ0_coder_7d493 cJ0_coder_7d493 1 ((Option.some FieldType.byte)) 0 0 ev_J0_coder_7d493 := met_of (pcs := [0, 6, 13, 14]) (by decide +kernel) rfl (fun G n0 =>
  AllB.c (pb := 0) (
    BS.sq (pc' := 3) (s_gets (.inl 1) kz0 kw37 rfl dJ0_coder_7d493_0) <|
    s_if_eq rfl rfl (by decide) dJ0_coder_7d493_3) <|
  AllB.c (pb := 6) (
    BS.sq (pc' := 7) (s_aload_n (k := 0) 0 rfl dJ0_coder_7d493_6) <|
    BS.sq (pc' := 10) (s_get 1 inJ0 kc0 (by decide) kw38 rfl dJ0_coder_7d493_7) <|
    s_goto rfl (by decide) dJ0_coder_7d493_10) <|
  AllB.c (pb := 13) (
    BS.no) <|
  AllB.c (pb := 14) (
    s_reti isB rfl okr_B dJ0_coder_7d493_14) <|
  AllB.n)
-- java/lang/String.length()I
noncomputable def bs_J0_length_8abf5 : List rBl := [sq (h_ld isR 0) (sq (h_get rFo 0 0) (sq (h_alen rFo) (sq (h_ld isR 0) (sq (h_call 1 (rRecv rFo 0) ev_J0_coder_7d493) (sq (h_bin okShr rShr) (t_retv isI))))))]
noncomputable def ev_J0_length_8abf5 : rEv := fun as w n => rIni 1 as (fun ls => rRun bs_J0_length_8abf5 100000 0 ls [] w n 0)
set_option maxRecDepth 100000 in
set_option maxHeartbeats 4000000 in
theorem ok_J0_length_8abf5 (l : Launch) : rMet vwCl rFo rZs rRs rNs rTs l yJ0_length_8abf5 cJ0_length_8abf5 1 ((Option.some FieldType.int)) 1 20 ev_J0_length_8abf5 := met_of (pcs := [0]) (by decide +kernel) rfl (fun G n0 =>
  AllB.c (pb := 0) (
    BS.sq (pc' := 1) (s_aload_n (k := 0) 0 rfl dJ0_length_8abf5_0) <|
    BS.sq (pc' := 4) (s_get 0 inJ0 kc0 (by decide) kw39 rfl dJ0_length_8abf5_1) <|
    BS.sq (pc' := 5) (s_alen dJ0_length_8abf5_4) <|
    BS.sq (pc' := 6) (s_aload_n (k := 0) 0 rfl dJ0_length_8abf5_5) <|
    BS.sq (pc' := 9) (s_callV 0 0 kc0 (ok_J0_coder_7d493 l) kGood kw41 kw42 kw43 kw44 kw40 (by decide +kernel) (by decide) (by decide) dJ0_length_8abf5_6) <|
    BS.sq (pc' := 10) (s_ishr dJ0_length_8abf5_9) <|
    s_reti isI rfl okr_I dJ0_length_8abf5_10) <|
  AllB.n)
-- java/lang/String.isLatin1()Z
noncomputable def bs_J0_isLatin1_aae02 : List rBl := [sq (h_v (.inl 1)) (t_if (fun a => rEq a 0) 3 1),
  sq (h_ld isR 0) (sq (h_get rFo 0 1) (t_if (fun a => rNot (rEq a 0)) 3 2)),
  sq (h_v (.inl 1)) (t_go 4),
  t_no,
  t_retv isZ]
noncomputable def ev_J0_isLatin1_aae02 : rEv := fun as w n => rIni 1 as (fun ls => rRun bs_J0_isLatin1_aae02 100000 0 ls [] w n 0)
set_option maxRecDepth 100000 in
set_option maxHeartbeats 4000000 in
theorem ok_J0_isLatin1_aae02 (l : Launch) : rMet vwCl rFo rZs rRs rNs rTs l yJ0_isLatin1_aae02 cJ0_isLatin1_aae02 1 ((Option.some FieldType.boolean)) 0 0 ev_J0_isLatin1_aae02 := met_of (pcs := [0, 6, 13, 17, 18]) (by decide +kernel) rfl (fun G n0 =>
  AllB.c (pb := 0) (
    BS.sq (pc' := 3) (s_gets (.inl 1) kz0 kw37 rfl dJ0_isLatin1_aae02_0) <|
    s_if_eq rfl rfl (by decide) dJ0_isLatin1_aae02_3) <|
  AllB.c (pb := 6) (
    BS.sq (pc' := 7) (s_aload_n (k := 0) 0 rfl dJ0_isLatin1_aae02_6) <|
    BS.sq (pc' := 10) (s_get 1 inJ0 kc0 (by decide) kw38 rfl dJ0_isLatin1_aae02_7) <|
    s_if_ne rfl rfl (by decide) dJ0_isLatin1_aae02_10) <|
  AllB.c (pb := 13) (
    BS.sq (pc' := 14) (s_iconst 1 (by decide +kernel) dJ0_isLatin1_aae02_13) <|
    s_goto rfl (by decide) dJ0_isLatin1_aae02_14) <|
  AllB.c (pb := 17) (
    BS.no) <|
  AllB.c (pb := 18) (
    s_reti isZ rfl okr_Z dJ0_isLatin1_aae02_18) <|
  AllB.n)
-- jdk/internal/util/Preconditions.checkIndex(IILjava/util/function/BiFunction;)I
noncomputable def bs_J3_checkIndex_8e157 : List rBl := [sq (h_ld isI 0) (t_if (fun a => rLt a 0) 2 1),
  sq (h_ld isI 0) (sq (h_ld isI 1) (t_icmp rLt 3 2)),
  t_no,
  sq (h_ld isI 0) (t_retv isI)]
noncomputable def ev_J3_checkIndex_8e157 : rEv := fun as w n => rIni 3 as (fun ls => rRun bs_J3_checkIndex_8e157 100000 0 ls [] w n 0)
set_option maxRecDepth 100000 in
set_option maxHeartbeats 4000000 in
theorem ok_J3_checkIndex_8e157 (l : Launch) : rMet vwCl rFo rZs rRs rNs rTs l yJ3_checkIndex_8e157 cJ3_checkIndex_8e157 3 ((Option.some FieldType.int)) 0 0 ev_J3_checkIndex_8e157 := met_of (pcs := [0, 4, 9, 16]) (by decide +kernel) rfl (fun G n0 =>
  AllB.c (pb := 0) (
    BS.sq (pc' := 1) (s_iload_n (k := 0) 0 rfl dJ3_checkIndex_8e157_0) <|
    s_if_lt rfl rfl (by decide) dJ3_checkIndex_8e157_1) <|
  AllB.c (pb := 4) (
    BS.sq (pc' := 5) (s_iload_n (k := 0) 0 rfl dJ3_checkIndex_8e157_4) <|
    BS.sq (pc' := 6) (s_iload_n (k := 1) 1 rfl dJ3_checkIndex_8e157_5) <|
    s_icmp_lt rfl rfl (by decide) dJ3_checkIndex_8e157_6) <|
  AllB.c (pb := 9) (
    BS.no) <|
  AllB.c (pb := 16) (
    BS.sq (pc' := 17) (s_iload_n (k := 0) 0 rfl dJ3_checkIndex_8e157_16) <|
    s_reti isI rfl okr_I dJ3_checkIndex_8e157_17) <|
  AllB.n)
-- java/lang/String.checkIndex(II)V
noncomputable def bs_J0_checkIndex_df160 : List rBl := [sq (h_ld isI 0) (sq (h_ld isI 1) (sq (h_v (.inr (.inr 20002))) (sq (h_call 3 rAny ev_J3_checkIndex_8e157) (sq (h_pop) (t_ret)))))]
noncomputable def ev_J0_checkIndex_df160 : rEv := fun as w n => rIni 2 as (fun ls => rRun bs_J0_checkIndex_df160 100000 0 ls [] w n 0)
set_option maxRecDepth 100000 in
set_option maxHeartbeats 4000000 in
theorem ok_J0_checkIndex_df160 (l : Launch) : rMet vwCl rFo rZs rRs rNs rTs l yJ0_checkIndex_df160 cJ0_checkIndex_df160 2 ((Option.none : Option FieldType)) 1 22 ev_J0_checkIndex_df160 := met_of (pcs := [0]) (by decide +kernel) rfl (fun G n0 =>
  AllB.c (pb := 0) (
    BS.sq (pc' := 1) (s_iload_n (k := 0) 0 rfl dJ0_checkIndex_df160_0) <|
    BS.sq (pc' := 2) (s_iload_n (k := 1) 1 rfl dJ0_checkIndex_df160_1) <|
    BS.sq (pc' := 5) (s_gets (.inr (.inr 20002)) kz1 kw45 rfl dJ0_checkIndex_df160_2) <|
    BS.sq (pc' := 8) (s_callS 3 (ok_J3_checkIndex_8e157 l) kGood kw47 kw48 kw49 kw46 (by decide +kernel) (by decide) (by decide) dJ0_checkIndex_df160_5) <|
    BS.sq (pc' := 9) (s_pop dJ0_checkIndex_df160_8) <|
    s_ret rfl dJ0_checkIndex_df160_9) <|
  AllB.n)
-- java/lang/StringLatin1.charAt([BI)C
noncomputable def bs_J1_charAt_3b067 : List rBl := [sq (h_ld isI 1) (sq (h_ld isR 0) (sq (h_alen rFo) (sq (h_call 2 rAny ev_J0_checkIndex_df160) (sq (h_ld isR 0) (sq (h_ld isI 1) (sq (h_ald rFo okB) (sq (h_v (.inl 255)) (sq (h_bin (fun _ _ => true) Nat.land) (sq (h_un (fun a => Nat.ble a 65535) (fun a => a)) (t_retv isC))))))))))]
noncomputable def ev_J1_charAt_3b067 : rEv := fun as w n => rIni 2 as (fun ls => rRun bs_J1_charAt_3b067 100000 0 ls [] w n 0)
set_option maxRecDepth 100000 in
set_option maxHeartbeats 4000000 in
theorem ok_J1_charAt_3b067 (l : Launch) : rMet vwCl rFo rZs rRs rNs rTs l yJ1_charAt_3b067 cJ1_charAt_3b067 2 ((Option.some FieldType.char)) 2 43 ev_J1_charAt_3b067 := met_of (pcs := [0]) (by decide +kernel) rfl (fun G n0 =>
  AllB.c (pb := 0) (
    BS.sq (pc' := 1) (s_iload_n (k := 1) 1 rfl dJ1_charAt_3b067_0) <|
    BS.sq (pc' := 2) (s_aload_n (k := 0) 0 rfl dJ1_charAt_3b067_1) <|
    BS.sq (pc' := 3) (s_alen dJ1_charAt_3b067_2) <|
    BS.sq (pc' := 6) (s_callS 2 (ok_J0_checkIndex_df160 l) kGood kw51 kw52 kw44 kw50 (by decide +kernel) (by decide) (by decide) dJ1_charAt_3b067_3) <|
    BS.sq (pc' := 7) (s_aload_n (k := 0) 0 rfl dJ1_charAt_3b067_6) <|
    BS.sq (pc' := 8) (s_iload_n (k := 1) 1 rfl dJ1_charAt_3b067_7) <|
    BS.sq (pc' := 9) (s_baload dJ1_charAt_3b067_8) <|
    BS.sq (pc' := 12) (s_sipush 255 (by decide +kernel) dJ1_charAt_3b067_9) <|
    BS.sq (pc' := 13) (s_iand dJ1_charAt_3b067_12) <|
    BS.sq (pc' := 14) (s_i2c dJ1_charAt_3b067_13) <|
    s_reti isC rfl okr_C dJ1_charAt_3b067_14) <|
  AllB.n)
-- java/lang/String.charAt(I)C
noncomputable def bs_J0_charAt_5068e : List rBl := [sq (h_ld isR 0) (sq (h_call 1 (rRecv rFo 0) ev_J0_isLatin1_aae02) (t_if (fun a => rEq a 0) 2 1)),
  sq (h_ld isR 0) (sq (h_get rFo 0 0) (sq (h_ld isI 1) (sq (h_call 2 rAny ev_J1_charAt_3b067) (t_retv isC)))),
  t_no]
noncomputable def ev_J0_charAt_5068e : rEv := fun as w n => rIni 2 as (fun ls => rRun bs_J0_charAt_5068e 100000 0 ls [] w n 0)
set_option maxRecDepth 100000 in
set_option maxHeartbeats 4000000 in
theorem ok_J0_charAt_5068e (l : Launch) : rMet vwCl rFo rZs rRs rNs rTs l yJ0_charAt_5068e cJ0_charAt_5068e 2 ((Option.some FieldType.char)) 3 64 ev_J0_charAt_5068e := met_of (pcs := [0, 7, 16]) (by decide +kernel) rfl (fun G n0 =>
  AllB.c (pb := 0) (
    BS.sq (pc' := 1) (s_aload_n (k := 0) 0 rfl dJ0_charAt_5068e_0) <|
    BS.sq (pc' := 4) (s_callV 0 0 kc0 (ok_J0_isLatin1_aae02 l) kGood kw54 kw55 kw56 kw44 kw53 (by decide +kernel) (by decide) (by decide) dJ0_charAt_5068e_1) <|
    s_if_eq rfl rfl (by decide) dJ0_charAt_5068e_4) <|
  AllB.c (pb := 7) (
    BS.sq (pc' := 8) (s_aload_n (k := 0) 0 rfl dJ0_charAt_5068e_7) <|
    BS.sq (pc' := 11) (s_get 0 inJ0 kc0 (by decide) kw39 rfl dJ0_charAt_5068e_8) <|
    BS.sq (pc' := 12) (s_iload_n (k := 1) 1 rfl dJ0_charAt_5068e_11) <|
    BS.sq (pc' := 15) (s_callS 2 (ok_J1_charAt_3b067 l) kGood kw58 kw59 kw60 kw57 (by decide +kernel) (by decide) (by decide) dJ0_charAt_5068e_12) <|
    s_reti isC rfl okr_C dJ0_charAt_5068e_15) <|
  AllB.c (pb := 16) (
    BS.no) <|
  AllB.n)
-- NativeWorks$Names.add([BII)I
noncomputable def bs_X7_add : List rBl := [sq (h_ld isR 0) (sq (h_get rFo 9 5) (sq (h_ld isR 0) (sq (h_get rFo 9 2) (sq (h_alen rFo) (t_icmp rEq 2 1))))),
  sq (h_ld isR 0) (sq (h_get rFo 9 1) (sq (h_ld isR 0) (sq (h_get rFo 9 5) (sq (h_ald rFo okI) (sq (h_ld isI 3) (sq (h_bin (fun _ _ => true) rAdd) (sq (h_ld isR 0) (sq (h_get rFo 9 0) (sq (h_alen rFo) (t_icmp rLe 3 2)))))))))),
  t_no,
  sq (h_v (.inl 0)) (sq (h_st isI 4) (sq (h_ld isI 2) (sq (h_st isI 5) (t_go 4)))),
  sq (h_ld isI 5) (sq (h_ld isI 2) (sq (h_ld isI 3) (sq (h_bin (fun _ _ => true) rAdd) (t_icmp (fun a b => rNot (rLt a b)) 6 5)))),
  sq (h_v (.inl 31)) (sq (h_ld isI 4) (sq (h_bin (fun _ _ => true) rMul) (sq (h_ld isR 1) (sq (h_ld isI 5) (sq (h_ald rFo okB) (sq (h_bin (fun _ _ => true) rAdd) (sq (h_st isI 4) (sq (h_inc 5 1) (t_go 4))))))))),
  sq (h_ld isR 1) (sq (h_ld isI 2) (sq (h_ld isR 0) (sq (h_get rFo 9 0) (sq (h_ld isR 0) (sq (h_get rFo 9 1) (sq (h_ld isR 0) (sq (h_get rFo 9 5) (sq (h_ald rFo okI) (sq (h_ld isI 3) (sq (h_acopy rFo) (sq (h_ld isR 0) (sq (h_get rFo 9 1) (sq (h_ld isR 0) (sq (h_get rFo 9 5) (sq (h_v (.inl 1)) (sq (h_bin (fun _ _ => true) rAdd) (sq (h_ld isR 0) (sq (h_get rFo 9 1) (sq (h_ld isR 0) (sq (h_get rFo 9 5) (sq (h_ald rFo okI) (sq (h_ld isI 3) (sq (h_bin (fun _ _ => true) rAdd) (sq (h_ast okI) (sq (h_ld isR 0) (sq (h_get rFo 9 3) (sq (h_ld isR 0) (sq (h_get rFo 9 5) (sq (h_ld isI 4) (sq (h_v (.inl 1023)) (sq (h_bin (fun _ _ => true) Nat.land) (sq (h_ast okI) (sq (h_ld isR 0) (sq (h_get rFo 9 2) (sq (h_ld isR 0) (sq (h_get rFo 9 5) (sq (h_ld isR 0) (sq (h_get rFo 9 4) (sq (h_ld isR 0) (sq (h_get rFo 9 3) (sq (h_ld isR 0) (sq (h_get rFo 9 5) (sq (h_ald rFo okI) (sq (h_ald rFo okI) (sq (h_ast okI) (sq (h_ld isR 0) (sq (h_get rFo 9 4) (sq (h_ld isR 0) (sq (h_get rFo 9 3) (sq (h_ld isR 0) (sq (h_get rFo 9 5) (sq (h_ald rFo okI) (sq (h_ld isR 0) (sq (h_get rFo 9 5) (sq (h_ast okI) (sq (h_ld isR 0) (sq (h_dup) (sq (h_get rFo 9 5) (sq (h_dupx1) (t_go 7)))))))))))))))))))))))))))))))))))))))))))))))))))))))))))),
  sq (h_v (.inl 1)) (sq (h_bin (fun _ _ => true) rAdd) (sq (h_put 9 5 isI) (t_retv isI)))]
noncomputable def ev_X7_add : rEv := fun as w n => rIni 6 as (fun ls => rRun bs_X7_add 100000 0 ls [] w n 0)
set_option maxRecDepth 100000 in
set_option maxHeartbeats 4000000 in
theorem ok_X7_add (l : Launch) : rMet vwCl rFo rZs rRs rNs rTs l yX7_add cX7_add 6 ((Option.some FieldType.int)) 1 100 ev_X7_add := met_of (pcs := [0, 12, 31, 33, 39, 47, 65, 168]) (by decide +kernel) rfl (fun G n0 =>
  AllB.c (pb := 0) (
    BS.sq (pc' := 1) (s_aload_n (k := 0) 0 rfl dX7_add_0) <|
    BS.sq (pc' := 4) (s_get 5 inX7 kc9 (by decide) kw14 rfl dX7_add_1) <|
    BS.sq (pc' := 5) (s_aload_n (k := 0) 0 rfl dX7_add_4) <|
    BS.sq (pc' := 8) (s_get 2 inX7 kc9 (by decide) kw7 rfl dX7_add_5) <|
    BS.sq (pc' := 9) (s_alen dX7_add_8) <|
    s_icmp_eq rfl rfl (by decide) dX7_add_9) <|
  AllB.c (pb := 12) (
    BS.sq (pc' := 13) (s_aload_n (k := 0) 0 rfl dX7_add_12) <|
    BS.sq (pc' := 16) (s_get 1 inX7 kc9 (by decide) kw6 rfl dX7_add_13) <|
    BS.sq (pc' := 17) (s_aload_n (k := 0) 0 rfl dX7_add_16) <|
    BS.sq (pc' := 20) (s_get 5 inX7 kc9 (by decide) kw14 rfl dX7_add_17) <|
    BS.sq (pc' := 21) (s_iaload dX7_add_20) <|
    BS.sq (pc' := 22) (s_iload_n (k := 3) 3 rfl dX7_add_21) <|
    BS.sq (pc' := 23) (s_iadd dX7_add_22) <|
    BS.sq (pc' := 24) (s_aload_n (k := 0) 0 rfl dX7_add_23) <|
    BS.sq (pc' := 27) (s_get 0 inX7 kc9 (by decide) kw4 rfl dX7_add_24) <|
    BS.sq (pc' := 28) (s_alen dX7_add_27) <|
    s_icmp_le rfl rfl (by decide) dX7_add_28) <|
  AllB.c (pb := 31) (
    BS.no) <|
  AllB.c (pb := 33) (
    BS.sq (pc' := 34) (s_iconst 0 (by decide +kernel) dX7_add_33) <|
    BS.sq (pc' := 36) (s_istore 4 (by decide) dX7_add_34) <|
    BS.sq (pc' := 37) (s_iload_n (k := 2) 2 rfl dX7_add_36) <|
    BS.sq (pc' := 39) (s_istore 5 (by decide) dX7_add_37) <|
    BS.go rfl) <|
  AllB.c (pb := 39) (
    BS.sq (pc' := 41) (s_iload 5 dX7_add_39) <|
    BS.sq (pc' := 42) (s_iload_n (k := 2) 2 rfl dX7_add_41) <|
    BS.sq (pc' := 43) (s_iload_n (k := 3) 3 rfl dX7_add_42) <|
    BS.sq (pc' := 44) (s_iadd dX7_add_43) <|
    s_icmp_ge rfl rfl (by decide) dX7_add_44) <|
  AllB.c (pb := 47) (
    BS.sq (pc' := 49) (s_bipush 31 (by decide +kernel) dX7_add_47) <|
    BS.sq (pc' := 51) (s_iload 4 dX7_add_49) <|
    BS.sq (pc' := 52) (s_imul dX7_add_51) <|
    BS.sq (pc' := 53) (s_aload_n (k := 1) 1 rfl dX7_add_52) <|
    BS.sq (pc' := 55) (s_iload 5 dX7_add_53) <|
    BS.sq (pc' := 56) (s_baload dX7_add_55) <|
    BS.sq (pc' := 57) (s_iadd dX7_add_56) <|
    BS.sq (pc' := 59) (s_istore 4 (by decide) dX7_add_57) <|
    BS.sq (pc' := 62) (s_iinc 5 1 (1) (by decide +kernel) (by decide) dX7_add_59) <|
    s_goto rfl (by decide) dX7_add_62) <|
  AllB.c (pb := 65) (
    BS.sq (pc' := 66) (s_aload_n (k := 1) 1 rfl dX7_add_65) <|
    BS.sq (pc' := 67) (s_iload_n (k := 2) 2 rfl dX7_add_66) <|
    BS.sq (pc' := 68) (s_aload_n (k := 0) 0 rfl dX7_add_67) <|
    BS.sq (pc' := 71) (s_get 0 inX7 kc9 (by decide) kw4 rfl dX7_add_68) <|
    BS.sq (pc' := 72) (s_aload_n (k := 0) 0 rfl dX7_add_71) <|
    BS.sq (pc' := 75) (s_get 1 inX7 kc9 (by decide) kw6 rfl dX7_add_72) <|
    BS.sq (pc' := 76) (s_aload_n (k := 0) 0 rfl dX7_add_75) <|
    BS.sq (pc' := 79) (s_get 5 inX7 kc9 (by decide) kw14 rfl dX7_add_76) <|
    BS.sq (pc' := 80) (s_iaload dX7_add_79) <|
    BS.sq (pc' := 81) (s_iload_n (k := 3) 3 rfl dX7_add_80) <|
    BS.sq (pc' := 84) (s_acopy kw61 kw62 kw63 kw64 (by decide) (by decide) dX7_add_81) <|
    BS.sq (pc' := 85) (s_aload_n (k := 0) 0 rfl dX7_add_84) <|
    BS.sq (pc' := 88) (s_get 1 inX7 kc9 (by decide) kw6 rfl dX7_add_85) <|
    BS.sq (pc' := 89) (s_aload_n (k := 0) 0 rfl dX7_add_88) <|
    BS.sq (pc' := 92) (s_get 5 inX7 kc9 (by decide) kw14 rfl dX7_add_89) <|
    BS.sq (pc' := 93) (s_iconst 1 (by decide +kernel) dX7_add_92) <|
    BS.sq (pc' := 94) (s_iadd dX7_add_93) <|
    BS.sq (pc' := 95) (s_aload_n (k := 0) 0 rfl dX7_add_94) <|
    BS.sq (pc' := 98) (s_get 1 inX7 kc9 (by decide) kw6 rfl dX7_add_95) <|
    BS.sq (pc' := 99) (s_aload_n (k := 0) 0 rfl dX7_add_98) <|
    BS.sq (pc' := 102) (s_get 5 inX7 kc9 (by decide) kw14 rfl dX7_add_99) <|
    BS.sq (pc' := 103) (s_iaload dX7_add_102) <|
    BS.sq (pc' := 104) (s_iload_n (k := 3) 3 rfl dX7_add_103) <|
    BS.sq (pc' := 105) (s_iadd dX7_add_104) <|
    BS.sq (pc' := 106) (s_iastore dX7_add_105) <|
    BS.sq (pc' := 107) (s_aload_n (k := 0) 0 rfl dX7_add_106) <|
    BS.sq (pc' := 110) (s_get 3 inX7 kc9 (by decide) kw8 rfl dX7_add_107) <|
    BS.sq (pc' := 111) (s_aload_n (k := 0) 0 rfl dX7_add_110) <|
    BS.sq (pc' := 114) (s_get 5 inX7 kc9 (by decide) kw14 rfl dX7_add_111) <|
    BS.sq (pc' := 116) (s_iload 4 dX7_add_114) <|
    BS.sq (pc' := 119) (s_sipush 1023 (by decide +kernel) dX7_add_116) <|
    BS.sq (pc' := 120) (s_iand dX7_add_119) <|
    BS.sq (pc' := 121) (s_iastore dX7_add_120) <|
    BS.sq (pc' := 122) (s_aload_n (k := 0) 0 rfl dX7_add_121) <|
    BS.sq (pc' := 125) (s_get 2 inX7 kc9 (by decide) kw7 rfl dX7_add_122) <|
    BS.sq (pc' := 126) (s_aload_n (k := 0) 0 rfl dX7_add_125) <|
    BS.sq (pc' := 129) (s_get 5 inX7 kc9 (by decide) kw14 rfl dX7_add_126) <|
    BS.sq (pc' := 130) (s_aload_n (k := 0) 0 rfl dX7_add_129) <|
    BS.sq (pc' := 133) (s_get 4 inX7 kc9 (by decide) kw9 rfl dX7_add_130) <|
    BS.sq (pc' := 134) (s_aload_n (k := 0) 0 rfl dX7_add_133) <|
    BS.sq (pc' := 137) (s_get 3 inX7 kc9 (by decide) kw8 rfl dX7_add_134) <|
    BS.sq (pc' := 138) (s_aload_n (k := 0) 0 rfl dX7_add_137) <|
    BS.sq (pc' := 141) (s_get 5 inX7 kc9 (by decide) kw14 rfl dX7_add_138) <|
    BS.sq (pc' := 142) (s_iaload dX7_add_141) <|
    BS.sq (pc' := 143) (s_iaload dX7_add_142) <|
    BS.sq (pc' := 144) (s_iastore dX7_add_143) <|
    BS.sq (pc' := 145) (s_aload_n (k := 0) 0 rfl dX7_add_144) <|
    BS.sq (pc' := 148) (s_get 4 inX7 kc9 (by decide) kw9 rfl dX7_add_145) <|
    BS.sq (pc' := 149) (s_aload_n (k := 0) 0 rfl dX7_add_148) <|
    BS.sq (pc' := 152) (s_get 3 inX7 kc9 (by decide) kw8 rfl dX7_add_149) <|
    BS.sq (pc' := 153) (s_aload_n (k := 0) 0 rfl dX7_add_152) <|
    BS.sq (pc' := 156) (s_get 5 inX7 kc9 (by decide) kw14 rfl dX7_add_153) <|
    BS.sq (pc' := 157) (s_iaload dX7_add_156) <|
    BS.sq (pc' := 158) (s_aload_n (k := 0) 0 rfl dX7_add_157) <|
    BS.sq (pc' := 161) (s_get 5 inX7 kc9 (by decide) kw14 rfl dX7_add_158) <|
    BS.sq (pc' := 162) (s_iastore dX7_add_161) <|
    BS.sq (pc' := 163) (s_aload_n (k := 0) 0 rfl dX7_add_162) <|
    BS.sq (pc' := 164) (s_dup dX7_add_163) <|
    BS.sq (pc' := 167) (s_get 5 inX7 kc9 (by decide) kw14 rfl dX7_add_164) <|
    BS.sq (pc' := 168) (s_dupx1 dX7_add_167) <|
    BS.go rfl) <|
  AllB.c (pb := 168) (
    BS.sq (pc' := 169) (s_iconst 1 (by decide +kernel) dX7_add_168) <|
    BS.sq (pc' := 170) (s_iadd dX7_add_169) <|
    BS.sq (pc' := 173) (s_put tyX7 5 isI inX7 tyX7_ok nmX7 kc9 (by decide) kw14 rfl rfl (okf_I G) dX7_add_170) <|
    s_reti isI rfl okr_I dX7_add_173) <|
  AllB.n)
-- NativeWorks$Line.teach(Ljava/lang/String;)V
noncomputable def bs_X3_teach : List rBl := [sq (h_v (.inl 0)) (sq (h_st isI 2) (sq (h_v (.inl 0)) (sq (h_st isI 3) (t_go 1)))),
  sq (h_ld isI 3) (sq (h_ld isR 1) (sq (h_call 1 (rRecv rFo 0) ev_J0_length_8abf5) (t_icmp (fun a b => rNot (rLt a b)) 6 2))),
  sq (h_ld isI 3) (sq (h_v (.inl 1024)) (t_icmp (fun a b => rNot (rLt a b)) 6 3)),
  sq (h_ld isR 0) (sq (h_get rFo 5 0) (sq (h_ld isI 3) (sq (h_ld isR 1) (sq (h_ld isI 3) (sq (h_call 2 (rRecv rFo 0) ev_J0_charAt_5068e) (sq (h_un (fun a => Nat.ble a 127) (fun a => a)) (sq (h_ast okB) (sq (h_ld isR 0) (sq (h_get rFo 5 0) (sq (h_ld isI 3) (sq (h_ald rFo okB) (sq (h_v (.inl 32)) (t_icmp (fun a b => rNot (rEq a b)) 5 4))))))))))))),
  sq (h_ld isR 0) (sq (h_get rFo 5 1) (sq (h_ld isR 0) (sq (h_get rFo 5 0) (sq (h_ld isI 2) (sq (h_ld isI 3) (sq (h_ld isI 2) (sq (h_bin (fun _ _ => true) rSub) (sq (h_call 4 (rRecv rFo 9) ev_X7_add) (sq (h_pop) (sq (h_ld isI 3) (sq (h_v (.inl 1)) (sq (h_bin (fun _ _ => true) rAdd) (sq (h_st isI 2) (t_go 5)))))))))))))),
  sq (h_inc 3 1) (t_go 1),
  t_ret]
noncomputable def ev_X3_teach : rEv := fun as w n => rIni 4 as (fun ls => rRun bs_X3_teach 100000 0 ls [] w n 0)
set_option maxRecDepth 100000 in
set_option maxHeartbeats 4000000 in
theorem ok_X3_teach (l : Launch) : rMet vwCl rFo rZs rRs rNs rTs l yX3_teach cX3_teach 4 ((Option.none : Option FieldType)) 4 125 ev_X3_teach := met_of (pcs := [0, 4, 12, 19, 42, 62, 68]) (by decide +kernel) rfl (fun G n0 =>
  AllB.c (pb := 0) (
    BS.sq (pc' := 1) (s_iconst 0 (by decide +kernel) dX3_teach_0) <|
    BS.sq (pc' := 2) (s_istore_n (k := 2) 2 rfl (by decide) dX3_teach_1) <|
    BS.sq (pc' := 3) (s_iconst 0 (by decide +kernel) dX3_teach_2) <|
    BS.sq (pc' := 4) (s_istore_n (k := 3) 3 rfl (by decide) dX3_teach_3) <|
    BS.go rfl) <|
  AllB.c (pb := 4) (
    BS.sq (pc' := 5) (s_iload_n (k := 3) 3 rfl dX3_teach_4) <|
    BS.sq (pc' := 6) (s_aload_n (k := 1) 1 rfl dX3_teach_5) <|
    BS.sq (pc' := 9) (s_callV 0 0 kc0 (ok_J0_length_8abf5 l) kGood kw66 kw67 kw68 kw44 kw65 (by decide +kernel) (by decide) (by decide) dX3_teach_6) <|
    s_icmp_ge rfl rfl (by decide) dX3_teach_9) <|
  AllB.c (pb := 12) (
    BS.sq (pc' := 13) (s_iload_n (k := 3) 3 rfl dX3_teach_12) <|
    BS.sq (pc' := 16) (s_sipush 1024 (by decide +kernel) dX3_teach_13) <|
    s_icmp_ge rfl rfl (by decide) dX3_teach_16) <|
  AllB.c (pb := 19) (
    BS.sq (pc' := 20) (s_aload_n (k := 0) 0 rfl dX3_teach_19) <|
    BS.sq (pc' := 23) (s_get 0 inX3 kc5 (by decide) kw69 rfl dX3_teach_20) <|
    BS.sq (pc' := 24) (s_iload_n (k := 3) 3 rfl dX3_teach_23) <|
    BS.sq (pc' := 25) (s_aload_n (k := 1) 1 rfl dX3_teach_24) <|
    BS.sq (pc' := 26) (s_iload_n (k := 3) 3 rfl dX3_teach_25) <|
    BS.sq (pc' := 29) (s_callV 1 0 kc0 (ok_J0_charAt_5068e l) kGood kw71 kw72 kw73 kw44 kw70 (by decide +kernel) (by decide) (by decide) dX3_teach_26) <|
    BS.sq (pc' := 30) (s_i2b dX3_teach_29) <|
    BS.sq (pc' := 31) (s_bastore dX3_teach_30) <|
    BS.sq (pc' := 32) (s_aload_n (k := 0) 0 rfl dX3_teach_31) <|
    BS.sq (pc' := 35) (s_get 0 inX3 kc5 (by decide) kw69 rfl dX3_teach_32) <|
    BS.sq (pc' := 36) (s_iload_n (k := 3) 3 rfl dX3_teach_35) <|
    BS.sq (pc' := 37) (s_baload dX3_teach_36) <|
    BS.sq (pc' := 39) (s_bipush 32 (by decide +kernel) dX3_teach_37) <|
    s_icmp_ne rfl rfl (by decide) dX3_teach_39) <|
  AllB.c (pb := 42) (
    BS.sq (pc' := 43) (s_aload_n (k := 0) 0 rfl dX3_teach_42) <|
    BS.sq (pc' := 46) (s_get 1 inX3 kc5 (by decide) kw74 rfl dX3_teach_43) <|
    BS.sq (pc' := 47) (s_aload_n (k := 0) 0 rfl dX3_teach_46) <|
    BS.sq (pc' := 50) (s_get 0 inX3 kc5 (by decide) kw69 rfl dX3_teach_47) <|
    BS.sq (pc' := 51) (s_iload_n (k := 2) 2 rfl dX3_teach_50) <|
    BS.sq (pc' := 52) (s_iload_n (k := 3) 3 rfl dX3_teach_51) <|
    BS.sq (pc' := 53) (s_iload_n (k := 2) 2 rfl dX3_teach_52) <|
    BS.sq (pc' := 54) (s_isub dX3_teach_53) <|
    BS.sq (pc' := 57) (s_callV 3 9 kc9 (ok_X7_add l) kGood kw76 kw77 kw78 kw18 kw75 (by decide +kernel) (by decide) (by decide) dX3_teach_54) <|
    BS.sq (pc' := 58) (s_pop dX3_teach_57) <|
    BS.sq (pc' := 59) (s_iload_n (k := 3) 3 rfl dX3_teach_58) <|
    BS.sq (pc' := 60) (s_iconst 1 (by decide +kernel) dX3_teach_59) <|
    BS.sq (pc' := 61) (s_iadd dX3_teach_60) <|
    BS.sq (pc' := 62) (s_istore_n (k := 2) 2 rfl (by decide) dX3_teach_61) <|
    BS.go rfl) <|
  AllB.c (pb := 62) (
    BS.sq (pc' := 65) (s_iinc 3 1 (1) (by decide +kernel) (by decide) dX3_teach_62) <|
    s_goto rfl (by decide) dX3_teach_65) <|
  AllB.c (pb := 68) (
    s_ret rfl dX3_teach_68) <|
  AllB.n)
-- NativeWorks$Line.<init>()V
noncomputable def bs_X3_init : List rBl := [sq (h_ld isR 0) (sq (h_oinit) (sq (h_ld isR 0) (sq (h_v (.inl 1024)) (sq (h_newa 2 (.inl 0)) (sq (h_put 5 0 isR) (sq (h_ld isR 0) (sq (h_new 9 6 [.inr (.inr 0), .inr (.inr 0), .inr (.inr 0), .inr (.inr 0), .inr (.inr 0), .inl 0]) (sq (h_dup) (sq (h_v (.inl 200)) (sq (h_v (.inl 1200)) (sq (h_call 3 (rRecv rFo 9) ev_X7_init) (sq (h_put 5 1 isR) (sq (h_ld isR 0) (sq (h_v (.inl 1026)) (sq (h_newa 0 (.inl 0)) (sq (h_put 5 2 isR) (sq (h_ld isR 0) (sq (h_v (.inl 1026)) (sq (h_newa 1 (.inr (.inl 0))) (sq (h_put 5 3 isR) (sq (h_ld isR 0) (sq (h_v (.inl 1026)) (sq (h_newa 0 (.inl 0)) (sq (h_put 5 4 isR) (sq (h_ld isR 0) (sq (h_v (.inl 1026)) (sq (h_newa 0 (.inl 0)) (sq (h_put 5 5 isR) (sq (h_ld isR 0) (sq (h_v (.inr (.inr 2))) (sq (h_call 2 (rRecv rFo 5) ev_X3_teach) (sq (h_ld isR 0) (sq (h_v (.inr (.inr 6))) (sq (h_call 2 (rRecv rFo 5) ev_X3_teach) (sq (h_ld isR 0) (sq (h_v (.inr (.inr 10))) (sq (h_call 2 (rRecv rFo 5) ev_X3_teach) (sq (h_ld isR 0) (sq (h_v (.inr (.inr 14))) (sq (h_call 2 (rRecv rFo 5) ev_X3_teach) (sq (h_ld isR 0) (sq (h_v (.inr (.inr 18))) (sq (h_call 2 (rRecv rFo 5) ev_X3_teach) (sq (h_ld isR 0) (sq (h_v (.inr (.inr 22))) (sq (h_call 2 (rRecv rFo 5) ev_X3_teach) (sq (h_ld isR 0) (sq (h_v (.inr (.inr 26))) (sq (h_call 2 (rRecv rFo 5) ev_X3_teach) (sq (h_ld isR 0) (sq (h_v (.inr (.inr 30))) (sq (h_call 2 (rRecv rFo 5) ev_X3_teach) (sq (h_ld isR 0) (sq (h_v (.inr (.inr 34))) (sq (h_call 2 (rRecv rFo 5) ev_X3_teach) (sq (h_ld isR 0) (sq (h_v (.inr (.inr 38))) (sq (h_call 2 (rRecv rFo 5) ev_X3_teach) (sq (h_ld isR 0) (t_go 1)))))))))))))))))))))))))))))))))))))))))))))))))))))))))))),
  sq (h_v (.inr (.inr 42))) (sq (h_call 2 (rRecv rFo 5) ev_X3_teach) (sq (h_ld isR 0) (sq (h_v (.inr (.inr 46))) (sq (h_call 2 (rRecv rFo 5) ev_X3_teach) (sq (h_ld isR 0) (sq (h_v (.inr (.inr 50))) (sq (h_call 2 (rRecv rFo 5) ev_X3_teach) (sq (h_ld isR 0) (sq (h_v (.inr (.inr 54))) (sq (h_call 2 (rRecv rFo 5) ev_X3_teach) (sq (h_ld isR 0) (sq (h_v (.inr (.inr 58))) (sq (h_call 2 (rRecv rFo 5) ev_X3_teach) (sq (h_ld isR 0) (sq (h_v (.inr (.inr 62))) (sq (h_call 2 (rRecv rFo 5) ev_X3_teach) (sq (h_ld isR 0) (sq (h_v (.inr (.inr 66))) (sq (h_call 2 (rRecv rFo 5) ev_X3_teach) (t_ret))))))))))))))))))))]
noncomputable def ev_X3_init : rEv := fun as w n => rIni 1 as (fun ls => rRun bs_X3_init 100000 0 ls [] w n 0)
set_option maxRecDepth 100000 in
set_option maxHeartbeats 4000000 in
theorem ok_X3_init (l : Launch) : rMet vwCl rFo rZs rRs rNs rTs l yX3_init cX3_init 1 ((Option.none : Option FieldType)) 5 148 ev_X3_init := met_of (pcs := [0, 127]) (by decide +kernel) rfl (fun G n0 =>
  AllB.c (pb := 0) (
    BS.sq (pc' := 1) (s_aload_n (k := 0) 0 rfl dX3_init_0) <|
    BS.sq (pc' := 4) (s_oinit kw79 kw2 kwObj (by decide) (by decide) dX3_init_1) <|
    BS.sq (pc' := 5) (s_aload_n (k := 0) 0 rfl dX3_init_4) <|
    BS.sq (pc' := 8) (s_sipush 1024 (by decide +kernel) dX3_init_5) <|
    BS.sq (pc' := 10) (s_newa 2 (.inl 0) (by decide) rfl rfl (fun _ _ h => h) (by decide) kw3 dX3_init_8) <|
    BS.sq (pc' := 13) (s_putF tyX3 0 isR inX3 tyX3_ok nmX3 kc5 (by decide) kw69 rfl rfl rfl rfl (okf_A G _) dX3_init_10) <|
    BS.sq (pc' := 14) (s_aload_n (k := 0) 0 rfl dX3_init_13) <|
    BS.sq (pc' := 17) (s_new tyX7 inX7 tyX7_ok kc9 kw80 kw17 kw18 rfl rfl dX3_init_14) <|
    BS.sq (pc' := 18) (s_dup dX3_init_17) <|
    BS.sq (pc' := 21) (s_sipush 200 (by decide +kernel) dX3_init_18) <|
    BS.sq (pc' := 24) (s_sipush 1200 (by decide +kernel) dX3_init_21) <|
    BS.sq (pc' := 27) (s_callI 2 9 kc9 (ok_X7_init l) kGood kw81 kw22 kw18 kw20 rfl (by decide +kernel) (by decide) (by decide) dX3_init_24) <|
    BS.sq (pc' := 30) (s_putF tyX3 1 isR inX3 tyX3_ok nmX3 kc5 (by decide) kw74 rfl rfl rfl rfl (okf_O G _) dX3_init_27) <|
    BS.sq (pc' := 31) (s_aload_n (k := 0) 0 rfl dX3_init_30) <|
    BS.sq (pc' := 34) (s_sipush 1026 (by decide +kernel) dX3_init_31) <|
    BS.sq (pc' := 36) (s_newa 0 (.inl 0) (by decide) rfl rfl (fun _ _ h => h) (by decide) kw5 dX3_init_34) <|
    BS.sq (pc' := 39) (s_putF tyX3 2 isR inX3 tyX3_ok nmX3 kc5 (by decide) kw82 rfl rfl rfl rfl (okf_A G _) dX3_init_36) <|
    BS.sq (pc' := 40) (s_aload_n (k := 0) 0 rfl dX3_init_39) <|
    BS.sq (pc' := 43) (s_sipush 1026 (by decide +kernel) dX3_init_40) <|
    BS.sq (pc' := 45) (s_newa 1 (.inr (.inl 0)) (by decide) rfl rfl (fun _ _ h => h) (by decide) kw26 dX3_init_43) <|
    BS.sq (pc' := 48) (s_putF tyX3 3 isR inX3 tyX3_ok nmX3 kc5 (by decide) kw83 rfl rfl rfl rfl (okf_A G _) dX3_init_45) <|
    BS.sq (pc' := 49) (s_aload_n (k := 0) 0 rfl dX3_init_48) <|
    BS.sq (pc' := 52) (s_sipush 1026 (by decide +kernel) dX3_init_49) <|
    BS.sq (pc' := 54) (s_newa 0 (.inl 0) (by decide) rfl rfl (fun _ _ h => h) (by decide) kw5 dX3_init_52) <|
    BS.sq (pc' := 57) (s_putF tyX3 4 isR inX3 tyX3_ok nmX3 kc5 (by decide) kw84 rfl rfl rfl rfl (okf_A G _) dX3_init_54) <|
    BS.sq (pc' := 58) (s_aload_n (k := 0) 0 rfl dX3_init_57) <|
    BS.sq (pc' := 61) (s_sipush 1026 (by decide +kernel) dX3_init_58) <|
    BS.sq (pc' := 63) (s_newa 0 (.inl 0) (by decide) rfl rfl (fun _ _ h => h) (by decide) kw5 dX3_init_61) <|
    BS.sq (pc' := 66) (s_putF tyX3 5 isR inX3 tyX3_ok nmX3 kc5 (by decide) kw85 rfl rfl rfl rfl (okf_A G _) dX3_init_63) <|
    BS.sq (pc' := 67) (s_aload_n (k := 0) 0 rfl dX3_init_66) <|
    BS.sq (pc' := 69) (s_ldcS 0 kr0 dX3_init_67) <|
    BS.sq (pc' := 72) (s_callV 1 5 kc5 (ok_X3_teach l) kGood kw87 kw88 kw89 kw90 kw86 (by decide +kernel) (by decide) (by decide) dX3_init_69) <|
    BS.sq (pc' := 73) (s_aload_n (k := 0) 0 rfl dX3_init_72) <|
    BS.sq (pc' := 75) (s_ldcS 2 kr1 dX3_init_73) <|
    BS.sq (pc' := 78) (s_callV 1 5 kc5 (ok_X3_teach l) kGood kw87 kw88 kw89 kw90 kw86 (by decide +kernel) (by decide) (by decide) dX3_init_75) <|
    BS.sq (pc' := 79) (s_aload_n (k := 0) 0 rfl dX3_init_78) <|
    BS.sq (pc' := 81) (s_ldcS 4 kr2 dX3_init_79) <|
    BS.sq (pc' := 84) (s_callV 1 5 kc5 (ok_X3_teach l) kGood kw87 kw88 kw89 kw90 kw86 (by decide +kernel) (by decide) (by decide) dX3_init_81) <|
    BS.sq (pc' := 85) (s_aload_n (k := 0) 0 rfl dX3_init_84) <|
    BS.sq (pc' := 87) (s_ldcS 6 kr3 dX3_init_85) <|
    BS.sq (pc' := 90) (s_callV 1 5 kc5 (ok_X3_teach l) kGood kw87 kw88 kw89 kw90 kw86 (by decide +kernel) (by decide) (by decide) dX3_init_87) <|
    BS.sq (pc' := 91) (s_aload_n (k := 0) 0 rfl dX3_init_90) <|
    BS.sq (pc' := 93) (s_ldcS 8 kr4 dX3_init_91) <|
    BS.sq (pc' := 96) (s_callV 1 5 kc5 (ok_X3_teach l) kGood kw87 kw88 kw89 kw90 kw86 (by decide +kernel) (by decide) (by decide) dX3_init_93) <|
    BS.sq (pc' := 97) (s_aload_n (k := 0) 0 rfl dX3_init_96) <|
    BS.sq (pc' := 99) (s_ldcS 10 kr5 dX3_init_97) <|
    BS.sq (pc' := 102) (s_callV 1 5 kc5 (ok_X3_teach l) kGood kw87 kw88 kw89 kw90 kw86 (by decide +kernel) (by decide) (by decide) dX3_init_99) <|
    BS.sq (pc' := 103) (s_aload_n (k := 0) 0 rfl dX3_init_102) <|
    BS.sq (pc' := 105) (s_ldcS 12 kr6 dX3_init_103) <|
    BS.sq (pc' := 108) (s_callV 1 5 kc5 (ok_X3_teach l) kGood kw87 kw88 kw89 kw90 kw86 (by decide +kernel) (by decide) (by decide) dX3_init_105) <|
    BS.sq (pc' := 109) (s_aload_n (k := 0) 0 rfl dX3_init_108) <|
    BS.sq (pc' := 111) (s_ldcS 14 kr7 dX3_init_109) <|
    BS.sq (pc' := 114) (s_callV 1 5 kc5 (ok_X3_teach l) kGood kw87 kw88 kw89 kw90 kw86 (by decide +kernel) (by decide) (by decide) dX3_init_111) <|
    BS.sq (pc' := 115) (s_aload_n (k := 0) 0 rfl dX3_init_114) <|
    BS.sq (pc' := 117) (s_ldcS 16 kr8 dX3_init_115) <|
    BS.sq (pc' := 120) (s_callV 1 5 kc5 (ok_X3_teach l) kGood kw87 kw88 kw89 kw90 kw86 (by decide +kernel) (by decide) (by decide) dX3_init_117) <|
    BS.sq (pc' := 121) (s_aload_n (k := 0) 0 rfl dX3_init_120) <|
    BS.sq (pc' := 123) (s_ldcS 18 kr9 dX3_init_121) <|
    BS.sq (pc' := 126) (s_callV 1 5 kc5 (ok_X3_teach l) kGood kw87 kw88 kw89 kw90 kw86 (by decide +kernel) (by decide) (by decide) dX3_init_123) <|
    BS.sq (pc' := 127) (s_aload_n (k := 0) 0 rfl dX3_init_126) <|
    BS.go rfl) <|
  AllB.c (pb := 127) (
    BS.sq (pc' := 129) (s_ldcS 20 kr10 dX3_init_127) <|
    BS.sq (pc' := 132) (s_callV 1 5 kc5 (ok_X3_teach l) kGood kw87 kw88 kw89 kw90 kw86 (by decide +kernel) (by decide) (by decide) dX3_init_129) <|
    BS.sq (pc' := 133) (s_aload_n (k := 0) 0 rfl dX3_init_132) <|
    BS.sq (pc' := 135) (s_ldcS 22 kr11 dX3_init_133) <|
    BS.sq (pc' := 138) (s_callV 1 5 kc5 (ok_X3_teach l) kGood kw87 kw88 kw89 kw90 kw86 (by decide +kernel) (by decide) (by decide) dX3_init_135) <|
    BS.sq (pc' := 139) (s_aload_n (k := 0) 0 rfl dX3_init_138) <|
    BS.sq (pc' := 141) (s_ldcS 24 kr12 dX3_init_139) <|
    BS.sq (pc' := 144) (s_callV 1 5 kc5 (ok_X3_teach l) kGood kw87 kw88 kw89 kw90 kw86 (by decide +kernel) (by decide) (by decide) dX3_init_141) <|
    BS.sq (pc' := 145) (s_aload_n (k := 0) 0 rfl dX3_init_144) <|
    BS.sq (pc' := 147) (s_ldcS 26 kr13 dX3_init_145) <|
    BS.sq (pc' := 150) (s_callV 1 5 kc5 (ok_X3_teach l) kGood kw87 kw88 kw89 kw90 kw86 (by decide +kernel) (by decide) (by decide) dX3_init_147) <|
    BS.sq (pc' := 151) (s_aload_n (k := 0) 0 rfl dX3_init_150) <|
    BS.sq (pc' := 153) (s_ldcS 28 kr14 dX3_init_151) <|
    BS.sq (pc' := 156) (s_callV 1 5 kc5 (ok_X3_teach l) kGood kw87 kw88 kw89 kw90 kw86 (by decide +kernel) (by decide) (by decide) dX3_init_153) <|
    BS.sq (pc' := 157) (s_aload_n (k := 0) 0 rfl dX3_init_156) <|
    BS.sq (pc' := 159) (s_ldcS 30 kr15 dX3_init_157) <|
    BS.sq (pc' := 162) (s_callV 1 5 kc5 (ok_X3_teach l) kGood kw87 kw88 kw89 kw90 kw86 (by decide +kernel) (by decide) (by decide) dX3_init_159) <|
    BS.sq (pc' := 163) (s_aload_n (k := 0) 0 rfl dX3_init_162) <|
    BS.sq (pc' := 165) (s_ldcS 32 kr16 dX3_init_163) <|
    BS.sq (pc' := 168) (s_callV 1 5 kc5 (ok_X3_teach l) kGood kw87 kw88 kw89 kw90 kw86 (by decide +kernel) (by decide) (by decide) dX3_init_165) <|
    s_ret rfl dX3_init_168) <|
  AllB.n)
