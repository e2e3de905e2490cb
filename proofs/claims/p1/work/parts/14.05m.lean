/-! METHODS OF THE CALLS -/
-- NativeWorksModel.give(II)I
noncomputable def bs_X13_give : List rBl := [sq (h_ld isR 0) (sq (h_ld isI 1) (sq (h_put 15 0 isI) (sq (h_ld isI 2) (t_retv isI))))]
noncomputable def ev_X13_give : rEv := fun as w n => rIni 3 as (fun ls => rRun bs_X13_give 100000 0 ls [] w n 0)
set_option maxRecDepth 100000 in
set_option maxHeartbeats 4000000 in
theorem ok_X13_give (l : Launch) : rMet vwCl rFo rZs rRs rNs rTs l yX13_give cX13_give 3 ((Option.some FieldType.int)) 0 0 ev_X13_give := met_of (pcs := [0]) (by decide +kernel) rfl (fun G n0 =>
  AllB.c (pb := 0) (
    BS.sq (pc' := 1) (s_aload_n (k := 0) 0 rfl dX13_give_0) <|
    BS.sq (pc' := 2) (s_iload_n (k := 1) 1 rfl dX13_give_1) <|
    BS.sq (pc' := 5) (s_put tyX13 0 isI inX13 tyX13_ok nmX13 kc15 (by decide) kw793 rfl rfl (okf_I G) dX13_give_2) <|
    BS.sq (pc' := 6) (s_iload_n (k := 2) 2 rfl dX13_give_5) <|
    s_reti isI rfl okr_I dX13_give_6) <|
  AllB.n)
-- NativeWorksModel.unit(IZ)I
noncomputable def bs_X13_unit : List rBl := [sq (h_ld isR 0) (sq (h_ld isR 0) (sq (h_ld isI 1) (sq (h_call 2 (rRecv rFo 15) sev_X13_used) (sq (h_put 15 65 isI) (sq (h_ld isR 0) (sq (h_v (.inl 0)) (sq (h_put 15 2 isI) (sq (h_ld isR 0) (sq (h_ld isR 0) (sq (h_get rFo 15 20) (sq (h_put 15 75 isI) (sq (h_ld isR 0) (sq (h_get rFo 15 43) (sq (h_st isI 3) (sq (h_ld isR 0) (sq (h_get rFo 15 31) (sq (h_st isI 4) (sq (h_ld isR 0) (sq (h_get rFo 15 57) (sq (h_st isI 5) (sq (h_ld isR 0) (sq (h_get rFo 15 32) (sq (h_st isI 6) (sq (h_ld isR 0) (sq (h_get rFo 15 54) (sq (h_st isI 7) (sq (h_ld isR 0) (sq (h_get rFo 15 55) (sq (h_st isI 8) (sq (h_ld isR 0) (sq (h_get rFo 15 44) (sq (h_st isI 9) (sq (h_ld isR 0) (sq (h_v (.inl 0)) (sq (h_put 15 73 isI) (sq (h_ld isR 0) (sq (h_v (.inl 0)) (sq (h_put 15 66 isI) (sq (h_ld isR 0) (sq (h_v (.inl 0)) (sq (h_put 15 67 isI) (sq (h_ld isR 0) (sq (h_v (.inl 0)) (sq (h_put 15 70 isI) (sq (h_ld isR 0) (sq (h_v (.inl 0)) (sq (h_put 15 71 isI) (sq (h_ld isR 0) (sq (h_v (.inl 0)) (sq (h_put 15 94 isI) (sq (h_ld isR 0) (sq (h_v (.inl 0)) (sq (h_put 15 72 isI) (sq (h_ld isR 0) (sq (h_v (.inl 4294967295)) (sq (h_put 15 77 isI) (sq (h_ld isR 0) (sq (h_v (.inl 0)) (sq (h_put 15 80 isI) (t_go 1)))))))))))))))))))))))))))))))))))))))))))))))))))))))))))),
  sq (h_ld isR 0) (sq (h_v (.inl 0)) (sq (h_put 15 118 isI) (sq (h_ld isR 0) (sq (h_v (.inl 0)) (sq (h_put 15 76 isZ) (sq (h_ld isR 0) (sq (h_v (.inl 0)) (sq (h_put 15 161 isZ) (sq (h_ld isR 0) (sq (h_get rFo 15 20) (sq (h_v (.inl 32)) (t_icmp (fun a b => rNot (rLt a b)) 8 2)))))))))))),
  sq (h_ld isR 0) (sq (h_get rFo 15 23) (sq (h_ld isR 0) (sq (h_get rFo 15 75) (sq (h_ld isR 0) (sq (h_get rFo 15 43) (sq (h_ast okI) (sq (h_ld isR 0) (sq (h_get rFo 15 24) (sq (h_ld isR 0) (sq (h_get rFo 15 75) (sq (h_ld isR 0) (sq (h_get rFo 15 31) (sq (h_ast okI) (sq (h_ld isR 0) (sq (h_get rFo 15 25) (sq (h_ld isR 0) (sq (h_get rFo 15 75) (sq (h_ld isR 0) (sq (h_get rFo 15 57) (sq (h_ast okI) (sq (h_v (.inl 0)) (sq (h_st isI 10) (t_go 3))))))))))))))))))))))),
  sq (h_ld isI 10) (sq (h_v (.inl 4)) (t_icmp (fun a b => rNot (rLt a b)) 5 4)),
  sq (h_ld isR 0) (sq (h_get rFo 15 27) (sq (h_v (.inl 4)) (sq (h_ld isR 0) (sq (h_get rFo 15 75) (sq (h_bin (fun _ _ => true) rMul) (sq (h_ld isI 10) (sq (h_bin (fun _ _ => true) rAdd) (sq (h_v (.inl 0)) (sq (h_ast okB) (sq (h_inc 10 1) (t_go 3))))))))))),
  sq (h_ld isR 0) (sq (h_call 1 (rRecv rFo 15) ev_X13_nextLine) (t_if (fun a => rEq a 0) 7 6)),
  t_no,
  sq (h_ld isR 0) (sq (h_call 1 (rRecv rFo 15) ev_X13_finish) (t_go 9)),
  t_no,
  sq (h_ld isR 0) (sq (h_ld isR 0) (sq (h_get rFo 15 73) (sq (h_put 15 28 isI) (sq (h_ld isR 0) (sq (h_ld isR 0) (sq (h_get rFo 15 73) (t_if (fun a => rNot (rEq a 0)) 11 10))))))),
  sq (h_v (.inl 0)) (t_go 12),
  t_no,
  sq (h_put 15 29 isI) (sq (h_ld isR 0) (sq (h_ld isR 0) (sq (h_get rFo 15 73) (t_if (fun a => rNot (rEq a 0)) 14 13)))),
  sq (h_v (.inl 4294967295)) (t_go 15),
  t_no,
  sq (h_put 15 30 isI) (sq (h_ld isR 0) (sq (h_get rFo 15 73) (t_if (fun a => rEq a 0) 17 16))),
  t_no,
  sq (h_ld isR 0) (sq (h_get rFo 15 22) (sq (h_ld isR 0) (sq (h_get rFo 15 75) (sq (h_ld isI 2) (sq (h_ast okB) (sq (h_ld isR 0) (sq (h_dup) (sq (h_get rFo 15 20) (sq (h_v (.inl 1)) (sq (h_bin (fun _ _ => true) rAdd) (sq (h_put 15 20 isI) (sq (h_ld isR 0) (sq (h_get rFo 15 23) (sq (h_ld isR 0) (sq (h_get rFo 15 20) (sq (h_ld isR 0) (sq (h_get rFo 15 43) (sq (h_ast okI) (sq (h_ld isR 0) (sq (h_get rFo 15 24) (sq (h_ld isR 0) (sq (h_get rFo 15 20) (sq (h_ld isR 0) (sq (h_get rFo 15 31) (sq (h_ast okI) (sq (h_ld isR 0) (sq (h_get rFo 15 25) (sq (h_ld isR 0) (sq (h_get rFo 15 20) (sq (h_ld isR 0) (sq (h_get rFo 15 57) (sq (h_ast okI) (sq (h_ld isR 0) (sq (h_v (.inl 0)) (sq (h_ld isR 0) (sq (h_get rFo 15 75) (sq (h_call 3 (rRecv rFo 15) ev_X13_give) (t_retv isI))))))))))))))))))))))))))))))))))))))]
noncomputable def ev_X13_unit : rEv := fun as w n => rIni 11 as (fun ls => rRun bs_X13_unit 100000 0 ls [] w n 0)
set_option maxRecDepth 100000 in
set_option maxHeartbeats 4000000 in
theorem ok_X13_unit (l : Launch) : rMet vwCl rFo rZs rRs rNs rTs l yX13_unit cX13_unit 11 ((Option.some FieldType.int)) 3 76 ev_X13_unit := met_of (pcs := [0, 108, 132, 174, 180, 201, 208, 215, 222, 232, 248, 252, 256, 267, 271, 275, 285, 333]) (by decide +kernel) rfl (fun G n0 =>
  AllB.c (pb := 0) (
    BS.sq (pc' := 1) (s_aload_n (k := 0) 0 rfl dX13_unit_0) <|
    BS.sq (pc' := 2) (s_aload_n (k := 0) 0 rfl dX13_unit_1) <|
    BS.sq (pc' := 3) (s_iload_n (k := 1) 1 rfl dX13_unit_2) <|
    BS.sq (pc' := 6) (s_callV 1 15 kc15 (sok_X13_used l) kGood kw817 kw818 kw819 kw315 kw816 (by decide +kernel) (by decide) (by decide) dX13_unit_3) <|
    BS.sq (pc' := 9) (s_put tyX13 65 isI inX13 tyX13_ok nmX13 kc15 (by decide) kw802 rfl rfl (okf_I G) dX13_unit_6) <|
    BS.sq (pc' := 10) (s_aload_n (k := 0) 0 rfl dX13_unit_9) <|
    BS.sq (pc' := 11) (s_iconst 0 (by decide +kernel) dX13_unit_10) <|
    BS.sq (pc' := 14) (s_put tyX13 2 isI inX13 tyX13_ok nmX13 kc15 (by decide) kw794 rfl rfl (okf_I G) dX13_unit_11) <|
    BS.sq (pc' := 15) (s_aload_n (k := 0) 0 rfl dX13_unit_14) <|
    BS.sq (pc' := 16) (s_aload_n (k := 0) 0 rfl dX13_unit_15) <|
    BS.sq (pc' := 19) (s_get 20 inX13 kc15 (by decide) kw820 rfl dX13_unit_16) <|
    BS.sq (pc' := 22) (s_put tyX13 75 isI inX13 tyX13_ok nmX13 kc15 (by decide) kw803 rfl rfl (okf_I G) dX13_unit_19) <|
    BS.sq (pc' := 23) (s_aload_n (k := 0) 0 rfl dX13_unit_22) <|
    BS.sq (pc' := 26) (s_get 43 inX13 kc15 (by decide) kw804 rfl dX13_unit_23) <|
    BS.sq (pc' := 27) (s_istore_n (k := 3) 3 rfl (by decide) dX13_unit_26) <|
    BS.sq (pc' := 28) (s_aload_n (k := 0) 0 rfl dX13_unit_27) <|
    BS.sq (pc' := 31) (s_get 31 inX13 kc15 (by decide) kw821 rfl dX13_unit_28) <|
    BS.sq (pc' := 33) (s_istore 4 (by decide) dX13_unit_31) <|
    BS.sq (pc' := 34) (s_aload_n (k := 0) 0 rfl dX13_unit_33) <|
    BS.sq (pc' := 37) (s_get 57 inX13 kc15 (by decide) kw805 rfl dX13_unit_34) <|
    BS.sq (pc' := 39) (s_istore 5 (by decide) dX13_unit_37) <|
    BS.sq (pc' := 40) (s_aload_n (k := 0) 0 rfl dX13_unit_39) <|
    BS.sq (pc' := 43) (s_get 32 inX13 kc15 (by decide) kw822 rfl dX13_unit_40) <|
    BS.sq (pc' := 45) (s_istore 6 (by decide) dX13_unit_43) <|
    BS.sq (pc' := 46) (s_aload_n (k := 0) 0 rfl dX13_unit_45) <|
    BS.sq (pc' := 49) (s_get 54 inX13 kc15 (by decide) kw823 rfl dX13_unit_46) <|
    BS.sq (pc' := 51) (s_istore 7 (by decide) dX13_unit_49) <|
    BS.sq (pc' := 52) (s_aload_n (k := 0) 0 rfl dX13_unit_51) <|
    BS.sq (pc' := 55) (s_get 55 inX13 kc15 (by decide) kw824 rfl dX13_unit_52) <|
    BS.sq (pc' := 57) (s_istore 8 (by decide) dX13_unit_55) <|
    BS.sq (pc' := 58) (s_aload_n (k := 0) 0 rfl dX13_unit_57) <|
    BS.sq (pc' := 61) (s_get 44 inX13 kc15 (by decide) kw825 rfl dX13_unit_58) <|
    BS.sq (pc' := 63) (s_istore 9 (by decide) dX13_unit_61) <|
    BS.sq (pc' := 64) (s_aload_n (k := 0) 0 rfl dX13_unit_63) <|
    BS.sq (pc' := 65) (s_iconst 0 (by decide +kernel) dX13_unit_64) <|
    BS.sq (pc' := 68) (s_put tyX13 73 isI inX13 tyX13_ok nmX13 kc15 (by decide) kw800 rfl rfl (okf_I G) dX13_unit_65) <|
    BS.sq (pc' := 69) (s_aload_n (k := 0) 0 rfl dX13_unit_68) <|
    BS.sq (pc' := 70) (s_iconst 0 (by decide +kernel) dX13_unit_69) <|
    BS.sq (pc' := 73) (s_put tyX13 66 isI inX13 tyX13_ok nmX13 kc15 (by decide) kw801 rfl rfl (okf_I G) dX13_unit_70) <|
    BS.sq (pc' := 74) (s_aload_n (k := 0) 0 rfl dX13_unit_73) <|
    BS.sq (pc' := 75) (s_iconst 0 (by decide +kernel) dX13_unit_74) <|
    BS.sq (pc' := 78) (s_put tyX13 67 isI inX13 tyX13_ok nmX13 kc15 (by decide) kw826 rfl rfl (okf_I G) dX13_unit_75) <|
    BS.sq (pc' := 79) (s_aload_n (k := 0) 0 rfl dX13_unit_78) <|
    BS.sq (pc' := 80) (s_iconst 0 (by decide +kernel) dX13_unit_79) <|
    BS.sq (pc' := 83) (s_put tyX13 70 isI inX13 tyX13_ok nmX13 kc15 (by decide) kw827 rfl rfl (okf_I G) dX13_unit_80) <|
    BS.sq (pc' := 84) (s_aload_n (k := 0) 0 rfl dX13_unit_83) <|
    BS.sq (pc' := 85) (s_iconst 0 (by decide +kernel) dX13_unit_84) <|
    BS.sq (pc' := 88) (s_put tyX13 71 isI inX13 tyX13_ok nmX13 kc15 (by decide) kw828 rfl rfl (okf_I G) dX13_unit_85) <|
    BS.sq (pc' := 89) (s_aload_n (k := 0) 0 rfl dX13_unit_88) <|
    BS.sq (pc' := 90) (s_iconst 0 (by decide +kernel) dX13_unit_89) <|
    BS.sq (pc' := 93) (s_put tyX13 94 isI inX13 tyX13_ok nmX13 kc15 (by decide) kw829 rfl rfl (okf_I G) dX13_unit_90) <|
    BS.sq (pc' := 94) (s_aload_n (k := 0) 0 rfl dX13_unit_93) <|
    BS.sq (pc' := 95) (s_iconst 0 (by decide +kernel) dX13_unit_94) <|
    BS.sq (pc' := 98) (s_put tyX13 72 isI inX13 tyX13_ok nmX13 kc15 (by decide) kw830 rfl rfl (okf_I G) dX13_unit_95) <|
    BS.sq (pc' := 99) (s_aload_n (k := 0) 0 rfl dX13_unit_98) <|
    BS.sq (pc' := 100) (s_iconst 4294967295 (by decide +kernel) dX13_unit_99) <|
    BS.sq (pc' := 103) (s_put tyX13 77 isI inX13 tyX13_ok nmX13 kc15 (by decide) kw831 rfl rfl (okf_I G) dX13_unit_100) <|
    BS.sq (pc' := 104) (s_aload_n (k := 0) 0 rfl dX13_unit_103) <|
    BS.sq (pc' := 105) (s_iconst 0 (by decide +kernel) dX13_unit_104) <|
    BS.sq (pc' := 108) (s_put tyX13 80 isI inX13 tyX13_ok nmX13 kc15 (by decide) kw795 rfl rfl (okf_I G) dX13_unit_105) <|
    BS.go rfl) <|
  AllB.c (pb := 108) (
    BS.sq (pc' := 109) (s_aload_n (k := 0) 0 rfl dX13_unit_108) <|
    BS.sq (pc' := 110) (s_iconst 0 (by decide +kernel) dX13_unit_109) <|
    BS.sq (pc' := 113) (s_put tyX13 118 isI inX13 tyX13_ok nmX13 kc15 (by decide) kw811 rfl rfl (okf_I G) dX13_unit_110) <|
    BS.sq (pc' := 114) (s_aload_n (k := 0) 0 rfl dX13_unit_113) <|
    BS.sq (pc' := 115) (s_iconst 0 (by decide +kernel) dX13_unit_114) <|
    BS.sq (pc' := 118) (s_put tyX13 76 isZ inX13 tyX13_ok nmX13 kc15 (by decide) kw810 rfl rfl (okf_Z G) dX13_unit_115) <|
    BS.sq (pc' := 119) (s_aload_n (k := 0) 0 rfl dX13_unit_118) <|
    BS.sq (pc' := 120) (s_iconst 0 (by decide +kernel) dX13_unit_119) <|
    BS.sq (pc' := 123) (s_put tyX13 161 isZ inX13 tyX13_ok nmX13 kc15 (by decide) kw832 rfl rfl (okf_Z G) dX13_unit_120) <|
    BS.sq (pc' := 124) (s_aload_n (k := 0) 0 rfl dX13_unit_123) <|
    BS.sq (pc' := 127) (s_get 20 inX13 kc15 (by decide) kw820 rfl dX13_unit_124) <|
    BS.sq (pc' := 129) (s_bipush 32 (by decide +kernel) dX13_unit_127) <|
    s_icmp_ge rfl rfl (by decide) dX13_unit_129) <|
  AllB.c (pb := 132) (
    BS.sq (pc' := 133) (s_aload_n (k := 0) 0 rfl dX13_unit_132) <|
    BS.sq (pc' := 136) (s_get 23 inX13 kc15 (by decide) kw454 rfl dX13_unit_133) <|
    BS.sq (pc' := 137) (s_aload_n (k := 0) 0 rfl dX13_unit_136) <|
    BS.sq (pc' := 140) (s_get 75 inX13 kc15 (by decide) kw803 rfl dX13_unit_137) <|
    BS.sq (pc' := 141) (s_aload_n (k := 0) 0 rfl dX13_unit_140) <|
    BS.sq (pc' := 144) (s_get 43 inX13 kc15 (by decide) kw804 rfl dX13_unit_141) <|
    BS.sq (pc' := 145) (s_iastore dX13_unit_144) <|
    BS.sq (pc' := 146) (s_aload_n (k := 0) 0 rfl dX13_unit_145) <|
    BS.sq (pc' := 149) (s_get 24 inX13 kc15 (by decide) kw455 rfl dX13_unit_146) <|
    BS.sq (pc' := 150) (s_aload_n (k := 0) 0 rfl dX13_unit_149) <|
    BS.sq (pc' := 153) (s_get 75 inX13 kc15 (by decide) kw803 rfl dX13_unit_150) <|
    BS.sq (pc' := 154) (s_aload_n (k := 0) 0 rfl dX13_unit_153) <|
    BS.sq (pc' := 157) (s_get 31 inX13 kc15 (by decide) kw821 rfl dX13_unit_154) <|
    BS.sq (pc' := 158) (s_iastore dX13_unit_157) <|
    BS.sq (pc' := 159) (s_aload_n (k := 0) 0 rfl dX13_unit_158) <|
    BS.sq (pc' := 162) (s_get 25 inX13 kc15 (by decide) kw456 rfl dX13_unit_159) <|
    BS.sq (pc' := 163) (s_aload_n (k := 0) 0 rfl dX13_unit_162) <|
    BS.sq (pc' := 166) (s_get 75 inX13 kc15 (by decide) kw803 rfl dX13_unit_163) <|
    BS.sq (pc' := 167) (s_aload_n (k := 0) 0 rfl dX13_unit_166) <|
    BS.sq (pc' := 170) (s_get 57 inX13 kc15 (by decide) kw805 rfl dX13_unit_167) <|
    BS.sq (pc' := 171) (s_iastore dX13_unit_170) <|
    BS.sq (pc' := 172) (s_iconst 0 (by decide +kernel) dX13_unit_171) <|
    BS.sq (pc' := 174) (s_istore 10 (by decide) dX13_unit_172) <|
    BS.go rfl) <|
  AllB.c (pb := 174) (
    BS.sq (pc' := 176) (s_iload 10 dX13_unit_174) <|
    BS.sq (pc' := 177) (s_iconst 4 (by decide +kernel) dX13_unit_176) <|
    s_icmp_ge rfl rfl (by decide) dX13_unit_177) <|
  AllB.c (pb := 180) (
    BS.sq (pc' := 181) (s_aload_n (k := 0) 0 rfl dX13_unit_180) <|
    BS.sq (pc' := 184) (s_get 27 inX13 kc15 (by decide) kw458 rfl dX13_unit_181) <|
    BS.sq (pc' := 185) (s_iconst 4 (by decide +kernel) dX13_unit_184) <|
    BS.sq (pc' := 186) (s_aload_n (k := 0) 0 rfl dX13_unit_185) <|
    BS.sq (pc' := 189) (s_get 75 inX13 kc15 (by decide) kw803 rfl dX13_unit_186) <|
    BS.sq (pc' := 190) (s_imul dX13_unit_189) <|
    BS.sq (pc' := 192) (s_iload 10 dX13_unit_190) <|
    BS.sq (pc' := 193) (s_iadd dX13_unit_192) <|
    BS.sq (pc' := 194) (s_iconst 0 (by decide +kernel) dX13_unit_193) <|
    BS.sq (pc' := 195) (s_bastore dX13_unit_194) <|
    BS.sq (pc' := 198) (s_iinc 10 1 (1) (by decide +kernel) (by decide) dX13_unit_195) <|
    s_goto rfl (by decide) dX13_unit_198) <|
  AllB.c (pb := 201) (
    BS.sq (pc' := 202) (s_aload_n (k := 0) 0 rfl dX13_unit_201) <|
    BS.sq (pc' := 205) (s_callV 0 15 kc15 (ok_X13_nextLine l) kGood kw834 kw835 kw836 kw315 kw833 (by decide +kernel) (by decide) (by decide) dX13_unit_202) <|
    s_if_eq rfl rfl (by decide) dX13_unit_205) <|
  AllB.c (pb := 208) (
    BS.no) <|
  AllB.c (pb := 215) (
    BS.sq (pc' := 216) (s_aload_n (k := 0) 0 rfl dX13_unit_215) <|
    BS.sq (pc' := 219) (s_callV 0 15 kc15 (ok_X13_finish l) kGood kw838 kw839 kw840 kw315 kw837 (by decide +kernel) (by decide) (by decide) dX13_unit_216) <|
    s_goto rfl (by decide) dX13_unit_219) <|
  AllB.c (pb := 222) (
    BS.no) <|
  AllB.c (pb := 232) (
    BS.sq (pc' := 233) (s_aload_n (k := 0) 0 rfl dX13_unit_232) <|
    BS.sq (pc' := 234) (s_aload_n (k := 0) 0 rfl dX13_unit_233) <|
    BS.sq (pc' := 237) (s_get 73 inX13 kc15 (by decide) kw800 rfl dX13_unit_234) <|
    BS.sq (pc' := 240) (s_put tyX13 28 isI inX13 tyX13_ok nmX13 kc15 (by decide) kw841 rfl rfl (okf_I G) dX13_unit_237) <|
    BS.sq (pc' := 241) (s_aload_n (k := 0) 0 rfl dX13_unit_240) <|
    BS.sq (pc' := 242) (s_aload_n (k := 0) 0 rfl dX13_unit_241) <|
    BS.sq (pc' := 245) (s_get 73 inX13 kc15 (by decide) kw800 rfl dX13_unit_242) <|
    s_if_ne rfl rfl (by decide) dX13_unit_245) <|
  AllB.c (pb := 248) (
    BS.sq (pc' := 249) (s_iconst 0 (by decide +kernel) dX13_unit_248) <|
    s_goto rfl (by decide) dX13_unit_249) <|
  AllB.c (pb := 252) (
    BS.no) <|
  AllB.c (pb := 256) (
    BS.sq (pc' := 259) (s_put tyX13 29 isI inX13 tyX13_ok nmX13 kc15 (by decide) kw842 rfl rfl (okf_I G) dX13_unit_256) <|
    BS.sq (pc' := 260) (s_aload_n (k := 0) 0 rfl dX13_unit_259) <|
    BS.sq (pc' := 261) (s_aload_n (k := 0) 0 rfl dX13_unit_260) <|
    BS.sq (pc' := 264) (s_get 73 inX13 kc15 (by decide) kw800 rfl dX13_unit_261) <|
    s_if_ne rfl rfl (by decide) dX13_unit_264) <|
  AllB.c (pb := 267) (
    BS.sq (pc' := 268) (s_iconst 4294967295 (by decide +kernel) dX13_unit_267) <|
    s_goto rfl (by decide) dX13_unit_268) <|
  AllB.c (pb := 271) (
    BS.no) <|
  AllB.c (pb := 275) (
    BS.sq (pc' := 278) (s_put tyX13 30 isI inX13 tyX13_ok nmX13 kc15 (by decide) kw459 rfl rfl (okf_I G) dX13_unit_275) <|
    BS.sq (pc' := 279) (s_aload_n (k := 0) 0 rfl dX13_unit_278) <|
    BS.sq (pc' := 282) (s_get 73 inX13 kc15 (by decide) kw800 rfl dX13_unit_279) <|
    s_if_eq rfl rfl (by decide) dX13_unit_282) <|
  AllB.c (pb := 285) (
    BS.no) <|
  AllB.c (pb := 333) (
    BS.sq (pc' := 334) (s_aload_n (k := 0) 0 rfl dX13_unit_333) <|
    BS.sq (pc' := 337) (s_get 22 inX13 kc15 (by decide) kw453 rfl dX13_unit_334) <|
    BS.sq (pc' := 338) (s_aload_n (k := 0) 0 rfl dX13_unit_337) <|
    BS.sq (pc' := 341) (s_get 75 inX13 kc15 (by decide) kw803 rfl dX13_unit_338) <|
    BS.sq (pc' := 342) (s_iload_n (k := 2) 2 rfl dX13_unit_341) <|
    BS.sq (pc' := 343) (s_bastore dX13_unit_342) <|
    BS.sq (pc' := 344) (s_aload_n (k := 0) 0 rfl dX13_unit_343) <|
    BS.sq (pc' := 345) (s_dup dX13_unit_344) <|
    BS.sq (pc' := 348) (s_get 20 inX13 kc15 (by decide) kw820 rfl dX13_unit_345) <|
    BS.sq (pc' := 349) (s_iconst 1 (by decide +kernel) dX13_unit_348) <|
    BS.sq (pc' := 350) (s_iadd dX13_unit_349) <|
    BS.sq (pc' := 353) (s_put tyX13 20 isI inX13 tyX13_ok nmX13 kc15 (by decide) kw820 rfl rfl (okf_I G) dX13_unit_350) <|
    BS.sq (pc' := 354) (s_aload_n (k := 0) 0 rfl dX13_unit_353) <|
    BS.sq (pc' := 357) (s_get 23 inX13 kc15 (by decide) kw454 rfl dX13_unit_354) <|
    BS.sq (pc' := 358) (s_aload_n (k := 0) 0 rfl dX13_unit_357) <|
    BS.sq (pc' := 361) (s_get 20 inX13 kc15 (by decide) kw820 rfl dX13_unit_358) <|
    BS.sq (pc' := 362) (s_aload_n (k := 0) 0 rfl dX13_unit_361) <|
    BS.sq (pc' := 365) (s_get 43 inX13 kc15 (by decide) kw804 rfl dX13_unit_362) <|
    BS.sq (pc' := 366) (s_iastore dX13_unit_365) <|
    BS.sq (pc' := 367) (s_aload_n (k := 0) 0 rfl dX13_unit_366) <|
    BS.sq (pc' := 370) (s_get 24 inX13 kc15 (by decide) kw455 rfl dX13_unit_367) <|
    BS.sq (pc' := 371) (s_aload_n (k := 0) 0 rfl dX13_unit_370) <|
    BS.sq (pc' := 374) (s_get 20 inX13 kc15 (by decide) kw820 rfl dX13_unit_371) <|
    BS.sq (pc' := 375) (s_aload_n (k := 0) 0 rfl dX13_unit_374) <|
    BS.sq (pc' := 378) (s_get 31 inX13 kc15 (by decide) kw821 rfl dX13_unit_375) <|
    BS.sq (pc' := 379) (s_iastore dX13_unit_378) <|
    BS.sq (pc' := 380) (s_aload_n (k := 0) 0 rfl dX13_unit_379) <|
    BS.sq (pc' := 383) (s_get 25 inX13 kc15 (by decide) kw456 rfl dX13_unit_380) <|
    BS.sq (pc' := 384) (s_aload_n (k := 0) 0 rfl dX13_unit_383) <|
    BS.sq (pc' := 387) (s_get 20 inX13 kc15 (by decide) kw820 rfl dX13_unit_384) <|
    BS.sq (pc' := 388) (s_aload_n (k := 0) 0 rfl dX13_unit_387) <|
    BS.sq (pc' := 391) (s_get 57 inX13 kc15 (by decide) kw805 rfl dX13_unit_388) <|
    BS.sq (pc' := 392) (s_iastore dX13_unit_391) <|
    BS.sq (pc' := 393) (s_aload_n (k := 0) 0 rfl dX13_unit_392) <|
    BS.sq (pc' := 394) (s_iconst 0 (by decide +kernel) dX13_unit_393) <|
    BS.sq (pc' := 395) (s_aload_n (k := 0) 0 rfl dX13_unit_394) <|
    BS.sq (pc' := 398) (s_get 75 inX13 kc15 (by decide) kw803 rfl dX13_unit_395) <|
    BS.sq (pc' := 401) (s_callV 2 15 kc15 (ok_X13_give l) kGood kw844 kw845 kw846 kw315 kw843 (by decide +kernel) (by decide) (by decide) dX13_unit_398) <|
    s_reti isI rfl okr_I dX13_unit_401) <|
  AllB.n)
-- NativeWorksModel.clear()V
noncomputable def bs_X13_clear : List rBl := [sq (h_ld isR 0) (sq (h_v (.inl 0)) (sq (h_put 15 0 isI) (sq (h_ld isR 0) (sq (h_v (.inl 0)) (sq (h_put 15 20 isI) (sq (h_ld isR 0) (sq (h_v (.inl 0)) (sq (h_put 15 43 isI) (sq (h_ld isR 0) (sq (h_v (.inl 0)) (sq (h_put 15 31 isI) (sq (h_ld isR 0) (sq (h_v (.inl 0)) (sq (h_put 15 57 isI) (sq (h_ld isR 0) (sq (h_v (.inl 0)) (sq (h_put 15 32 isI) (sq (h_ld isR 0) (sq (h_v (.inl 0)) (sq (h_put 15 54 isI) (sq (h_ld isR 0) (sq (h_v (.inl 0)) (sq (h_put 15 55 isI) (sq (h_ld isR 0) (sq (h_v (.inl 0)) (sq (h_put 15 44 isI) (t_ret)))))))))))))))))))))))))))]
noncomputable def ev_X13_clear : rEv := fun as w n => rIni 1 as (fun ls => rRun bs_X13_clear 100000 0 ls [] w n 0)
set_option maxRecDepth 100000 in
set_option maxHeartbeats 4000000 in
theorem ok_X13_clear (l : Launch) : rMet vwCl rFo rZs rRs rNs rTs l yX13_clear cX13_clear 1 ((Option.none : Option FieldType)) 0 0 ev_X13_clear := met_of (pcs := [0]) (by decide +kernel) rfl (fun G n0 =>
  AllB.c (pb := 0) (
    BS.sq (pc' := 1) (s_aload_n (k := 0) 0 rfl dX13_clear_0) <|
    BS.sq (pc' := 2) (s_iconst 0 (by decide +kernel) dX13_clear_1) <|
    BS.sq (pc' := 5) (s_put tyX13 0 isI inX13 tyX13_ok nmX13 kc15 (by decide) kw793 rfl rfl (okf_I G) dX13_clear_2) <|
    BS.sq (pc' := 6) (s_aload_n (k := 0) 0 rfl dX13_clear_5) <|
    BS.sq (pc' := 7) (s_iconst 0 (by decide +kernel) dX13_clear_6) <|
    BS.sq (pc' := 10) (s_put tyX13 20 isI inX13 tyX13_ok nmX13 kc15 (by decide) kw820 rfl rfl (okf_I G) dX13_clear_7) <|
    BS.sq (pc' := 11) (s_aload_n (k := 0) 0 rfl dX13_clear_10) <|
    BS.sq (pc' := 12) (s_iconst 0 (by decide +kernel) dX13_clear_11) <|
    BS.sq (pc' := 15) (s_put tyX13 43 isI inX13 tyX13_ok nmX13 kc15 (by decide) kw804 rfl rfl (okf_I G) dX13_clear_12) <|
    BS.sq (pc' := 16) (s_aload_n (k := 0) 0 rfl dX13_clear_15) <|
    BS.sq (pc' := 17) (s_iconst 0 (by decide +kernel) dX13_clear_16) <|
    BS.sq (pc' := 20) (s_put tyX13 31 isI inX13 tyX13_ok nmX13 kc15 (by decide) kw821 rfl rfl (okf_I G) dX13_clear_17) <|
    BS.sq (pc' := 21) (s_aload_n (k := 0) 0 rfl dX13_clear_20) <|
    BS.sq (pc' := 22) (s_iconst 0 (by decide +kernel) dX13_clear_21) <|
    BS.sq (pc' := 25) (s_put tyX13 57 isI inX13 tyX13_ok nmX13 kc15 (by decide) kw805 rfl rfl (okf_I G) dX13_clear_22) <|
    BS.sq (pc' := 26) (s_aload_n (k := 0) 0 rfl dX13_clear_25) <|
    BS.sq (pc' := 27) (s_iconst 0 (by decide +kernel) dX13_clear_26) <|
    BS.sq (pc' := 30) (s_put tyX13 32 isI inX13 tyX13_ok nmX13 kc15 (by decide) kw822 rfl rfl (okf_I G) dX13_clear_27) <|
    BS.sq (pc' := 31) (s_aload_n (k := 0) 0 rfl dX13_clear_30) <|
    BS.sq (pc' := 32) (s_iconst 0 (by decide +kernel) dX13_clear_31) <|
    BS.sq (pc' := 35) (s_put tyX13 54 isI inX13 tyX13_ok nmX13 kc15 (by decide) kw823 rfl rfl (okf_I G) dX13_clear_32) <|
    BS.sq (pc' := 36) (s_aload_n (k := 0) 0 rfl dX13_clear_35) <|
    BS.sq (pc' := 37) (s_iconst 0 (by decide +kernel) dX13_clear_36) <|
    BS.sq (pc' := 40) (s_put tyX13 55 isI inX13 tyX13_ok nmX13 kc15 (by decide) kw824 rfl rfl (okf_I G) dX13_clear_37) <|
    BS.sq (pc' := 41) (s_aload_n (k := 0) 0 rfl dX13_clear_40) <|
    BS.sq (pc' := 42) (s_iconst 0 (by decide +kernel) dX13_clear_41) <|
    BS.sq (pc' := 45) (s_put tyX13 44 isI inX13 tyX13_ok nmX13 kc15 (by decide) kw825 rfl rfl (okf_I G) dX13_clear_42) <|
    s_ret rfl dX13_clear_45) <|
  AllB.n)
-- NativeWorksModel.fault(I)I
noncomputable def bs_X13_fault : List rBl := [sq (h_ld isR 0) (sq (h_v (.inl 0)) (sq (h_ld isI 1) (t_if (fun a => rNot (rEq a 0)) 2 1))),
  sq (h_ld isR 0) (sq (h_get rFo 15 28) (t_go 7)),
  sq (h_ld isI 1) (sq (h_v (.inl 1)) (t_icmp (fun a b => rNot (rEq a b)) 4 3)),
  sq (h_ld isR 0) (sq (h_get rFo 15 29) (t_go 7)),
  sq (h_ld isI 1) (sq (h_v (.inl 2)) (t_icmp (fun a b => rNot (rEq a b)) 6 5)),
  sq (h_ld isR 0) (sq (h_get rFo 15 30) (t_go 7)),
  sq (h_v (.inl 4294967295)) (t_go 7),
  sq (h_call 3 (rRecv rFo 15) ev_X13_give) (t_retv isI)]
noncomputable def ev_X13_fault : rEv := fun as w n => rIni 2 as (fun ls => rRun bs_X13_fault 100000 0 ls [] w n 0)
set_option maxRecDepth 100000 in
set_option maxHeartbeats 4000000 in
theorem ok_X13_fault (l : Launch) : rMet vwCl rFo rZs rRs rNs rTs l yX13_fault cX13_fault 2 ((Option.some FieldType.int)) 1 22 ev_X13_fault := met_of (pcs := [0, 6, 13, 18, 25, 30, 37, 38]) (by decide +kernel) rfl (fun G n0 =>
  AllB.c (pb := 0) (
    BS.sq (pc' := 1) (s_aload_n (k := 0) 0 rfl dX13_fault_0) <|
    BS.sq (pc' := 2) (s_iconst 0 (by decide +kernel) dX13_fault_1) <|
    BS.sq (pc' := 3) (s_iload_n (k := 1) 1 rfl dX13_fault_2) <|
    s_if_ne rfl rfl (by decide) dX13_fault_3) <|
  AllB.c (pb := 6) (
    BS.sq (pc' := 7) (s_aload_n (k := 0) 0 rfl dX13_fault_6) <|
    BS.sq (pc' := 10) (s_get 28 inX13 kc15 (by decide) kw841 rfl dX13_fault_7) <|
    s_goto rfl (by decide) dX13_fault_10) <|
  AllB.c (pb := 13) (
    BS.sq (pc' := 14) (s_iload_n (k := 1) 1 rfl dX13_fault_13) <|
    BS.sq (pc' := 15) (s_iconst 1 (by decide +kernel) dX13_fault_14) <|
    s_icmp_ne rfl rfl (by decide) dX13_fault_15) <|
  AllB.c (pb := 18) (
    BS.sq (pc' := 19) (s_aload_n (k := 0) 0 rfl dX13_fault_18) <|
    BS.sq (pc' := 22) (s_get 29 inX13 kc15 (by decide) kw842 rfl dX13_fault_19) <|
    s_goto rfl (by decide) dX13_fault_22) <|
  AllB.c (pb := 25) (
    BS.sq (pc' := 26) (s_iload_n (k := 1) 1 rfl dX13_fault_25) <|
    BS.sq (pc' := 27) (s_iconst 2 (by decide +kernel) dX13_fault_26) <|
    s_icmp_ne rfl rfl (by decide) dX13_fault_27) <|
  AllB.c (pb := 30) (
    BS.sq (pc' := 31) (s_aload_n (k := 0) 0 rfl dX13_fault_30) <|
    BS.sq (pc' := 34) (s_get 30 inX13 kc15 (by decide) kw459 rfl dX13_fault_31) <|
    s_goto rfl (by decide) dX13_fault_34) <|
  AllB.c (pb := 37) (
    BS.sq (pc' := 38) (s_iconst 4294967295 (by decide +kernel) dX13_fault_37) <|
    BS.go rfl) <|
  AllB.c (pb := 38) (
    BS.sq (pc' := 41) (s_callV 2 15 kc15 (ok_X13_give l) kGood kw844 kw845 kw846 kw315 kw843 (by decide +kernel) (by decide) (by decide) dX13_fault_38) <|
    s_reti isI rfl okr_I dX13_fault_41) <|
  AllB.n)
-- NativeWorksModel.size(II)I
noncomputable def bs_X13_size : List rBl := [sq (h_ld isR 0) (sq (h_v (.inl 0)) (sq (h_ld isI 1) (t_if (fun a => rLt a 0) 5 1))),
  sq (h_ld isI 1) (sq (h_ld isR 0) (sq (h_get rFo 15 20) (t_icmp (fun a b => rNot (rLt a b)) 5 2))),
  t_no,
  t_no,
  t_no,
  sq (h_v (.inl 4294967295)) (t_go 6),
  sq (h_call 3 (rRecv rFo 15) ev_X13_give) (t_retv isI)]
noncomputable def ev_X13_size : rEv := fun as w n => rIni 3 as (fun ls => rRun bs_X13_size 100000 0 ls [] w n 0)
set_option maxRecDepth 100000 in
set_option maxHeartbeats 4000000 in
theorem ok_X13_size (l : Launch) : rMet vwCl rFo rZs rRs rNs rTs l yX13_size cX13_size 3 ((Option.some FieldType.int)) 1 22 ev_X13_size := met_of (pcs := [0, 6, 14, 18, 23, 36, 37]) (by decide +kernel) rfl (fun G n0 =>
  AllB.c (pb := 0) (
    BS.sq (pc' := 1) (s_aload_n (k := 0) 0 rfl dX13_size_0) <|
    BS.sq (pc' := 2) (s_iconst 0 (by decide +kernel) dX13_size_1) <|
    BS.sq (pc' := 3) (s_iload_n (k := 1) 1 rfl dX13_size_2) <|
    s_if_lt rfl rfl (by decide) dX13_size_3) <|
  AllB.c (pb := 6) (
    BS.sq (pc' := 7) (s_iload_n (k := 1) 1 rfl dX13_size_6) <|
    BS.sq (pc' := 8) (s_aload_n (k := 0) 0 rfl dX13_size_7) <|
    BS.sq (pc' := 11) (s_get 20 inX13 kc15 (by decide) kw820 rfl dX13_size_8) <|
    s_icmp_ge rfl rfl (by decide) dX13_size_11) <|
  AllB.c (pb := 14) (
    BS.no) <|
  AllB.c (pb := 18) (
    BS.no) <|
  AllB.c (pb := 23) (
    BS.no) <|
  AllB.c (pb := 36) (
    BS.sq (pc' := 37) (s_iconst 4294967295 (by decide +kernel) dX13_size_36) <|
    BS.go rfl) <|
  AllB.c (pb := 37) (
    BS.sq (pc' := 40) (s_callV 2 15 kc15 (ok_X13_give l) kGood kw844 kw845 kw846 kw315 kw843 (by decide +kernel) (by decide) (by decide) dX13_size_37) <|
    s_reti isI rfl okr_I dX13_size_40) <|
  AllB.n)
-- NativeWorksModel.octet(III)I
noncomputable def bs_X13_octet : List rBl := [sq (h_ld isR 0) (sq (h_v (.inl 0)) (sq (h_put 15 0 isI) (sq (h_ld isI 1) (t_if (fun a => rLt a 0) 6 1)))),
  sq (h_ld isI 1) (sq (h_ld isR 0) (sq (h_get rFo 15 20) (t_icmp (fun a b => rNot (rLt a b)) 6 2))),
  t_no,
  t_no,
  t_no,
  t_no,
  sq (h_v (.inl 4294967295)) (t_retv isI),
  t_no,
  t_no,
  t_no,
  t_no,
  t_no,
  t_no,
  t_no,
  t_no]
noncomputable def ev_X13_octet : rEv := fun as w n => rIni 5 as (fun ls => rRun bs_X13_octet 100000 0 ls [] w n 0)
set_option maxRecDepth 100000 in
set_option maxHeartbeats 4000000 in
theorem ok_X13_octet (l : Launch) : rMet vwCl rFo rZs rRs rNs rTs l yX13_octet cX13_octet 5 ((Option.some FieldType.int)) 0 0 ev_X13_octet := met_of (pcs := [0, 9, 17, 21, 26, 30, 44, 46, 54, 67, 78, 89, 108, 124, 130]) (by decide +kernel) rfl (fun G n0 =>
  AllB.c (pb := 0) (
    BS.sq (pc' := 1) (s_aload_n (k := 0) 0 rfl dX13_octet_0) <|
    BS.sq (pc' := 2) (s_iconst 0 (by decide +kernel) dX13_octet_1) <|
    BS.sq (pc' := 5) (s_put tyX13 0 isI inX13 tyX13_ok nmX13 kc15 (by decide) kw793 rfl rfl (okf_I G) dX13_octet_2) <|
    BS.sq (pc' := 6) (s_iload_n (k := 1) 1 rfl dX13_octet_5) <|
    s_if_lt rfl rfl (by decide) dX13_octet_6) <|
  AllB.c (pb := 9) (
    BS.sq (pc' := 10) (s_iload_n (k := 1) 1 rfl dX13_octet_9) <|
    BS.sq (pc' := 11) (s_aload_n (k := 0) 0 rfl dX13_octet_10) <|
    BS.sq (pc' := 14) (s_get 20 inX13 kc15 (by decide) kw820 rfl dX13_octet_11) <|
    s_icmp_ge rfl rfl (by decide) dX13_octet_14) <|
  AllB.c (pb := 17) (
    BS.no) <|
  AllB.c (pb := 21) (
    BS.no) <|
  AllB.c (pb := 26) (
    BS.no) <|
  AllB.c (pb := 30) (
    BS.no) <|
  AllB.c (pb := 44) (
    BS.sq (pc' := 45) (s_iconst 4294967295 (by decide +kernel) dX13_octet_44) <|
    s_reti isI rfl okr_I dX13_octet_45) <|
  AllB.c (pb := 46) (
    BS.no) <|
  AllB.c (pb := 54) (
    BS.no) <|
  AllB.c (pb := 67) (
    BS.no) <|
  AllB.c (pb := 78) (
    BS.no) <|
  AllB.c (pb := 89) (
    BS.no) <|
  AllB.c (pb := 108) (
    BS.no) <|
  AllB.c (pb := 124) (
    BS.no) <|
  AllB.c (pb := 130) (
    BS.no) <|
  AllB.n)
-- NativeWorksModel.takeUnits()V
noncomputable def bs_X13_takeUnits : List rBl := [sq (h_v (.inl 0)) (sq (h_st isI 1) (t_go 1)),
  sq (h_ld isI 1) (sq (h_ld isR 0) (sq (h_get rFo 15 20) (t_icmp (fun a b => rNot (rLt a b)) 6 2))),
  t_no,
  t_no,
  t_no,
  t_no,
  sq (h_v (.inl 1)) (sq (h_st isI 1) (t_go 7)),
  sq (h_ld isI 1) (t_if (fun a => rEq a 0) 17 8),
  sq (h_v (.inl 0)) (sq (h_st isI 1) (sq (h_v (.inl 0)) (sq (h_st isI 2) (t_go 9)))),
  sq (h_ld isI 2) (sq (h_ld isR 0) (sq (h_get rFo 15 20) (t_icmp (fun a b => rNot (rLt a b)) 16 10))),
  t_no,
  t_no,
  t_no,
  t_no,
  t_no,
  t_no,
  t_go 7,
  t_ret]
noncomputable def ev_X13_takeUnits : rEv := fun as w n => rIni 3 as (fun ls => rRun bs_X13_takeUnits 100000 0 ls [] w n 0)
set_option maxRecDepth 100000 in
set_option maxHeartbeats 4000000 in
theorem ok_X13_takeUnits (l : Launch) : rMet vwCl rFo rZs rRs rNs rTs l yX13_takeUnits cX13_takeUnits 3 ((Option.none : Option FieldType)) 0 0 ev_X13_takeUnits := met_of (pcs := [0, 2, 10, 24, 28, 29, 36, 38, 42, 46, 54, 58, 67, 75, 78, 87, 93, 96]) (by decide +kernel) rfl (fun G n0 =>
  AllB.c (pb := 0) (
    BS.sq (pc' := 1) (s_iconst 0 (by decide +kernel) dX13_takeUnits_0) <|
    BS.sq (pc' := 2) (s_istore_n (k := 1) 1 rfl (by decide) dX13_takeUnits_1) <|
    BS.go rfl) <|
  AllB.c (pb := 2) (
    BS.sq (pc' := 3) (s_iload_n (k := 1) 1 rfl dX13_takeUnits_2) <|
    BS.sq (pc' := 4) (s_aload_n (k := 0) 0 rfl dX13_takeUnits_3) <|
    BS.sq (pc' := 7) (s_get 20 inX13 kc15 (by decide) kw820 rfl dX13_takeUnits_4) <|
    s_icmp_ge rfl rfl (by decide) dX13_takeUnits_7) <|
  AllB.c (pb := 10) (
    BS.no) <|
  AllB.c (pb := 24) (
    BS.no) <|
  AllB.c (pb := 28) (
    BS.no) <|
  AllB.c (pb := 29) (
    BS.no) <|
  AllB.c (pb := 36) (
    BS.sq (pc' := 37) (s_iconst 1 (by decide +kernel) dX13_takeUnits_36) <|
    BS.sq (pc' := 38) (s_istore_n (k := 1) 1 rfl (by decide) dX13_takeUnits_37) <|
    BS.go rfl) <|
  AllB.c (pb := 38) (
    BS.sq (pc' := 39) (s_iload_n (k := 1) 1 rfl dX13_takeUnits_38) <|
    s_if_eq rfl rfl (by decide) dX13_takeUnits_39) <|
  AllB.c (pb := 42) (
    BS.sq (pc' := 43) (s_iconst 0 (by decide +kernel) dX13_takeUnits_42) <|
    BS.sq (pc' := 44) (s_istore_n (k := 1) 1 rfl (by decide) dX13_takeUnits_43) <|
    BS.sq (pc' := 45) (s_iconst 0 (by decide +kernel) dX13_takeUnits_44) <|
    BS.sq (pc' := 46) (s_istore_n (k := 2) 2 rfl (by decide) dX13_takeUnits_45) <|
    BS.go rfl) <|
  AllB.c (pb := 46) (
    BS.sq (pc' := 47) (s_iload_n (k := 2) 2 rfl dX13_takeUnits_46) <|
    BS.sq (pc' := 48) (s_aload_n (k := 0) 0 rfl dX13_takeUnits_47) <|
    BS.sq (pc' := 51) (s_get 20 inX13 kc15 (by decide) kw820 rfl dX13_takeUnits_48) <|
    s_icmp_ge rfl rfl (by decide) dX13_takeUnits_51) <|
  AllB.c (pb := 54) (
    BS.no) <|
  AllB.c (pb := 58) (
    BS.no) <|
  AllB.c (pb := 67) (
    BS.no) <|
  AllB.c (pb := 75) (
    BS.no) <|
  AllB.c (pb := 78) (
    BS.no) <|
  AllB.c (pb := 87) (
    BS.no) <|
  AllB.c (pb := 93) (
    s_goto rfl (by decide) dX13_takeUnits_93) <|
  AllB.c (pb := 96) (
    s_ret rfl dX13_takeUnits_96) <|
  AllB.n)
-- NativeWorksModel.startSymbol()I
noncomputable def bs_X13_startSymbol : List rBl := [sq (h_ld isR 0) (sq (h_v (.inl 5)) (sq (h_put 15 108 isI) (sq (h_v (.inl 0)) (sq (h_st isI 1) (t_go 1))))),
  sq (h_ld isI 1) (sq (h_v (.inl 5)) (t_icmp (fun a b => rNot (rLt a b)) 3 2)),
  sq (h_ld isR 0) (sq (h_get rFo 15 107) (sq (h_ld isI 1) (sq (h_ld isR 0) (sq (h_get rFo 15 19) (sq (h_v (.inl 8)) (sq (h_v (.inl 4)) (sq (h_ld isI 1) (sq (h_bin (fun _ _ => true) rSub) (sq (h_bin (fun _ _ => true) rMul) (sq (h_lshZ (fun x y => x >>> (y.toInt64 &&& 63))) (sq (h_l2iZ) (sq (h_unZ (fun x => x.toInt8.toInt32)) (sq (h_ast okB) (sq (h_inc 1 1) (t_go 1))))))))))))))),
  sq (h_v (.inl 0)) (sq (h_st isI 1) (t_go 4)),
  sq (h_ld isI 1) (sq (h_ld isR 0) (sq (h_get rFo 15 31) (t_icmp (fun a b => rNot (rLt a b)) 10 5))),
  t_no,
  t_no,
  t_no,
  t_no,
  t_no,
  sq (h_v (.inl 4294967295)) (t_retv isI)]
noncomputable def ev_X13_startSymbol : rEv := fun as w n => rIni 2 as (fun ls => rRun bs_X13_startSymbol 100000 0 ls [] w n 0)
set_option maxRecDepth 100000 in
set_option maxHeartbeats 4000000 in
theorem ok_X13_startSymbol (l : Launch) : rMet vwCl rFo rZs rRs rNs rTs l yX13_startSymbol cX13_startSymbol 2 ((Option.some FieldType.int)) 0 0 ev_X13_startSymbol := met_of (pcs := [0, 7, 12, 37, 39, 47, 61, 69, 77, 79, 85]) (by decide +kernel) rfl (fun G n0 =>
  AllB.c (pb := 0) (
    BS.sq (pc' := 1) (s_aload_n (k := 0) 0 rfl dX13_startSymbol_0) <|
    BS.sq (pc' := 2) (s_iconst 5 (by decide +kernel) dX13_startSymbol_1) <|
    BS.sq (pc' := 5) (s_put tyX13 108 isI inX13 tyX13_ok nmX13 kc15 (by decide) kw847 rfl rfl (okf_I G) dX13_startSymbol_2) <|
    BS.sq (pc' := 6) (s_iconst 0 (by decide +kernel) dX13_startSymbol_5) <|
    BS.sq (pc' := 7) (s_istore_n (k := 1) 1 rfl (by decide) dX13_startSymbol_6) <|
    BS.go rfl) <|
  AllB.c (pb := 7) (
    BS.sq (pc' := 8) (s_iload_n (k := 1) 1 rfl dX13_startSymbol_7) <|
    BS.sq (pc' := 9) (s_iconst 5 (by decide +kernel) dX13_startSymbol_8) <|
    s_icmp_ge rfl rfl (by decide) dX13_startSymbol_9) <|
  AllB.c (pb := 12) (
    BS.sq (pc' := 13) (s_aload_n (k := 0) 0 rfl dX13_startSymbol_12) <|
    BS.sq (pc' := 16) (s_get 107 inX13 kc15 (by decide) kw516 rfl dX13_startSymbol_13) <|
    BS.sq (pc' := 17) (s_iload_n (k := 1) 1 rfl dX13_startSymbol_16) <|
    BS.sq (pc' := 18) (s_aload_n (k := 0) 0 rfl dX13_startSymbol_17) <|
    BS.sq (pc' := 21) (s_get 19 inX13 kc15 (by decide) kw590 rfl dX13_startSymbol_18) <|
    BS.sq (pc' := 23) (s_bipush 8 (by decide +kernel) dX13_startSymbol_21) <|
    BS.sq (pc' := 24) (s_iconst 4 (by decide +kernel) dX13_startSymbol_23) <|
    BS.sq (pc' := 25) (s_iload_n (k := 1) 1 rfl dX13_startSymbol_24) <|
    BS.sq (pc' := 26) (s_isub dX13_startSymbol_25) <|
    BS.sq (pc' := 27) (s_imul dX13_startSymbol_26) <|
    BS.sq (pc' := 28) (s_lshrZ dX13_startSymbol_27) <|
    BS.sq (pc' := 29) (s_l2iZ dX13_startSymbol_28) <|
    BS.sq (pc' := 30) (s_i2bZ dX13_startSymbol_29) <|
    BS.sq (pc' := 31) (s_bastore dX13_startSymbol_30) <|
    BS.sq (pc' := 34) (s_iinc 1 1 (1) (by decide +kernel) (by decide) dX13_startSymbol_31) <|
    s_goto rfl (by decide) dX13_startSymbol_34) <|
  AllB.c (pb := 37) (
    BS.sq (pc' := 38) (s_iconst 0 (by decide +kernel) dX13_startSymbol_37) <|
    BS.sq (pc' := 39) (s_istore_n (k := 1) 1 rfl (by decide) dX13_startSymbol_38) <|
    BS.go rfl) <|
  AllB.c (pb := 39) (
    BS.sq (pc' := 40) (s_iload_n (k := 1) 1 rfl dX13_startSymbol_39) <|
    BS.sq (pc' := 41) (s_aload_n (k := 0) 0 rfl dX13_startSymbol_40) <|
    BS.sq (pc' := 44) (s_get 31 inX13 kc15 (by decide) kw821 rfl dX13_startSymbol_41) <|
    s_icmp_ge rfl rfl (by decide) dX13_startSymbol_44) <|
  AllB.c (pb := 47) (
    BS.no) <|
  AllB.c (pb := 61) (
    BS.no) <|
  AllB.c (pb := 69) (
    BS.no) <|
  AllB.c (pb := 77) (
    BS.no) <|
  AllB.c (pb := 79) (
    BS.no) <|
  AllB.c (pb := 85) (
    BS.sq (pc' := 86) (s_iconst 4294967295 (by decide +kernel) dX13_startSymbol_85) <|
    s_reti isI rfl okr_I dX13_startSymbol_86) <|
  AllB.n)
-- NativeWorksModel.linkFault(III)V
noncomputable def bs_X13_linkFault : List rBl := [sq (h_ld isR 0) (sq (h_get rFo 15 28) (t_if (fun a => rEq a 0) 2 1)),
  t_no,
  sq (h_ld isR 0) (sq (h_ld isI 1) (sq (h_put 15 28 isI) (sq (h_ld isR 0) (sq (h_ld isI 3) (sq (h_put 15 29 isI) (sq (h_ld isR 0) (sq (h_ld isI 2) (sq (h_put 15 30 isI) (t_ret)))))))))]
noncomputable def ev_X13_linkFault : rEv := fun as w n => rIni 4 as (fun ls => rRun bs_X13_linkFault 100000 0 ls [] w n 0)
set_option maxRecDepth 100000 in
set_option maxHeartbeats 4000000 in
theorem ok_X13_linkFault (l : Launch) : rMet vwCl rFo rZs rRs rNs rTs l yX13_linkFault cX13_linkFault 4 ((Option.none : Option FieldType)) 0 0 ev_X13_linkFault := met_of (pcs := [0, 7, 8]) (by decide +kernel) rfl (fun G n0 =>
  AllB.c (pb := 0) (
    BS.sq (pc' := 1) (s_aload_n (k := 0) 0 rfl dX13_linkFault_0) <|
    BS.sq (pc' := 4) (s_get 28 inX13 kc15 (by decide) kw841 rfl dX13_linkFault_1) <|
    s_if_eq rfl rfl (by decide) dX13_linkFault_4) <|
  AllB.c (pb := 7) (
    BS.no) <|
  AllB.c (pb := 8) (
    BS.sq (pc' := 9) (s_aload_n (k := 0) 0 rfl dX13_linkFault_8) <|
    BS.sq (pc' := 10) (s_iload_n (k := 1) 1 rfl dX13_linkFault_9) <|
    BS.sq (pc' := 13) (s_put tyX13 28 isI inX13 tyX13_ok nmX13 kc15 (by decide) kw841 rfl rfl (okf_I G) dX13_linkFault_10) <|
    BS.sq (pc' := 14) (s_aload_n (k := 0) 0 rfl dX13_linkFault_13) <|
    BS.sq (pc' := 15) (s_iload_n (k := 3) 3 rfl dX13_linkFault_14) <|
    BS.sq (pc' := 18) (s_put tyX13 29 isI inX13 tyX13_ok nmX13 kc15 (by decide) kw842 rfl rfl (okf_I G) dX13_linkFault_15) <|
    BS.sq (pc' := 19) (s_aload_n (k := 0) 0 rfl dX13_linkFault_18) <|
    BS.sq (pc' := 20) (s_iload_n (k := 2) 2 rfl dX13_linkFault_19) <|
    BS.sq (pc' := 23) (s_put tyX13 30 isI inX13 tyX13_ok nmX13 kc15 (by decide) kw459 rfl rfl (okf_I G) dX13_linkFault_20) <|
    s_ret rfl dX13_linkFault_23) <|
  AllB.n)
-- NativeWorksModel.link()I
noncomputable def bs_X13_link : List rBl := [sq (h_ld isR 0) (sq (h_v (.inl 0)) (sq (h_put 15 28 isI) (sq (h_ld isR 0) (sq (h_v (.inl 0)) (sq (h_put 15 29 isI) (sq (h_ld isR 0) (sq (h_v (.inl 4294967295)) (sq (h_put 15 30 isI) (sq (h_ld isR 0) (sq (h_call 1 (rRecv rFo 15) ev_X13_takeUnits) (sq (h_ld isR 0) (sq (h_call 1 (rRecv rFo 15) ev_X13_startSymbol) (sq (h_st isI 1) (sq (h_ld isI 1) (t_if (fun a => rNot (rLt a 0)) 2 1))))))))))))))),
  sq (h_ld isR 0) (sq (h_v (.inl 1)) (sq (h_v (.inl 4294967295)) (sq (h_v (.inl 0)) (sq (h_call 4 (rRecv rFo 15) ev_X13_linkFault) (t_go 3))))),
  t_no,
  sq (h_ld isR 0) (sq (h_get rFo 15 28) (t_if (fun a => rEq a 0) 5 4)),
  sq (h_ld isR 0) (sq (h_v (.inl 1)) (sq (h_v (.inl 0)) (sq (h_call 3 (rRecv rFo 15) ev_X13_give) (t_retv isI)))),
  t_no,
  t_no,
  t_no,
  t_no,
  t_no,
  t_no,
  t_no,
  t_no,
  t_no,
  t_no,
  t_no,
  t_no,
  t_no,
  t_no,
  t_no,
  t_no,
  t_no,
  t_no,
  t_no,
  t_no,
  t_no,
  t_no,
  t_no,
  t_no,
  t_no]
noncomputable def ev_X13_link : rEv := fun as w n => rIni 9 as (fun ls => rRun bs_X13_link 100000 0 ls [] w n 0)
set_option maxRecDepth 100000 in
set_option maxHeartbeats 4000000 in
theorem ok_X13_link (l : Launch) : rMet vwCl rFo rZs rRs rNs rTs l yX13_link cX13_link 9 ((Option.some FieldType.int)) 1 23 ev_X13_link := met_of (pcs := [0, 28, 38, 42, 49, 56, 68, 76, 83, 100, 103, 116, 124, 134, 144, 148, 149, 156, 160, 167, 174, 195, 205, 215, 233, 239, 246, 253, 260, 267]) (by decide +kernel) rfl (fun G n0 =>
  AllB.c (pb := 0) (
    BS.sq (pc' := 1) (s_aload_n (k := 0) 0 rfl dX13_link_0) <|
    BS.sq (pc' := 2) (s_iconst 0 (by decide +kernel) dX13_link_1) <|
    BS.sq (pc' := 5) (s_put tyX13 28 isI inX13 tyX13_ok nmX13 kc15 (by decide) kw841 rfl rfl (okf_I G) dX13_link_2) <|
    BS.sq (pc' := 6) (s_aload_n (k := 0) 0 rfl dX13_link_5) <|
    BS.sq (pc' := 7) (s_iconst 0 (by decide +kernel) dX13_link_6) <|
    BS.sq (pc' := 10) (s_put tyX13 29 isI inX13 tyX13_ok nmX13 kc15 (by decide) kw842 rfl rfl (okf_I G) dX13_link_7) <|
    BS.sq (pc' := 11) (s_aload_n (k := 0) 0 rfl dX13_link_10) <|
    BS.sq (pc' := 12) (s_iconst 4294967295 (by decide +kernel) dX13_link_11) <|
    BS.sq (pc' := 15) (s_put tyX13 30 isI inX13 tyX13_ok nmX13 kc15 (by decide) kw459 rfl rfl (okf_I G) dX13_link_12) <|
    BS.sq (pc' := 16) (s_aload_n (k := 0) 0 rfl dX13_link_15) <|
    BS.sq (pc' := 19) (s_callV 0 15 kc15 (ok_X13_takeUnits l) kGood kw849 kw850 kw851 kw315 kw848 (by decide +kernel) (by decide) (by decide) dX13_link_16) <|
    BS.sq (pc' := 20) (s_aload_n (k := 0) 0 rfl dX13_link_19) <|
    BS.sq (pc' := 23) (s_callV 0 15 kc15 (ok_X13_startSymbol l) kGood kw853 kw854 kw855 kw315 kw852 (by decide +kernel) (by decide) (by decide) dX13_link_20) <|
    BS.sq (pc' := 24) (s_istore_n (k := 1) 1 rfl (by decide) dX13_link_23) <|
    BS.sq (pc' := 25) (s_iload_n (k := 1) 1 rfl dX13_link_24) <|
    s_if_ge rfl rfl (by decide) dX13_link_25) <|
  AllB.c (pb := 28) (
    BS.sq (pc' := 29) (s_aload_n (k := 0) 0 rfl dX13_link_28) <|
    BS.sq (pc' := 30) (s_iconst 1 (by decide +kernel) dX13_link_29) <|
    BS.sq (pc' := 31) (s_iconst 4294967295 (by decide +kernel) dX13_link_30) <|
    BS.sq (pc' := 32) (s_iconst 0 (by decide +kernel) dX13_link_31) <|
    BS.sq (pc' := 35) (s_callV 3 15 kc15 (ok_X13_linkFault l) kGood kw857 kw858 kw859 kw315 kw856 (by decide +kernel) (by decide) (by decide) dX13_link_32) <|
    s_goto rfl (by decide) dX13_link_35) <|
  AllB.c (pb := 38) (
    BS.no) <|
  AllB.c (pb := 42) (
    BS.sq (pc' := 43) (s_aload_n (k := 0) 0 rfl dX13_link_42) <|
    BS.sq (pc' := 46) (s_get 28 inX13 kc15 (by decide) kw841 rfl dX13_link_43) <|
    s_if_eq rfl rfl (by decide) dX13_link_46) <|
  AllB.c (pb := 49) (
    BS.sq (pc' := 50) (s_aload_n (k := 0) 0 rfl dX13_link_49) <|
    BS.sq (pc' := 51) (s_iconst 1 (by decide +kernel) dX13_link_50) <|
    BS.sq (pc' := 52) (s_iconst 0 (by decide +kernel) dX13_link_51) <|
    BS.sq (pc' := 55) (s_callV 2 15 kc15 (ok_X13_give l) kGood kw844 kw845 kw846 kw315 kw843 (by decide +kernel) (by decide) (by decide) dX13_link_52) <|
    s_reti isI rfl okr_I dX13_link_55) <|
  AllB.c (pb := 56) (
    BS.no) <|
  AllB.c (pb := 68) (
    BS.no) <|
  AllB.c (pb := 76) (
    BS.no) <|
  AllB.c (pb := 83) (
    BS.no) <|
  AllB.c (pb := 100) (
    BS.no) <|
  AllB.c (pb := 103) (
    BS.no) <|
  AllB.c (pb := 116) (
    BS.no) <|
  AllB.c (pb := 124) (
    BS.no) <|
  AllB.c (pb := 134) (
    BS.no) <|
  AllB.c (pb := 144) (
    BS.no) <|
  AllB.c (pb := 148) (
    BS.no) <|
  AllB.c (pb := 149) (
    BS.no) <|
  AllB.c (pb := 156) (
    BS.no) <|
  AllB.c (pb := 160) (
    BS.no) <|
  AllB.c (pb := 167) (
    BS.no) <|
  AllB.c (pb := 174) (
    BS.no) <|
  AllB.c (pb := 195) (
    BS.no) <|
  AllB.c (pb := 205) (
    BS.no) <|
  AllB.c (pb := 215) (
    BS.no) <|
  AllB.c (pb := 233) (
    BS.no) <|
  AllB.c (pb := 239) (
    BS.no) <|
  AllB.c (pb := 246) (
    BS.no) <|
  AllB.c (pb := 253) (
    BS.no) <|
  AllB.c (pb := 260) (
    BS.no) <|
  AllB.c (pb := 267) (
    BS.no) <|
  AllB.n)
