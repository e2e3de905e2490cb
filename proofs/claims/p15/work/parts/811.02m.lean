/-! METHODS -/
-- NativeWorks$Source.<init>([BLNativeWorks$Names;)V
noncomputable def bs_X9_init : List rBl := [sq (h_ld isR 0) (sq (h_oinit) (sq (h_ld isR 0) (sq (h_ld isR 1) (sq (h_put 11 0 isR) (sq (h_ld isR 0) (sq (h_ld isR 2) (sq (h_put 11 1 isR) (sq (h_ld isR 0) (sq (h_v (.inl 65538)) (sq (h_newa 0 (.inl 0)) (sq (h_put 11 2 isR) (sq (h_ld isR 0) (sq (h_v (.inl 65537)) (sq (h_newa 2 (.inl 0)) (sq (h_put 11 3 isR) (sq (h_ld isR 0) (sq (h_v (.inl 65538)) (sq (h_newa 0 (.inl 0)) (sq (h_put 11 4 isR) (sq (h_ld isR 0) (sq (h_v (.inl 65538)) (sq (h_newa 0 (.inl 0)) (sq (h_put 11 5 isR) (sq (h_ld isR 0) (sq (h_v (.inl 65538)) (sq (h_newa 0 (.inl 0)) (sq (h_put 11 6 isR) (sq (h_ld isR 0) (sq (h_new 9 6 [.inr (.inr 0), .inr (.inr 0), .inr (.inr 0), .inr (.inr 0), .inr (.inr 0), .inl 0]) (sq (h_dup) (sq (h_v (.inl 5500)) (sq (h_v (.inl 65536)) (sq (h_call 3 (rRecv rFo 9) ev_X7_init) (sq (h_put 11 7 isR) (sq (h_ld isR 0) (sq (h_v (.inl 5500)) (sq (h_newa 0 (.inl 0)) (sq (h_put 11 8 isR) (sq (h_ld isR 0) (sq (h_v (.inl 5500)) (sq (h_newa 0 (.inl 0)) (sq (h_put 11 9 isR) (sq (h_ld isR 0) (sq (h_v (.inl 5501)) (sq (h_newa 0 (.inl 0)) (sq (h_put 11 10 isR) (sq (h_ld isR 0) (sq (h_v (.inl 32768)) (sq (h_newa 0 (.inl 0)) (sq (h_put 11 11 isR) (sq (h_ld isR 0) (sq (h_v (.inl 32768)) (sq (h_newa 0 (.inl 0)) (sq (h_put 11 12 isR) (sq (h_ld isR 0) (sq (h_v (.inl 0)) (sq (h_put 11 13 isI) (t_ret))))))))))))))))))))))))))))))))))))))))))))))))))))))))))]
noncomputable def ev_X9_init : rEv := fun as w n => rIni 3 as (fun ls => rRun bs_X9_init 100000 0 ls [] w n 0)
set_option maxRecDepth 100000 in
set_option maxHeartbeats 4000000 in
theorem ok_X9_init (l : Launch) : rMet vwCl rFo rZs rRs rNs rTs l yX9_init cX9_init 3 ((Option.none : Option FieldType)) 2 45 ev_X9_init := met_of (pcs := [0]) (by decide +kernel) rfl (fun G n0 =>
  AllB.c (pb := 0) (
    BS.sq (pc' := 1) (s_aload_n (k := 0) 0 rfl dX9_init_0) <|
    BS.sq (pc' := 4) (s_oinit kw91 kw2 kwObj (by decide) (by decide) dX9_init_1) <|
    BS.sq (pc' := 5) (s_aload_n (k := 0) 0 rfl dX9_init_4) <|
    BS.sq (pc' := 6) (s_aload_n (k := 1) 1 rfl dX9_init_5) <|
    BS.sq (pc' := 9) (s_putF tyX9 0 isR inX9 tyX9_ok nmX9 kc11 (by decide) kw92 rfl rfl rfl rfl (okf_A G _) dX9_init_6) <|
    BS.sq (pc' := 10) (s_aload_n (k := 0) 0 rfl dX9_init_9) <|
    BS.sq (pc' := 11) (s_aload_n (k := 2) 2 rfl dX9_init_10) <|
    BS.sq (pc' := 14) (s_putF tyX9 1 isR inX9 tyX9_ok nmX9 kc11 (by decide) kw93 rfl rfl rfl rfl (okf_O G _) dX9_init_11) <|
    BS.sq (pc' := 15) (s_aload_n (k := 0) 0 rfl dX9_init_14) <|
    BS.sq (pc' := 17) (s_ldc 65538 kw94 dX9_init_15) <|
    BS.sq (pc' := 19) (s_newa 0 (.inl 0) (by decide) rfl rfl (fun _ _ h => h) (by decide) kw5 dX9_init_17) <|
    BS.sq (pc' := 22) (s_putF tyX9 2 isR inX9 tyX9_ok nmX9 kc11 (by decide) kw95 rfl rfl rfl rfl (okf_A G _) dX9_init_19) <|
    BS.sq (pc' := 23) (s_aload_n (k := 0) 0 rfl dX9_init_22) <|
    BS.sq (pc' := 25) (s_ldc 65537 kw96 dX9_init_23) <|
    BS.sq (pc' := 27) (s_newa 2 (.inl 0) (by decide) rfl rfl (fun _ _ h => h) (by decide) kw3 dX9_init_25) <|
    BS.sq (pc' := 30) (s_putF tyX9 3 isR inX9 tyX9_ok nmX9 kc11 (by decide) kw97 rfl rfl rfl rfl (okf_A G _) dX9_init_27) <|
    BS.sq (pc' := 31) (s_aload_n (k := 0) 0 rfl dX9_init_30) <|
    BS.sq (pc' := 33) (s_ldc 65538 kw94 dX9_init_31) <|
    BS.sq (pc' := 35) (s_newa 0 (.inl 0) (by decide) rfl rfl (fun _ _ h => h) (by decide) kw5 dX9_init_33) <|
    BS.sq (pc' := 38) (s_putF tyX9 4 isR inX9 tyX9_ok nmX9 kc11 (by decide) kw98 rfl rfl rfl rfl (okf_A G _) dX9_init_35) <|
    BS.sq (pc' := 39) (s_aload_n (k := 0) 0 rfl dX9_init_38) <|
    BS.sq (pc' := 41) (s_ldc 65538 kw94 dX9_init_39) <|
    BS.sq (pc' := 43) (s_newa 0 (.inl 0) (by decide) rfl rfl (fun _ _ h => h) (by decide) kw5 dX9_init_41) <|
    BS.sq (pc' := 46) (s_putF tyX9 5 isR inX9 tyX9_ok nmX9 kc11 (by decide) kw99 rfl rfl rfl rfl (okf_A G _) dX9_init_43) <|
    BS.sq (pc' := 47) (s_aload_n (k := 0) 0 rfl dX9_init_46) <|
    BS.sq (pc' := 49) (s_ldc 65538 kw94 dX9_init_47) <|
    BS.sq (pc' := 51) (s_newa 0 (.inl 0) (by decide) rfl rfl (fun _ _ h => h) (by decide) kw5 dX9_init_49) <|
    BS.sq (pc' := 54) (s_putF tyX9 6 isR inX9 tyX9_ok nmX9 kc11 (by decide) kw100 rfl rfl rfl rfl (okf_A G _) dX9_init_51) <|
    BS.sq (pc' := 55) (s_aload_n (k := 0) 0 rfl dX9_init_54) <|
    BS.sq (pc' := 58) (s_new tyX7 inX7 tyX7_ok kc9 kw101 kw17 kw18 rfl rfl dX9_init_55) <|
    BS.sq (pc' := 59) (s_dup dX9_init_58) <|
    BS.sq (pc' := 62) (s_sipush 5500 (by decide +kernel) dX9_init_59) <|
    BS.sq (pc' := 64) (s_ldc 65536 kw102 dX9_init_62) <|
    BS.sq (pc' := 67) (s_callI 2 9 kc9 (ok_X7_init l) kGood kw103 kw22 kw18 kw20 rfl (by decide +kernel) (by decide) (by decide) dX9_init_64) <|
    BS.sq (pc' := 70) (s_putF tyX9 7 isR inX9 tyX9_ok nmX9 kc11 (by decide) kw104 rfl rfl rfl rfl (okf_O G _) dX9_init_67) <|
    BS.sq (pc' := 71) (s_aload_n (k := 0) 0 rfl dX9_init_70) <|
    BS.sq (pc' := 74) (s_sipush 5500 (by decide +kernel) dX9_init_71) <|
    BS.sq (pc' := 76) (s_newa 0 (.inl 0) (by decide) rfl rfl (fun _ _ h => h) (by decide) kw5 dX9_init_74) <|
    BS.sq (pc' := 79) (s_putF tyX9 8 isR inX9 tyX9_ok nmX9 kc11 (by decide) kw105 rfl rfl rfl rfl (okf_A G _) dX9_init_76) <|
    BS.sq (pc' := 80) (s_aload_n (k := 0) 0 rfl dX9_init_79) <|
    BS.sq (pc' := 83) (s_sipush 5500 (by decide +kernel) dX9_init_80) <|
    BS.sq (pc' := 85) (s_newa 0 (.inl 0) (by decide) rfl rfl (fun _ _ h => h) (by decide) kw5 dX9_init_83) <|
    BS.sq (pc' := 88) (s_putF tyX9 9 isR inX9 tyX9_ok nmX9 kc11 (by decide) kw106 rfl rfl rfl rfl (okf_A G _) dX9_init_85) <|
    BS.sq (pc' := 89) (s_aload_n (k := 0) 0 rfl dX9_init_88) <|
    BS.sq (pc' := 92) (s_sipush 5501 (by decide +kernel) dX9_init_89) <|
    BS.sq (pc' := 94) (s_newa 0 (.inl 0) (by decide) rfl rfl (fun _ _ h => h) (by decide) kw5 dX9_init_92) <|
    BS.sq (pc' := 97) (s_putF tyX9 10 isR inX9 tyX9_ok nmX9 kc11 (by decide) kw107 rfl rfl rfl rfl (okf_A G _) dX9_init_94) <|
    BS.sq (pc' := 98) (s_aload_n (k := 0) 0 rfl dX9_init_97) <|
    BS.sq (pc' := 100) (s_ldc 32768 kw108 dX9_init_98) <|
    BS.sq (pc' := 102) (s_newa 0 (.inl 0) (by decide) rfl rfl (fun _ _ h => h) (by decide) kw5 dX9_init_100) <|
    BS.sq (pc' := 105) (s_putF tyX9 11 isR inX9 tyX9_ok nmX9 kc11 (by decide) kw109 rfl rfl rfl rfl (okf_A G _) dX9_init_102) <|
    BS.sq (pc' := 106) (s_aload_n (k := 0) 0 rfl dX9_init_105) <|
    BS.sq (pc' := 108) (s_ldc 32768 kw108 dX9_init_106) <|
    BS.sq (pc' := 110) (s_newa 0 (.inl 0) (by decide) rfl rfl (fun _ _ h => h) (by decide) kw5 dX9_init_108) <|
    BS.sq (pc' := 113) (s_putF tyX9 12 isR inX9 tyX9_ok nmX9 kc11 (by decide) kw110 rfl rfl rfl rfl (okf_A G _) dX9_init_110) <|
    BS.sq (pc' := 114) (s_aload_n (k := 0) 0 rfl dX9_init_113) <|
    BS.sq (pc' := 115) (s_iconst 0 (by decide +kernel) dX9_init_114) <|
    BS.sq (pc' := 118) (s_put tyX9 13 isI inX9 tyX9_ok nmX9 kc11 (by decide) kw111 rfl rfl (okf_I G) dX9_init_115) <|
    s_ret rfl dX9_init_118) <|
  AllB.n)
-- NativeWorks$Reader.<init>(LNativeWorks$Source;LNativeWorks$Line;)V
noncomputable def bs_X8_init : List rBl := [sq (h_ld isR 0) (sq (h_oinit) (sq (h_ld isR 0) (sq (h_ld isR 1) (sq (h_put 10 0 isR) (sq (h_ld isR 0) (sq (h_ld isR 2) (sq (h_put 10 1 isR) (sq (h_ld isR 0) (sq (h_v (.inl 21)) (sq (h_newa 0 (.inl 0)) (sq (h_put 10 3 isR) (sq (h_ld isR 0) (sq (h_v (.inl 21)) (sq (h_newa 0 (.inl 0)) (sq (h_put 10 4 isR) (sq (h_ld isR 0) (sq (h_v (.inl 21)) (sq (h_newa 0 (.inl 0)) (sq (h_put 10 5 isR) (sq (h_ld isR 0) (sq (h_v (.inl 21)) (sq (h_newa 0 (.inl 0)) (sq (h_put 10 6 isR) (sq (h_ld isR 0) (sq (h_v (.inl 21)) (sq (h_newa 0 (.inl 0)) (sq (h_put 10 7 isR) (sq (h_ld isR 0) (sq (h_v (.inl 21)) (sq (h_newa 0 (.inl 0)) (sq (h_put 10 8 isR) (sq (h_ld isR 0) (sq (h_v (.inl 21)) (sq (h_newa 0 (.inl 0)) (sq (h_put 10 9 isR) (sq (h_ld isR 0) (sq (h_v (.inl 21)) (sq (h_newa 0 (.inl 0)) (sq (h_put 10 10 isR) (sq (h_ld isR 0) (sq (h_v (.inl 21504)) (sq (h_newa 2 (.inl 0)) (sq (h_put 10 11 isR) (sq (h_ld isR 0) (sq (h_v (.inl 10752)) (sq (h_newa 0 (.inl 0)) (sq (h_put 10 12 isR) (sq (h_ld isR 0) (sq (h_v (.inl 10752)) (sq (h_newa 0 (.inl 0)) (sq (h_put 10 13 isR) (sq (h_ld isR 0) (sq (h_v (.inl 20)) (sq (h_newa 3 (.inl 0)) (sq (h_put 10 14 isR) (t_ret))))))))))))))))))))))))))))))))))))))))))))))))))))))))]
noncomputable def ev_X8_init : rEv := fun as w n => rIni 3 as (fun ls => rRun bs_X8_init 100000 0 ls [] w n 0)
set_option maxRecDepth 100000 in
set_option maxHeartbeats 4000000 in
theorem ok_X8_init (l : Launch) : rMet vwCl rFo rZs rRs rNs rTs l yX8_init cX8_init 3 ((Option.none : Option FieldType)) 1 20 ev_X8_init := met_of (pcs := [0]) (by decide +kernel) rfl (fun G n0 =>
  AllB.c (pb := 0) (
    BS.sq (pc' := 1) (s_aload_n (k := 0) 0 rfl dX8_init_0) <|
    BS.sq (pc' := 4) (s_oinit kw112 kw2 kwObj (by decide) (by decide) dX8_init_1) <|
    BS.sq (pc' := 5) (s_aload_n (k := 0) 0 rfl dX8_init_4) <|
    BS.sq (pc' := 6) (s_aload_n (k := 1) 1 rfl dX8_init_5) <|
    BS.sq (pc' := 9) (s_putF tyX8 0 isR inX8 tyX8_ok nmX8 kc10 (by decide) kw113 rfl rfl rfl rfl (okf_O G _) dX8_init_6) <|
    BS.sq (pc' := 10) (s_aload_n (k := 0) 0 rfl dX8_init_9) <|
    BS.sq (pc' := 11) (s_aload_n (k := 2) 2 rfl dX8_init_10) <|
    BS.sq (pc' := 14) (s_putF tyX8 1 isR inX8 tyX8_ok nmX8 kc10 (by decide) kw114 rfl rfl rfl rfl (okf_O G _) dX8_init_11) <|
    BS.sq (pc' := 15) (s_aload_n (k := 0) 0 rfl dX8_init_14) <|
    BS.sq (pc' := 17) (s_bipush 21 (by decide +kernel) dX8_init_15) <|
    BS.sq (pc' := 19) (s_newa 0 (.inl 0) (by decide) rfl rfl (fun _ _ h => h) (by decide) kw5 dX8_init_17) <|
    BS.sq (pc' := 22) (s_putF tyX8 3 isR inX8 tyX8_ok nmX8 kc10 (by decide) kw115 rfl rfl rfl rfl (okf_A G _) dX8_init_19) <|
    BS.sq (pc' := 23) (s_aload_n (k := 0) 0 rfl dX8_init_22) <|
    BS.sq (pc' := 25) (s_bipush 21 (by decide +kernel) dX8_init_23) <|
    BS.sq (pc' := 27) (s_newa 0 (.inl 0) (by decide) rfl rfl (fun _ _ h => h) (by decide) kw5 dX8_init_25) <|
    BS.sq (pc' := 30) (s_putF tyX8 4 isR inX8 tyX8_ok nmX8 kc10 (by decide) kw116 rfl rfl rfl rfl (okf_A G _) dX8_init_27) <|
    BS.sq (pc' := 31) (s_aload_n (k := 0) 0 rfl dX8_init_30) <|
    BS.sq (pc' := 33) (s_bipush 21 (by decide +kernel) dX8_init_31) <|
    BS.sq (pc' := 35) (s_newa 0 (.inl 0) (by decide) rfl rfl (fun _ _ h => h) (by decide) kw5 dX8_init_33) <|
    BS.sq (pc' := 38) (s_putF tyX8 5 isR inX8 tyX8_ok nmX8 kc10 (by decide) kw117 rfl rfl rfl rfl (okf_A G _) dX8_init_35) <|
    BS.sq (pc' := 39) (s_aload_n (k := 0) 0 rfl dX8_init_38) <|
    BS.sq (pc' := 41) (s_bipush 21 (by decide +kernel) dX8_init_39) <|
    BS.sq (pc' := 43) (s_newa 0 (.inl 0) (by decide) rfl rfl (fun _ _ h => h) (by decide) kw5 dX8_init_41) <|
    BS.sq (pc' := 46) (s_putF tyX8 6 isR inX8 tyX8_ok nmX8 kc10 (by decide) kw118 rfl rfl rfl rfl (okf_A G _) dX8_init_43) <|
    BS.sq (pc' := 47) (s_aload_n (k := 0) 0 rfl dX8_init_46) <|
    BS.sq (pc' := 49) (s_bipush 21 (by decide +kernel) dX8_init_47) <|
    BS.sq (pc' := 51) (s_newa 0 (.inl 0) (by decide) rfl rfl (fun _ _ h => h) (by decide) kw5 dX8_init_49) <|
    BS.sq (pc' := 54) (s_putF tyX8 7 isR inX8 tyX8_ok nmX8 kc10 (by decide) kw119 rfl rfl rfl rfl (okf_A G _) dX8_init_51) <|
    BS.sq (pc' := 55) (s_aload_n (k := 0) 0 rfl dX8_init_54) <|
    BS.sq (pc' := 57) (s_bipush 21 (by decide +kernel) dX8_init_55) <|
    BS.sq (pc' := 59) (s_newa 0 (.inl 0) (by decide) rfl rfl (fun _ _ h => h) (by decide) kw5 dX8_init_57) <|
    BS.sq (pc' := 62) (s_putF tyX8 8 isR inX8 tyX8_ok nmX8 kc10 (by decide) kw120 rfl rfl rfl rfl (okf_A G _) dX8_init_59) <|
    BS.sq (pc' := 63) (s_aload_n (k := 0) 0 rfl dX8_init_62) <|
    BS.sq (pc' := 65) (s_bipush 21 (by decide +kernel) dX8_init_63) <|
    BS.sq (pc' := 67) (s_newa 0 (.inl 0) (by decide) rfl rfl (fun _ _ h => h) (by decide) kw5 dX8_init_65) <|
    BS.sq (pc' := 70) (s_putF tyX8 9 isR inX8 tyX8_ok nmX8 kc10 (by decide) kw121 rfl rfl rfl rfl (okf_A G _) dX8_init_67) <|
    BS.sq (pc' := 71) (s_aload_n (k := 0) 0 rfl dX8_init_70) <|
    BS.sq (pc' := 73) (s_bipush 21 (by decide +kernel) dX8_init_71) <|
    BS.sq (pc' := 75) (s_newa 0 (.inl 0) (by decide) rfl rfl (fun _ _ h => h) (by decide) kw5 dX8_init_73) <|
    BS.sq (pc' := 78) (s_putF tyX8 10 isR inX8 tyX8_ok nmX8 kc10 (by decide) kw122 rfl rfl rfl rfl (okf_A G _) dX8_init_75) <|
    BS.sq (pc' := 79) (s_aload_n (k := 0) 0 rfl dX8_init_78) <|
    BS.sq (pc' := 82) (s_sipush 21504 (by decide +kernel) dX8_init_79) <|
    BS.sq (pc' := 84) (s_newa 2 (.inl 0) (by decide) rfl rfl (fun _ _ h => h) (by decide) kw3 dX8_init_82) <|
    BS.sq (pc' := 87) (s_putF tyX8 11 isR inX8 tyX8_ok nmX8 kc10 (by decide) kw123 rfl rfl rfl rfl (okf_A G _) dX8_init_84) <|
    BS.sq (pc' := 88) (s_aload_n (k := 0) 0 rfl dX8_init_87) <|
    BS.sq (pc' := 91) (s_sipush 10752 (by decide +kernel) dX8_init_88) <|
    BS.sq (pc' := 93) (s_newa 0 (.inl 0) (by decide) rfl rfl (fun _ _ h => h) (by decide) kw5 dX8_init_91) <|
    BS.sq (pc' := 96) (s_putF tyX8 12 isR inX8 tyX8_ok nmX8 kc10 (by decide) kw124 rfl rfl rfl rfl (okf_A G _) dX8_init_93) <|
    BS.sq (pc' := 97) (s_aload_n (k := 0) 0 rfl dX8_init_96) <|
    BS.sq (pc' := 100) (s_sipush 10752 (by decide +kernel) dX8_init_97) <|
    BS.sq (pc' := 102) (s_newa 0 (.inl 0) (by decide) rfl rfl (fun _ _ h => h) (by decide) kw5 dX8_init_100) <|
    BS.sq (pc' := 105) (s_putF tyX8 13 isR inX8 tyX8_ok nmX8 kc10 (by decide) kw125 rfl rfl rfl rfl (okf_A G _) dX8_init_102) <|
    BS.sq (pc' := 106) (s_aload_n (k := 0) 0 rfl dX8_init_105) <|
    BS.sq (pc' := 108) (s_bipush 20 (by decide +kernel) dX8_init_106) <|
    BS.sq (pc' := 110) (s_newa 3 (.inl 0) (by decide) rfl rfl (fun _ _ h => h) (by decide) kw126 dX8_init_108) <|
    BS.sq (pc' := 113) (s_putF tyX8 14 isR inX8 tyX8_ok nmX8 kc10 (by decide) kw127 rfl rfl rfl rfl (okf_A G _) dX8_init_110) <|
    s_ret rfl dX8_init_113) <|
  AllB.n)
-- NativeWorks$Expression.<init>(LNativeWorks$Line;LNativeWorks$Units;)V
noncomputable def bs_X1_init : List rBl := [sq (h_ld isR 0) (sq (h_oinit) (sq (h_ld isR 0) (sq (h_ld isR 1) (sq (h_put 3 0 isR) (sq (h_ld isR 0) (sq (h_ld isR 2) (sq (h_put 3 1 isR) (sq (h_ld isR 0) (sq (h_v (.inl 1026)) (sq (h_newa 1 (.inr (.inl 0))) (sq (h_put 3 2 isR) (sq (h_ld isR 0) (sq (h_v (.inl 1026)) (sq (h_newa 0 (.inl 0)) (sq (h_put 3 3 isR) (sq (h_ld isR 0) (sq (h_v (.inl 1026)) (sq (h_newa 0 (.inl 0)) (sq (h_put 3 4 isR) (sq (h_ld isR 0) (sq (h_v (.inl 1026)) (sq (h_newa 0 (.inl 0)) (sq (h_put 3 5 isR) (sq (h_ld isR 0) (sq (h_v (.inl 128)) (sq (h_newa 2 (.inl 0)) (sq (h_put 3 6 isR) (sq (h_ld isR 0) (sq (h_v (.inl 64)) (sq (h_newa 2 (.inl 0)) (sq (h_put 3 7 isR) (t_ret))))))))))))))))))))))))))))))))]
noncomputable def ev_X1_init : rEv := fun as w n => rIni 3 as (fun ls => rRun bs_X1_init 100000 0 ls [] w n 0)
set_option maxRecDepth 100000 in
set_option maxHeartbeats 4000000 in
theorem ok_X1_init (l : Launch) : rMet vwCl rFo rZs rRs rNs rTs l yX1_init cX1_init 3 ((Option.none : Option FieldType)) 1 20 ev_X1_init := met_of (pcs := [0]) (by decide +kernel) rfl (fun G n0 =>
  AllB.c (pb := 0) (
    BS.sq (pc' := 1) (s_aload_n (k := 0) 0 rfl dX1_init_0) <|
    BS.sq (pc' := 4) (s_oinit kw128 kw2 kwObj (by decide) (by decide) dX1_init_1) <|
    BS.sq (pc' := 5) (s_aload_n (k := 0) 0 rfl dX1_init_4) <|
    BS.sq (pc' := 6) (s_aload_n (k := 1) 1 rfl dX1_init_5) <|
    BS.sq (pc' := 9) (s_putF tyX1 0 isR inX1 tyX1_ok nmX1 kc3 (by decide) kw129 rfl rfl rfl rfl (okf_O G _) dX1_init_6) <|
    BS.sq (pc' := 10) (s_aload_n (k := 0) 0 rfl dX1_init_9) <|
    BS.sq (pc' := 11) (s_aload_n (k := 2) 2 rfl dX1_init_10) <|
    BS.sq (pc' := 14) (s_putF tyX1 1 isR inX1 tyX1_ok nmX1 kc3 (by decide) kw130 rfl rfl rfl rfl (okf_O G _) dX1_init_11) <|
    BS.sq (pc' := 15) (s_aload_n (k := 0) 0 rfl dX1_init_14) <|
    BS.sq (pc' := 18) (s_sipush 1026 (by decide +kernel) dX1_init_15) <|
    BS.sq (pc' := 20) (s_newa 1 (.inr (.inl 0)) (by decide) rfl rfl (fun _ _ h => h) (by decide) kw26 dX1_init_18) <|
    BS.sq (pc' := 23) (s_putF tyX1 2 isR inX1 tyX1_ok nmX1 kc3 (by decide) kw131 rfl rfl rfl rfl (okf_A G _) dX1_init_20) <|
    BS.sq (pc' := 24) (s_aload_n (k := 0) 0 rfl dX1_init_23) <|
    BS.sq (pc' := 27) (s_sipush 1026 (by decide +kernel) dX1_init_24) <|
    BS.sq (pc' := 29) (s_newa 0 (.inl 0) (by decide) rfl rfl (fun _ _ h => h) (by decide) kw5 dX1_init_27) <|
    BS.sq (pc' := 32) (s_putF tyX1 3 isR inX1 tyX1_ok nmX1 kc3 (by decide) kw132 rfl rfl rfl rfl (okf_A G _) dX1_init_29) <|
    BS.sq (pc' := 33) (s_aload_n (k := 0) 0 rfl dX1_init_32) <|
    BS.sq (pc' := 36) (s_sipush 1026 (by decide +kernel) dX1_init_33) <|
    BS.sq (pc' := 38) (s_newa 0 (.inl 0) (by decide) rfl rfl (fun _ _ h => h) (by decide) kw5 dX1_init_36) <|
    BS.sq (pc' := 41) (s_putF tyX1 4 isR inX1 tyX1_ok nmX1 kc3 (by decide) kw133 rfl rfl rfl rfl (okf_A G _) dX1_init_38) <|
    BS.sq (pc' := 42) (s_aload_n (k := 0) 0 rfl dX1_init_41) <|
    BS.sq (pc' := 45) (s_sipush 1026 (by decide +kernel) dX1_init_42) <|
    BS.sq (pc' := 47) (s_newa 0 (.inl 0) (by decide) rfl rfl (fun _ _ h => h) (by decide) kw5 dX1_init_45) <|
    BS.sq (pc' := 50) (s_putF tyX1 5 isR inX1 tyX1_ok nmX1 kc3 (by decide) kw134 rfl rfl rfl rfl (okf_A G _) dX1_init_47) <|
    BS.sq (pc' := 51) (s_aload_n (k := 0) 0 rfl dX1_init_50) <|
    BS.sq (pc' := 54) (s_sipush 128 (by decide +kernel) dX1_init_51) <|
    BS.sq (pc' := 56) (s_newa 2 (.inl 0) (by decide) rfl rfl (fun _ _ h => h) (by decide) kw3 dX1_init_54) <|
    BS.sq (pc' := 59) (s_putF tyX1 6 isR inX1 tyX1_ok nmX1 kc3 (by decide) kw135 rfl rfl rfl rfl (okf_A G _) dX1_init_56) <|
    BS.sq (pc' := 60) (s_aload_n (k := 0) 0 rfl dX1_init_59) <|
    BS.sq (pc' := 62) (s_bipush 64 (by decide +kernel) dX1_init_60) <|
    BS.sq (pc' := 64) (s_newa 2 (.inl 0) (by decide) rfl rfl (fun _ _ h => h) (by decide) kw3 dX1_init_62) <|
    BS.sq (pc' := 67) (s_putF tyX1 7 isR inX1 tyX1_ok nmX1 kc3 (by decide) kw136 rfl rfl rfl rfl (okf_A G _) dX1_init_64) <|
    s_ret rfl dX1_init_67) <|
  AllB.n)
-- NativeWorks$Instruction.isConditional(I)Z
noncomputable def bs_X2_isConditional : List rBl := [sq (h_ld isI 0) (sq (h_v (.inl 34)) (t_icmp rEq 3 1)),
  sq (h_ld isI 0) (sq (h_v (.inl 35)) (t_icmp rEq 3 2)),
  sq (h_ld isI 0) (sq (h_v (.inl 36)) (t_icmp (fun a b => rNot (rEq a b)) 4 3)),
  sq (h_v (.inl 1)) (t_go 5),
  sq (h_v (.inl 0)) (t_go 5),
  t_retv isZ]
noncomputable def ev_X2_isConditional : rEv := fun as w n => rIni 1 as (fun ls => rRun bs_X2_isConditional 100000 0 ls [] w n 0)
set_option maxRecDepth 100000 in
set_option maxHeartbeats 4000000 in
theorem ok_X2_isConditional (l : Launch) : rMet vwCl rFo rZs rRs rNs rTs l yX2_isConditional cX2_isConditional 1 ((Option.some FieldType.boolean)) 0 0 ev_X2_isConditional := met_of (pcs := [0, 6, 12, 18, 22, 23]) (by decide +kernel) rfl (fun G n0 =>
  AllB.c (pb := 0) (
    BS.sq (pc' := 1) (s_iload_n (k := 0) 0 rfl dX2_isConditional_0) <|
    BS.sq (pc' := 3) (s_bipush 34 (by decide +kernel) dX2_isConditional_1) <|
    s_icmp_eq rfl rfl (by decide) dX2_isConditional_3) <|
  AllB.c (pb := 6) (
    BS.sq (pc' := 7) (s_iload_n (k := 0) 0 rfl dX2_isConditional_6) <|
    BS.sq (pc' := 9) (s_bipush 35 (by decide +kernel) dX2_isConditional_7) <|
    s_icmp_eq rfl rfl (by decide) dX2_isConditional_9) <|
  AllB.c (pb := 12) (
    BS.sq (pc' := 13) (s_iload_n (k := 0) 0 rfl dX2_isConditional_12) <|
    BS.sq (pc' := 15) (s_bipush 36 (by decide +kernel) dX2_isConditional_13) <|
    s_icmp_ne rfl rfl (by decide) dX2_isConditional_15) <|
  AllB.c (pb := 18) (
    BS.sq (pc' := 19) (s_iconst 1 (by decide +kernel) dX2_isConditional_18) <|
    s_goto rfl (by decide) dX2_isConditional_19) <|
  AllB.c (pb := 22) (
    BS.sq (pc' := 23) (s_iconst 0 (by decide +kernel) dX2_isConditional_22) <|
    BS.go rfl) <|
  AllB.c (pb := 23) (
    s_reti isZ rfl okr_Z dX2_isConditional_23) <|
  AllB.n)
-- NativeWorks$Instruction.enter(I)V
noncomputable def bs_X2_enter : List rBl := [sq (h_ld isR 0) (sq (h_get rFo 4 0) (sq (h_ld isI 1) (sq (h_v (.inl 4)) (sq (h_bin (fun _ _ => true) rAdd) (sq (h_ald rFo okI) (sq (h_st isI 2) (sq (h_ld isI 2) (sq (h_v (.inl 8)) (sq (h_bin okShr rShr) (sq (h_v (.inl 15)) (t_icmp (fun a b => rNot (rEq a b)) 2 1))))))))))),
  sq (h_v (.inl 1)) (t_go 5),
  sq (h_ld isI 2) (sq (h_v (.inl 8)) (sq (h_bin okShr rShr) (sq (h_v (.inl 243)) (t_icmp (fun a b => rNot (rEq a b)) 4 3)))),
  sq (h_v (.inl 2)) (t_go 5),
  sq (h_v (.inl 0)) (t_go 5),
  sq (h_st isI 3) (sq (h_v (.inr (.inr 70))) (sq (h_ld isR 0) (sq (h_get rFo 4 0) (sq (h_ld isI 1) (sq (h_v (.inl 2)) (sq (h_bin (fun _ _ => true) rAdd) (sq (h_ald rFo okI) (sq (h_ald rFo okI) (sq (h_v (.inl 4294967295)) (t_icmp rEq 7 6)))))))))),
  sq (h_v (.inl 8)) (t_go 10),
  sq (h_ld isR 0) (sq (h_get rFo 4 0) (sq (h_ld isI 1) (sq (h_ald rFo okI) (sq (h_call 1 rAny ev_X2_isConditional) (t_if (fun a => rEq a 0) 9 8))))),
  sq (h_v (.inl 16)) (t_go 10),
  sq (h_v (.inl 1)) (t_go 10),
  sq (h_st isI 4) (sq (h_ld isI 3) (sq (h_v (.inl 256)) (sq (h_bin (fun _ _ => true) rMul) (sq (h_ld isI 2) (sq (h_v (.inl 255)) (sq (h_bin (fun _ _ => true) Nat.land) (sq (h_bin (fun _ _ => true) rAdd) (sq (h_v (.inl 8)) (sq (h_bin (fun _ _ => true) rMul) (sq (h_st isI 5) (sq (h_ld isI 5) (sq (h_st isI 6) (t_go 11))))))))))))),
  sq (h_ld isI 6) (sq (h_ld isI 5) (sq (h_v (.inl 8)) (sq (h_ld isI 4) (sq (h_bin (fun _ _ => true) rMul) (sq (h_bin (fun _ _ => true) rAdd) (t_icmp (fun a b => rNot (rLt a b)) 18 12)))))),
  sq (h_ld isI 6) (sq (h_ld isR 0) (sq (h_get rFo 4 2) (sq (h_alen rFo) (t_icmp (fun a b => rNot (rLt a b)) 18 13)))),
  sq (h_ld isR 0) (sq (h_get rFo 4 0) (sq (h_ld isI 1) (sq (h_v (.inl 5)) (sq (h_bin (fun _ _ => true) rAdd) (sq (h_ald rFo okI) (sq (h_st isI 7) (sq (h_ld isI 7) (sq (h_v (.inl 4294967295)) (t_icmp rEq 15 14))))))))),
  sq (h_ld isI 7) (sq (h_ld isI 6) (sq (h_v (.inl 8)) (sq (h_bin rDok Nat.mod) (t_icmp (fun a b => rNot (rEq a b)) 17 15)))),
  sq (h_ld isR 0) (sq (h_get rFo 4 2) (sq (h_ld isI 6) (sq (h_ald rFo okI) (sq (h_v (.inl 4294967295)) (t_icmp (fun a b => rNot (rEq a b)) 17 16))))),
  sq (h_ld isR 0) (sq (h_get rFo 4 2) (sq (h_ld isI 6) (sq (h_ld isI 1) (sq (h_ast okI) (t_go 17))))),
  sq (h_inc 6 1) (t_go 11),
  t_ret]
noncomputable def ev_X2_enter : rEv := fun as w n => rIni 8 as (fun ls => rRun bs_X2_enter 100000 0 ls [] w n 0)
set_option maxRecDepth 100000 in
set_option maxHeartbeats 4000000 in
theorem ok_X2_enter (l : Launch) : rMet vwCl rFo rZs rRs rNs rTs l yX2_enter cX2_enter 8 ((Option.none : Option FieldType)) 1 20 ev_X2_enter := met_of (pcs := [0, 18, 22, 32, 36, 37, 54, 59, 71, 76, 77, 99, 112, 122, 138, 148, 159, 167, 173]) (by decide +kernel) rfl (fun G n0 =>
  AllB.c (pb := 0) (
    BS.sq (pc' := 1) (s_aload_n (k := 0) 0 rfl dX2_enter_0) <|
    BS.sq (pc' := 4) (s_get 0 inX2 kc4 (by decide) kw137 rfl dX2_enter_1) <|
    BS.sq (pc' := 5) (s_iload_n (k := 1) 1 rfl dX2_enter_4) <|
    BS.sq (pc' := 6) (s_iconst 4 (by decide +kernel) dX2_enter_5) <|
    BS.sq (pc' := 7) (s_iadd dX2_enter_6) <|
    BS.sq (pc' := 8) (s_iaload dX2_enter_7) <|
    BS.sq (pc' := 9) (s_istore_n (k := 2) 2 rfl (by decide) dX2_enter_8) <|
    BS.sq (pc' := 10) (s_iload_n (k := 2) 2 rfl dX2_enter_9) <|
    BS.sq (pc' := 12) (s_bipush 8 (by decide +kernel) dX2_enter_10) <|
    BS.sq (pc' := 13) (s_ishr dX2_enter_12) <|
    BS.sq (pc' := 15) (s_bipush 15 (by decide +kernel) dX2_enter_13) <|
    s_icmp_ne rfl rfl (by decide) dX2_enter_15) <|
  AllB.c (pb := 18) (
    BS.sq (pc' := 19) (s_iconst 1 (by decide +kernel) dX2_enter_18) <|
    s_goto rfl (by decide) dX2_enter_19) <|
  AllB.c (pb := 22) (
    BS.sq (pc' := 23) (s_iload_n (k := 2) 2 rfl dX2_enter_22) <|
    BS.sq (pc' := 25) (s_bipush 8 (by decide +kernel) dX2_enter_23) <|
    BS.sq (pc' := 26) (s_ishr dX2_enter_25) <|
    BS.sq (pc' := 29) (s_sipush 243 (by decide +kernel) dX2_enter_26) <|
    s_icmp_ne rfl rfl (by decide) dX2_enter_29) <|
  AllB.c (pb := 32) (
    BS.sq (pc' := 33) (s_iconst 2 (by decide +kernel) dX2_enter_32) <|
    s_goto rfl (by decide) dX2_enter_33) <|
  AllB.c (pb := 36) (
    BS.sq (pc' := 37) (s_iconst 0 (by decide +kernel) dX2_enter_36) <|
    BS.go rfl) <|
  AllB.c (pb := 37) (
    BS.sq (pc' := 38) (s_istore_n (k := 3) 3 rfl (by decide) dX2_enter_37) <|
    BS.sq (pc' := 41) (s_gets (.inr (.inr 70)) kz2 kw138 rfl dX2_enter_38) <|
    BS.sq (pc' := 42) (s_aload_n (k := 0) 0 rfl dX2_enter_41) <|
    BS.sq (pc' := 45) (s_get 0 inX2 kc4 (by decide) kw137 rfl dX2_enter_42) <|
    BS.sq (pc' := 46) (s_iload_n (k := 1) 1 rfl dX2_enter_45) <|
    BS.sq (pc' := 47) (s_iconst 2 (by decide +kernel) dX2_enter_46) <|
    BS.sq (pc' := 48) (s_iadd dX2_enter_47) <|
    BS.sq (pc' := 49) (s_iaload dX2_enter_48) <|
    BS.sq (pc' := 50) (s_iaload dX2_enter_49) <|
    BS.sq (pc' := 51) (s_iconst 4294967295 (by decide +kernel) dX2_enter_50) <|
    s_icmp_eq rfl rfl (by decide) dX2_enter_51) <|
  AllB.c (pb := 54) (
    BS.sq (pc' := 56) (s_bipush 8 (by decide +kernel) dX2_enter_54) <|
    s_goto rfl (by decide) dX2_enter_56) <|
  AllB.c (pb := 59) (
    BS.sq (pc' := 60) (s_aload_n (k := 0) 0 rfl dX2_enter_59) <|
    BS.sq (pc' := 63) (s_get 0 inX2 kc4 (by decide) kw137 rfl dX2_enter_60) <|
    BS.sq (pc' := 64) (s_iload_n (k := 1) 1 rfl dX2_enter_63) <|
    BS.sq (pc' := 65) (s_iaload dX2_enter_64) <|
    BS.sq (pc' := 68) (s_callS 1 (ok_X2_isConditional l) kGood kw140 kw141 kw142 kw139 (by decide +kernel) (by decide) (by decide) dX2_enter_65) <|
    s_if_eq rfl rfl (by decide) dX2_enter_68) <|
  AllB.c (pb := 71) (
    BS.sq (pc' := 73) (s_bipush 16 (by decide +kernel) dX2_enter_71) <|
    s_goto rfl (by decide) dX2_enter_73) <|
  AllB.c (pb := 76) (
    BS.sq (pc' := 77) (s_iconst 1 (by decide +kernel) dX2_enter_76) <|
    BS.go rfl) <|
  AllB.c (pb := 77) (
    BS.sq (pc' := 79) (s_istore 4 (by decide) dX2_enter_77) <|
    BS.sq (pc' := 80) (s_iload_n (k := 3) 3 rfl dX2_enter_79) <|
    BS.sq (pc' := 83) (s_sipush 256 (by decide +kernel) dX2_enter_80) <|
    BS.sq (pc' := 84) (s_imul dX2_enter_83) <|
    BS.sq (pc' := 85) (s_iload_n (k := 2) 2 rfl dX2_enter_84) <|
    BS.sq (pc' := 88) (s_sipush 255 (by decide +kernel) dX2_enter_85) <|
    BS.sq (pc' := 89) (s_iand dX2_enter_88) <|
    BS.sq (pc' := 90) (s_iadd dX2_enter_89) <|
    BS.sq (pc' := 92) (s_bipush 8 (by decide +kernel) dX2_enter_90) <|
    BS.sq (pc' := 93) (s_imul dX2_enter_92) <|
    BS.sq (pc' := 95) (s_istore 5 (by decide) dX2_enter_93) <|
    BS.sq (pc' := 97) (s_iload 5 dX2_enter_95) <|
    BS.sq (pc' := 99) (s_istore 6 (by decide) dX2_enter_97) <|
    BS.go rfl) <|
  AllB.c (pb := 99) (
    BS.sq (pc' := 101) (s_iload 6 dX2_enter_99) <|
    BS.sq (pc' := 103) (s_iload 5 dX2_enter_101) <|
    BS.sq (pc' := 105) (s_bipush 8 (by decide +kernel) dX2_enter_103) <|
    BS.sq (pc' := 107) (s_iload 4 dX2_enter_105) <|
    BS.sq (pc' := 108) (s_imul dX2_enter_107) <|
    BS.sq (pc' := 109) (s_iadd dX2_enter_108) <|
    s_icmp_ge rfl rfl (by decide) dX2_enter_109) <|
  AllB.c (pb := 112) (
    BS.sq (pc' := 114) (s_iload 6 dX2_enter_112) <|
    BS.sq (pc' := 115) (s_aload_n (k := 0) 0 rfl dX2_enter_114) <|
    BS.sq (pc' := 118) (s_get 2 inX2 kc4 (by decide) kw143 rfl dX2_enter_115) <|
    BS.sq (pc' := 119) (s_alen dX2_enter_118) <|
    s_icmp_ge rfl rfl (by decide) dX2_enter_119) <|
  AllB.c (pb := 122) (
    BS.sq (pc' := 123) (s_aload_n (k := 0) 0 rfl dX2_enter_122) <|
    BS.sq (pc' := 126) (s_get 0 inX2 kc4 (by decide) kw137 rfl dX2_enter_123) <|
    BS.sq (pc' := 127) (s_iload_n (k := 1) 1 rfl dX2_enter_126) <|
    BS.sq (pc' := 128) (s_iconst 5 (by decide +kernel) dX2_enter_127) <|
    BS.sq (pc' := 129) (s_iadd dX2_enter_128) <|
    BS.sq (pc' := 130) (s_iaload dX2_enter_129) <|
    BS.sq (pc' := 132) (s_istore 7 (by decide) dX2_enter_130) <|
    BS.sq (pc' := 134) (s_iload 7 dX2_enter_132) <|
    BS.sq (pc' := 135) (s_iconst 4294967295 (by decide +kernel) dX2_enter_134) <|
    s_icmp_eq rfl rfl (by decide) dX2_enter_135) <|
  AllB.c (pb := 138) (
    BS.sq (pc' := 140) (s_iload 7 dX2_enter_138) <|
    BS.sq (pc' := 142) (s_iload 6 dX2_enter_140) <|
    BS.sq (pc' := 144) (s_bipush 8 (by decide +kernel) dX2_enter_142) <|
    BS.sq (pc' := 145) (s_irem dX2_enter_144) <|
    s_icmp_ne rfl rfl (by decide) dX2_enter_145) <|
  AllB.c (pb := 148) (
    BS.sq (pc' := 149) (s_aload_n (k := 0) 0 rfl dX2_enter_148) <|
    BS.sq (pc' := 152) (s_get 2 inX2 kc4 (by decide) kw143 rfl dX2_enter_149) <|
    BS.sq (pc' := 154) (s_iload 6 dX2_enter_152) <|
    BS.sq (pc' := 155) (s_iaload dX2_enter_154) <|
    BS.sq (pc' := 156) (s_iconst 4294967295 (by decide +kernel) dX2_enter_155) <|
    s_icmp_ne rfl rfl (by decide) dX2_enter_156) <|
  AllB.c (pb := 159) (
    BS.sq (pc' := 160) (s_aload_n (k := 0) 0 rfl dX2_enter_159) <|
    BS.sq (pc' := 163) (s_get 2 inX2 kc4 (by decide) kw143 rfl dX2_enter_160) <|
    BS.sq (pc' := 165) (s_iload 6 dX2_enter_163) <|
    BS.sq (pc' := 166) (s_iload_n (k := 1) 1 rfl dX2_enter_165) <|
    BS.sq (pc' := 167) (s_iastore dX2_enter_166) <|
    BS.go rfl) <|
  AllB.c (pb := 167) (
    BS.sq (pc' := 170) (s_iinc 6 1 (1) (by decide +kernel) (by decide) dX2_enter_167) <|
    s_goto rfl (by decide) dX2_enter_170) <|
  AllB.c (pb := 173) (
    s_ret rfl dX2_enter_173) <|
  AllB.n)
-- NativeWorks$Instruction.<init>()V
noncomputable def bs_X2_init : List rBl := [sq (h_ld isR 0) (sq (h_oinit) (sq (h_ld isR 0) (sq (h_v (.inl 8)) (sq (h_v (.inr (.inr 72))) (sq (h_alen rFo) (sq (h_bin (fun _ _ => true) rMul) (sq (h_v (.inr (.inr 74))) (sq (h_alen rFo) (sq (h_bin (fun _ _ => true) rAdd) (sq (h_newa 0 (.inl 0)) (sq (h_put 4 0 isR) (sq (h_ld isR 0) (sq (h_v (.inl 55)) (sq (h_newa 0 (.inl 0)) (sq (h_put 4 1 isR) (sq (h_ld isR 0) (sq (h_v (.inl 6144)) (sq (h_newa 0 (.inl 0)) (sq (h_put 4 2 isR) (sq (h_ld isR 0) (sq (h_v (.inl 4)) (sq (h_newa 0 (.inl 0)) (sq (h_put 4 3 isR) (sq (h_ld isR 0) (sq (h_v (.inl 4)) (sq (h_newa 0 (.inl 0)) (sq (h_put 4 4 isR) (sq (h_ld isR 0) (sq (h_v (.inl 32)) (sq (h_newa 2 (.inl 0)) (sq (h_put 4 5 isR) (sq (h_ld isR 0) (sq (h_get rFo 4 2) (sq (h_v (.inl 4294967295)) (sq (h_call 2 rAny ev_J7_fill_53178) (sq (h_v (.inl 0)) (sq (h_st isI 1) (t_go 1)))))))))))))))))))))))))))))))))))))),
  sq (h_ld isI 1) (sq (h_v (.inl 8)) (sq (h_v (.inr (.inr 72))) (sq (h_alen rFo) (sq (h_bin (fun _ _ => true) rMul) (t_icmp (fun a b => rNot (rLt a b)) 14 2))))),
  sq (h_ld isI 1) (sq (h_v (.inr (.inr 72))) (sq (h_alen rFo) (sq (h_bin rDok Nat.div) (sq (h_st isI 2) (sq (h_ld isI 1) (sq (h_v (.inl 6)) (sq (h_bin rDok Nat.mod) (sq (h_st isI 3) (sq (h_v (.inr (.inr 72))) (sq (h_ld isI 1) (sq (h_v (.inr (.inr 72))) (sq (h_alen rFo) (sq (h_bin rDok Nat.mod) (sq (h_ald rFo okI) (sq (h_st isI 4) (sq (h_ld isI 3) (t_if (fun a => rEq a 0) 5 3))))))))))))))))),
  sq (h_ld isI 3) (sq (h_v (.inl 5)) (t_icmp (fun a b => rNot (rEq a b)) 6 4)),
  sq (h_ld isI 4) (t_if (fun a => rNot (rEq a 0)) 6 5),
  sq (h_v (.inl 1)) (t_go 7),
  sq (h_v (.inl 0)) (t_go 7),
  sq (h_st isI 5) (sq (h_ld isR 0) (sq (h_get rFo 4 0) (sq (h_ld isI 1) (sq (h_ld isI 5) (t_if (fun a => rEq a 0) 9 8))))),
  sq (h_ld isI 2) (t_go 13),
  sq (h_ld isI 3) (sq (h_v (.inl 4)) (t_icmp (fun a b => rNot (rEq a b)) 12 10)),
  sq (h_ld isI 4) (sq (h_v (.inl 128)) (t_icmp (fun a b => rNot (rLt a b)) 12 11)),
  sq (h_ld isI 4) (sq (h_v (.inl 8)) (sq (h_ld isI 2) (sq (h_bin (fun _ _ => true) rMul) (sq (h_bin (fun _ _ => true) rAdd) (t_go 13))))),
  sq (h_ld isI 4) (t_go 13),
  sq (h_ast okI) (sq (h_inc 1 1) (t_go 1)),
  sq (h_v (.inr (.inr 74))) (sq (h_v (.inl 0)) (sq (h_ld isR 0) (sq (h_get rFo 4 0) (sq (h_v (.inl 8)) (sq (h_v (.inr (.inr 72))) (sq (h_alen rFo) (sq (h_bin (fun _ _ => true) rMul) (sq (h_v (.inr (.inr 74))) (sq (h_alen rFo) (sq (h_acopy rFo) (sq (h_v (.inl 0)) (sq (h_st isI 1) (t_go 15))))))))))))),
  sq (h_ld isI 1) (sq (h_ld isR 0) (sq (h_get rFo 4 0) (sq (h_alen rFo) (t_icmp (fun a b => rNot (rLt a b)) 17 16)))),
  sq (h_ld isR 0) (sq (h_get rFo 4 1) (sq (h_ld isR 0) (sq (h_get rFo 4 0) (sq (h_ld isI 1) (sq (h_ald rFo okI) (sq (h_v (.inl 1)) (sq (h_bin (fun _ _ => true) rAdd) (sq (h_ld isI 1) (sq (h_v (.inl 6)) (sq (h_bin (fun _ _ => true) rAdd) (sq (h_ast okI) (sq (h_ld isR 0) (sq (h_ld isI 1) (sq (h_call 2 (rRecv rFo 4) ev_X2_enter) (sq (h_inc 1 6) (t_go 15)))))))))))))))),
  t_ret]
noncomputable def ev_X2_init : rEv := fun as w n => rIni 6 as (fun ls => rRun bs_X2_init 100000 0 ls [] w n 0)
set_option maxRecDepth 100000 in
set_option maxHeartbeats 4000000 in
theorem ok_X2_init (l : Launch) : rMet vwCl rFo rZs rRs rNs rTs l yX2_init cX2_init 6 ((Option.none : Option FieldType)) 2 100 ev_X2_init := met_of (pcs := [0, 71, 82, 110, 115, 120, 124, 125, 137, 141, 146, 154, 164, 166, 173, 197, 206, 234]) (by decide +kernel) rfl (fun G n0 =>
  AllB.c (pb := 0) (
    BS.sq (pc' := 1) (s_aload_n (k := 0) 0 rfl dX2_init_0) <|
    BS.sq (pc' := 4) (s_oinit kw144 kw2 kwObj (by decide) (by decide) dX2_init_1) <|
    BS.sq (pc' := 5) (s_aload_n (k := 0) 0 rfl dX2_init_4) <|
    BS.sq (pc' := 7) (s_bipush 8 (by decide +kernel) dX2_init_5) <|
    BS.sq (pc' := 10) (s_gets (.inr (.inr 72)) kz3 kw145 rfl dX2_init_7) <|
    BS.sq (pc' := 11) (s_alen dX2_init_10) <|
    BS.sq (pc' := 12) (s_imul dX2_init_11) <|
    BS.sq (pc' := 15) (s_gets (.inr (.inr 74)) kz4 kw146 rfl dX2_init_12) <|
    BS.sq (pc' := 16) (s_alen dX2_init_15) <|
    BS.sq (pc' := 17) (s_iadd dX2_init_16) <|
    BS.sq (pc' := 19) (s_newa 0 (.inl 0) (by decide) rfl rfl (fun _ _ h => h) (by decide) kw5 dX2_init_17) <|
    BS.sq (pc' := 22) (s_putF tyX2 0 isR inX2 tyX2_ok nmX2 kc4 (by decide) kw137 rfl rfl rfl rfl (okf_A G _) dX2_init_19) <|
    BS.sq (pc' := 23) (s_aload_n (k := 0) 0 rfl dX2_init_22) <|
    BS.sq (pc' := 25) (s_bipush 55 (by decide +kernel) dX2_init_23) <|
    BS.sq (pc' := 27) (s_newa 0 (.inl 0) (by decide) rfl rfl (fun _ _ h => h) (by decide) kw5 dX2_init_25) <|
    BS.sq (pc' := 30) (s_putF tyX2 1 isR inX2 tyX2_ok nmX2 kc4 (by decide) kw147 rfl rfl rfl rfl (okf_A G _) dX2_init_27) <|
    BS.sq (pc' := 31) (s_aload_n (k := 0) 0 rfl dX2_init_30) <|
    BS.sq (pc' := 34) (s_sipush 6144 (by decide +kernel) dX2_init_31) <|
    BS.sq (pc' := 36) (s_newa 0 (.inl 0) (by decide) rfl rfl (fun _ _ h => h) (by decide) kw5 dX2_init_34) <|
    BS.sq (pc' := 39) (s_putF tyX2 2 isR inX2 tyX2_ok nmX2 kc4 (by decide) kw143 rfl rfl rfl rfl (okf_A G _) dX2_init_36) <|
    BS.sq (pc' := 40) (s_aload_n (k := 0) 0 rfl dX2_init_39) <|
    BS.sq (pc' := 41) (s_iconst 4 (by decide +kernel) dX2_init_40) <|
    BS.sq (pc' := 43) (s_newa 0 (.inl 0) (by decide) rfl rfl (fun _ _ h => h) (by decide) kw5 dX2_init_41) <|
    BS.sq (pc' := 46) (s_putF tyX2 3 isR inX2 tyX2_ok nmX2 kc4 (by decide) kw148 rfl rfl rfl rfl (okf_A G _) dX2_init_43) <|
    BS.sq (pc' := 47) (s_aload_n (k := 0) 0 rfl dX2_init_46) <|
    BS.sq (pc' := 48) (s_iconst 4 (by decide +kernel) dX2_init_47) <|
    BS.sq (pc' := 50) (s_newa 0 (.inl 0) (by decide) rfl rfl (fun _ _ h => h) (by decide) kw5 dX2_init_48) <|
    BS.sq (pc' := 53) (s_putF tyX2 4 isR inX2 tyX2_ok nmX2 kc4 (by decide) kw149 rfl rfl rfl rfl (okf_A G _) dX2_init_50) <|
    BS.sq (pc' := 54) (s_aload_n (k := 0) 0 rfl dX2_init_53) <|
    BS.sq (pc' := 56) (s_bipush 32 (by decide +kernel) dX2_init_54) <|
    BS.sq (pc' := 58) (s_newa 2 (.inl 0) (by decide) rfl rfl (fun _ _ h => h) (by decide) kw3 dX2_init_56) <|
    BS.sq (pc' := 61) (s_putF tyX2 5 isR inX2 tyX2_ok nmX2 kc4 (by decide) kw150 rfl rfl rfl rfl (okf_A G _) dX2_init_58) <|
    BS.sq (pc' := 62) (s_aload_n (k := 0) 0 rfl dX2_init_61) <|
    BS.sq (pc' := 65) (s_get 2 inX2 kc4 (by decide) kw143 rfl dX2_init_62) <|
    BS.sq (pc' := 66) (s_iconst 4294967295 (by decide +kernel) dX2_init_65) <|
    BS.sq (pc' := 69) (s_callS 2 (ok_J7_fill_53178 l) kGood kw151 kw12 kw13 kw10 (by decide +kernel) (by decide) (by decide) dX2_init_66) <|
    BS.sq (pc' := 70) (s_iconst 0 (by decide +kernel) dX2_init_69) <|
    BS.sq (pc' := 71) (s_istore_n (k := 1) 1 rfl (by decide) dX2_init_70) <|
    BS.go rfl) <|
  AllB.c (pb := 71) (
    BS.sq (pc' := 72) (s_iload_n (k := 1) 1 rfl dX2_init_71) <|
    BS.sq (pc' := 74) (s_bipush 8 (by decide +kernel) dX2_init_72) <|
    BS.sq (pc' := 77) (s_gets (.inr (.inr 72)) kz3 kw145 rfl dX2_init_74) <|
    BS.sq (pc' := 78) (s_alen dX2_init_77) <|
    BS.sq (pc' := 79) (s_imul dX2_init_78) <|
    s_icmp_ge rfl rfl (by decide) dX2_init_79) <|
  AllB.c (pb := 82) (
    BS.sq (pc' := 83) (s_iload_n (k := 1) 1 rfl dX2_init_82) <|
    BS.sq (pc' := 86) (s_gets (.inr (.inr 72)) kz3 kw145 rfl dX2_init_83) <|
    BS.sq (pc' := 87) (s_alen dX2_init_86) <|
    BS.sq (pc' := 88) (s_idiv dX2_init_87) <|
    BS.sq (pc' := 89) (s_istore_n (k := 2) 2 rfl (by decide) dX2_init_88) <|
    BS.sq (pc' := 90) (s_iload_n (k := 1) 1 rfl dX2_init_89) <|
    BS.sq (pc' := 92) (s_bipush 6 (by decide +kernel) dX2_init_90) <|
    BS.sq (pc' := 93) (s_irem dX2_init_92) <|
    BS.sq (pc' := 94) (s_istore_n (k := 3) 3 rfl (by decide) dX2_init_93) <|
    BS.sq (pc' := 97) (s_gets (.inr (.inr 72)) kz3 kw145 rfl dX2_init_94) <|
    BS.sq (pc' := 98) (s_iload_n (k := 1) 1 rfl dX2_init_97) <|
    BS.sq (pc' := 101) (s_gets (.inr (.inr 72)) kz3 kw145 rfl dX2_init_98) <|
    BS.sq (pc' := 102) (s_alen dX2_init_101) <|
    BS.sq (pc' := 103) (s_irem dX2_init_102) <|
    BS.sq (pc' := 104) (s_iaload dX2_init_103) <|
    BS.sq (pc' := 106) (s_istore 4 (by decide) dX2_init_104) <|
    BS.sq (pc' := 107) (s_iload_n (k := 3) 3 rfl dX2_init_106) <|
    s_if_eq rfl rfl (by decide) dX2_init_107) <|
  AllB.c (pb := 110) (
    BS.sq (pc' := 111) (s_iload_n (k := 3) 3 rfl dX2_init_110) <|
    BS.sq (pc' := 112) (s_iconst 5 (by decide +kernel) dX2_init_111) <|
    s_icmp_ne rfl rfl (by decide) dX2_init_112) <|
  AllB.c (pb := 115) (
    BS.sq (pc' := 117) (s_iload 4 dX2_init_115) <|
    s_if_ne rfl rfl (by decide) dX2_init_117) <|
  AllB.c (pb := 120) (
    BS.sq (pc' := 121) (s_iconst 1 (by decide +kernel) dX2_init_120) <|
    s_goto rfl (by decide) dX2_init_121) <|
  AllB.c (pb := 124) (
    BS.sq (pc' := 125) (s_iconst 0 (by decide +kernel) dX2_init_124) <|
    BS.go rfl) <|
  AllB.c (pb := 125) (
    BS.sq (pc' := 127) (s_istore 5 (by decide) dX2_init_125) <|
    BS.sq (pc' := 128) (s_aload_n (k := 0) 0 rfl dX2_init_127) <|
    BS.sq (pc' := 131) (s_get 0 inX2 kc4 (by decide) kw137 rfl dX2_init_128) <|
    BS.sq (pc' := 132) (s_iload_n (k := 1) 1 rfl dX2_init_131) <|
    BS.sq (pc' := 134) (s_iload 5 dX2_init_132) <|
    s_if_eq rfl rfl (by decide) dX2_init_134) <|
  AllB.c (pb := 137) (
    BS.sq (pc' := 138) (s_iload_n (k := 2) 2 rfl dX2_init_137) <|
    s_goto rfl (by decide) dX2_init_138) <|
  AllB.c (pb := 141) (
    BS.sq (pc' := 142) (s_iload_n (k := 3) 3 rfl dX2_init_141) <|
    BS.sq (pc' := 143) (s_iconst 4 (by decide +kernel) dX2_init_142) <|
    s_icmp_ne rfl rfl (by decide) dX2_init_143) <|
  AllB.c (pb := 146) (
    BS.sq (pc' := 148) (s_iload 4 dX2_init_146) <|
    BS.sq (pc' := 151) (s_sipush 128 (by decide +kernel) dX2_init_148) <|
    s_icmp_ge rfl rfl (by decide) dX2_init_151) <|
  AllB.c (pb := 154) (
    BS.sq (pc' := 156) (s_iload 4 dX2_init_154) <|
    BS.sq (pc' := 158) (s_bipush 8 (by decide +kernel) dX2_init_156) <|
    BS.sq (pc' := 159) (s_iload_n (k := 2) 2 rfl dX2_init_158) <|
    BS.sq (pc' := 160) (s_imul dX2_init_159) <|
    BS.sq (pc' := 161) (s_iadd dX2_init_160) <|
    s_goto rfl (by decide) dX2_init_161) <|
  AllB.c (pb := 164) (
    BS.sq (pc' := 166) (s_iload 4 dX2_init_164) <|
    BS.go rfl) <|
  AllB.c (pb := 166) (
    BS.sq (pc' := 167) (s_iastore dX2_init_166) <|
    BS.sq (pc' := 170) (s_iinc 1 1 (1) (by decide +kernel) (by decide) dX2_init_167) <|
    s_goto rfl (by decide) dX2_init_170) <|
  AllB.c (pb := 173) (
    BS.sq (pc' := 176) (s_gets (.inr (.inr 74)) kz4 kw146 rfl dX2_init_173) <|
    BS.sq (pc' := 177) (s_iconst 0 (by decide +kernel) dX2_init_176) <|
    BS.sq (pc' := 178) (s_aload_n (k := 0) 0 rfl dX2_init_177) <|
    BS.sq (pc' := 181) (s_get 0 inX2 kc4 (by decide) kw137 rfl dX2_init_178) <|
    BS.sq (pc' := 183) (s_bipush 8 (by decide +kernel) dX2_init_181) <|
    BS.sq (pc' := 186) (s_gets (.inr (.inr 72)) kz3 kw145 rfl dX2_init_183) <|
    BS.sq (pc' := 187) (s_alen dX2_init_186) <|
    BS.sq (pc' := 188) (s_imul dX2_init_187) <|
    BS.sq (pc' := 191) (s_gets (.inr (.inr 74)) kz4 kw146 rfl dX2_init_188) <|
    BS.sq (pc' := 192) (s_alen dX2_init_191) <|
    BS.sq (pc' := 195) (s_acopy kw152 kw62 kw63 kw64 (by decide) (by decide) dX2_init_192) <|
    BS.sq (pc' := 196) (s_iconst 0 (by decide +kernel) dX2_init_195) <|
    BS.sq (pc' := 197) (s_istore_n (k := 1) 1 rfl (by decide) dX2_init_196) <|
    BS.go rfl) <|
  AllB.c (pb := 197) (
    BS.sq (pc' := 198) (s_iload_n (k := 1) 1 rfl dX2_init_197) <|
    BS.sq (pc' := 199) (s_aload_n (k := 0) 0 rfl dX2_init_198) <|
    BS.sq (pc' := 202) (s_get 0 inX2 kc4 (by decide) kw137 rfl dX2_init_199) <|
    BS.sq (pc' := 203) (s_alen dX2_init_202) <|
    s_icmp_ge rfl rfl (by decide) dX2_init_203) <|
  AllB.c (pb := 206) (
    BS.sq (pc' := 207) (s_aload_n (k := 0) 0 rfl dX2_init_206) <|
    BS.sq (pc' := 210) (s_get 1 inX2 kc4 (by decide) kw147 rfl dX2_init_207) <|
    BS.sq (pc' := 211) (s_aload_n (k := 0) 0 rfl dX2_init_210) <|
    BS.sq (pc' := 214) (s_get 0 inX2 kc4 (by decide) kw137 rfl dX2_init_211) <|
    BS.sq (pc' := 215) (s_iload_n (k := 1) 1 rfl dX2_init_214) <|
    BS.sq (pc' := 216) (s_iaload dX2_init_215) <|
    BS.sq (pc' := 217) (s_iconst 1 (by decide +kernel) dX2_init_216) <|
    BS.sq (pc' := 218) (s_iadd dX2_init_217) <|
    BS.sq (pc' := 219) (s_iload_n (k := 1) 1 rfl dX2_init_218) <|
    BS.sq (pc' := 221) (s_bipush 6 (by decide +kernel) dX2_init_219) <|
    BS.sq (pc' := 222) (s_iadd dX2_init_221) <|
    BS.sq (pc' := 223) (s_iastore dX2_init_222) <|
    BS.sq (pc' := 224) (s_aload_n (k := 0) 0 rfl dX2_init_223) <|
    BS.sq (pc' := 225) (s_iload_n (k := 1) 1 rfl dX2_init_224) <|
    BS.sq (pc' := 228) (s_callV 1 4 kc4 (ok_X2_enter l) kGood kw154 kw155 kw156 kw142 kw153 (by decide +kernel) (by decide) (by decide) dX2_init_225) <|
    BS.sq (pc' := 231) (s_iinc 1 6 (6) (by decide +kernel) (by decide) dX2_init_228) <|
    s_goto rfl (by decide) dX2_init_231) <|
  AllB.c (pb := 234) (
    s_ret rfl dX2_init_234) <|
  AllB.n)
