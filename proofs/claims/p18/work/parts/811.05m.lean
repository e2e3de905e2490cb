/-! METHODS -/
-- NativeWorks$Assembler.<init>([BLNativeWorks$Units;)V
noncomputable def bs_X0_init : List rBl := [sq (h_ld isR 0) (sq (h_oinit) (sq (h_new 5 10 [.inr (.inr 0), .inr (.inr 0), .inr (.inr 0), .inr (.inr 0), .inr (.inr 0), .inr (.inr 0), .inl 0, .inl 0, .inl 0, .inl 0]) (sq (h_dup) (sq (h_call 1 (rRecv rFo 5) mev_X3_init) (sq (h_st isR 3) (sq (h_ld isR 0) (sq (h_ld isR 3) (sq (h_put 2 0 isR) (sq (h_ld isR 0) (sq (h_ld isR 2) (sq (h_put 2 2 isR) (sq (h_ld isR 0) (sq (h_new 10 20 [.inr (.inr 0), .inr (.inr 0), .inl 0, .inr (.inr 0), .inr (.inr 0), .inr (.inr 0), .inr (.inr 0), .inr (.inr 0), .inr (.inr 0), .inr (.inr 0), .inr (.inr 0), .inr (.inr 0), .inr (.inr 0), .inr (.inr 0), .inr (.inr 0), .inl 0, .inl 0, .inl 0, .inl 0, .inl 0]) (sq (h_dup) (sq (h_new 11 14 [.inr (.inr 0), .inr (.inr 0), .inr (.inr 0), .inr (.inr 0), .inr (.inr 0), .inr (.inr 0), .inr (.inr 0), .inr (.inr 0), .inr (.inr 0), .inr (.inr 0), .inr (.inr 0), .inr (.inr 0), .inr (.inr 0), .inl 0]) (sq (h_dup) (sq (h_ld isR 1) (sq (h_ld isR 3) (sq (h_get rFo 5 1) (sq (h_call 3 (rRecv rFo 11) ev_X9_init) (sq (h_ld isR 3) (sq (h_call 3 (rRecv rFo 10) ev_X8_init) (sq (h_put 2 1 isR) (sq (h_ld isR 0) (sq (h_new 3 11 [.inr (.inr 0), .inr (.inr 0), .inr (.inr 0), .inr (.inr 0), .inr (.inr 0), .inr (.inr 0), .inr (.inr 0), .inr (.inr 0), .inl 0, .inl 0, .inl 0]) (sq (h_dup) (sq (h_ld isR 3) (sq (h_ld isR 2) (sq (h_call 3 (rRecv rFo 3) ev_X1_init) (sq (h_put 2 3 isR) (sq (h_ld isR 0) (sq (h_new 4 21 [.inr (.inr 0), .inr (.inr 0), .inr (.inr 0), .inr (.inr 0), .inr (.inr 0), .inr (.inr 0), .inl 0, .inl 0, .inl 0, .inl 0, .inl 0, .inl 0, .inl 0, .inl 0, .inr (.inl 0), .inl 0, .inr (.inl 0), .inl 0, .inl 0, .inl 0, .inl 0]) (sq (h_dup) (sq (h_call 1 (rRecv rFo 4) mev_X2_init) (sq (h_put 2 4 isR) (sq (h_ld isR 0) (sq (h_v (.inl 4)) (sq (h_newa 0 (.inl 0)) (sq (h_put 2 5 isR) (t_ret))))))))))))))))))))))))))))))))))))))))]
noncomputable def ev_X0_init : rEv := fun as w n => rIni 4 as (fun ls => rRun bs_X0_init 100000 0 ls [] w n 0)
set_option maxRecDepth 100000 in
set_option maxHeartbeats 4000000 in
theorem ok_X0_init (l : Launch) : rMet vwCl rFo rZs rRs rNs rTs l yX0_init cX0_init 4 ((Option.none : Option FieldType)) 6 168 ev_X0_init := met_of (pcs := [0]) (by decide +kernel) rfl (fun G n0 =>
  AllB.c (pb := 0) (
    BS.sq (pc' := 1) (s_aload_n (k := 0) 0 rfl dX0_init_0) <|
    BS.sq (pc' := 4) (s_oinit kw157 kw2 kwObj (by decide) (by decide) dX0_init_1) <|
    BS.sq (pc' := 7) (s_new tyX3 inX3 tyX3_ok kc5 kw158 kw159 kw90 rfl rfl dX0_init_4) <|
    BS.sq (pc' := 8) (s_dup dX0_init_7) <|
    BS.sq (pc' := 11) (s_callI 0 5 kc5 (mok_X3_init l) kGood kw161 kw162 kw90 kw160 rfl (by decide +kernel) (by decide) (by decide) dX0_init_8) <|
    BS.sq (pc' := 12) (s_astore_n (k := 3) 3 rfl (by decide) dX0_init_11) <|
    BS.sq (pc' := 13) (s_aload_n (k := 0) 0 rfl dX0_init_12) <|
    BS.sq (pc' := 14) (s_aload_n (k := 3) 3 rfl dX0_init_13) <|
    BS.sq (pc' := 17) (s_putF tyX0 0 isR inX0 tyX0_ok nmX0 kc2 (by decide) kw163 rfl rfl rfl rfl (okf_O G _) dX0_init_14) <|
    BS.sq (pc' := 18) (s_aload_n (k := 0) 0 rfl dX0_init_17) <|
    BS.sq (pc' := 19) (s_aload_n (k := 2) 2 rfl dX0_init_18) <|
    BS.sq (pc' := 22) (s_putF tyX0 2 isR inX0 tyX0_ok nmX0 kc2 (by decide) kw164 rfl rfl rfl rfl (okf_O G _) dX0_init_19) <|
    BS.sq (pc' := 23) (s_aload_n (k := 0) 0 rfl dX0_init_22) <|
    BS.sq (pc' := 26) (s_new tyX8 inX8 tyX8_ok kc10 kw165 kw166 kw167 rfl rfl dX0_init_23) <|
    BS.sq (pc' := 27) (s_dup dX0_init_26) <|
    BS.sq (pc' := 30) (s_new tyX9 inX9 tyX9_ok kc11 kw168 kw169 kw170 rfl rfl dX0_init_27) <|
    BS.sq (pc' := 31) (s_dup dX0_init_30) <|
    BS.sq (pc' := 32) (s_aload_n (k := 1) 1 rfl dX0_init_31) <|
    BS.sq (pc' := 33) (s_aload_n (k := 3) 3 rfl dX0_init_32) <|
    BS.sq (pc' := 36) (s_get 1 inX3 kc5 (by decide) kw171 rfl dX0_init_33) <|
    BS.sq (pc' := 39) (s_callI 2 11 kc11 (ok_X9_init l) kGood kw173 kw174 kw170 kw172 rfl (by decide +kernel) (by decide) (by decide) dX0_init_36) <|
    BS.sq (pc' := 40) (s_aload_n (k := 3) 3 rfl dX0_init_39) <|
    BS.sq (pc' := 43) (s_callI 2 10 kc10 (ok_X8_init l) kGood kw176 kw177 kw167 kw175 rfl (by decide +kernel) (by decide) (by decide) dX0_init_40) <|
    BS.sq (pc' := 46) (s_putF tyX0 1 isR inX0 tyX0_ok nmX0 kc2 (by decide) kw178 rfl rfl rfl rfl (okf_O G _) dX0_init_43) <|
    BS.sq (pc' := 47) (s_aload_n (k := 0) 0 rfl dX0_init_46) <|
    BS.sq (pc' := 50) (s_new tyX1 inX1 tyX1_ok kc3 kw179 kw180 kw181 rfl rfl dX0_init_47) <|
    BS.sq (pc' := 51) (s_dup dX0_init_50) <|
    BS.sq (pc' := 52) (s_aload_n (k := 3) 3 rfl dX0_init_51) <|
    BS.sq (pc' := 53) (s_aload_n (k := 2) 2 rfl dX0_init_52) <|
    BS.sq (pc' := 56) (s_callI 2 3 kc3 (ok_X1_init l) kGood kw183 kw184 kw181 kw182 rfl (by decide +kernel) (by decide) (by decide) dX0_init_53) <|
    BS.sq (pc' := 59) (s_putF tyX0 3 isR inX0 tyX0_ok nmX0 kc2 (by decide) kw185 rfl rfl rfl rfl (okf_O G _) dX0_init_56) <|
    BS.sq (pc' := 60) (s_aload_n (k := 0) 0 rfl dX0_init_59) <|
    BS.sq (pc' := 63) (s_new tyX2 inX2 tyX2_ok kc4 kw186 kw187 kw142 rfl rfl dX0_init_60) <|
    BS.sq (pc' := 64) (s_dup dX0_init_63) <|
    BS.sq (pc' := 67) (s_callI 0 4 kc4 (mok_X2_init l) kGood kw189 kw190 kw142 kw188 rfl (by decide +kernel) (by decide) (by decide) dX0_init_64) <|
    BS.sq (pc' := 70) (s_putF tyX0 4 isR inX0 tyX0_ok nmX0 kc2 (by decide) kw191 rfl rfl rfl rfl (okf_O G _) dX0_init_67) <|
    BS.sq (pc' := 71) (s_aload_n (k := 0) 0 rfl dX0_init_70) <|
    BS.sq (pc' := 72) (s_iconst 4 (by decide +kernel) dX0_init_71) <|
    BS.sq (pc' := 74) (s_newa 0 (.inl 0) (by decide) rfl rfl (fun _ _ h => h) (by decide) kw5 dX0_init_72) <|
    BS.sq (pc' := 77) (s_putF tyX0 5 isR inX0 tyX0_ok nmX0 kc2 (by decide) kw192 rfl rfl rfl rfl (okf_A G _) dX0_init_74) <|
    s_ret rfl dX0_init_77) <|
  AllB.n)
-- NativeWorks$Linker.<init>(LNativeWorks$Units;)V
noncomputable def bs_X4_init : List rBl := [sq (h_ld isR 0) (sq (h_oinit) (sq (h_ld isR 0) (sq (h_ld isR 1) (sq (h_put 6 0 isR) (sq (h_ld isR 0) (sq (h_v (.inl 32)) (sq (h_newa 3 (.inl 0)) (sq (h_put 6 1 isR) (sq (h_ld isR 0) (sq (h_v (.inl 128)) (sq (h_newa 3 (.inl 0)) (sq (h_put 6 2 isR) (sq (h_ld isR 0) (sq (h_v (.inl 128)) (sq (h_newa 0 (.inl 0)) (sq (h_put 6 3 isR) (sq (h_ld isR 0) (sq (h_v (.inl 1024)) (sq (h_newa 0 (.inl 0)) (sq (h_put 6 4 isR) (sq (h_ld isR 0) (sq (h_v (.inl 4)) (sq (h_newa 0 (.inl 0)) (sq (h_put 6 5 isR) (sq (h_ld isR 0) (sq (h_v (.inl 4)) (sq (h_newa 0 (.inl 0)) (sq (h_put 6 6 isR) (sq (h_ld isR 0) (sq (h_v (.inl 131072)) (sq (h_newa 2 (.inl 0)) (sq (h_put 6 7 isR) (sq (h_ld isR 0) (sq (h_v (.inl 131072)) (sq (h_newa 0 (.inl 0)) (sq (h_put 6 8 isR) (sq (h_ld isR 0) (sq (h_new 9 6 [.inr (.inr 0), .inr (.inr 0), .inr (.inr 0), .inr (.inr 0), .inr (.inr 0), .inl 0]) (sq (h_dup) (sq (h_v (.inl 1024)) (sq (h_v (.inl 129024)) (sq (h_call 3 (rRecv rFo 9) ev_X7_init) (sq (h_put 6 9 isR) (sq (h_ld isR 0) (sq (h_v (.inl 1024)) (sq (h_newa 1 (.inr (.inl 0))) (sq (h_put 6 10 isR) (sq (h_ld isR 0) (sq (h_get rFo 6 8) (sq (h_v (.inl 4294967295)) (sq (h_call 2 rAny ev_J7_fill_53178) (t_ret))))))))))))))))))))))))))))))))))))))))))))))))))))]
noncomputable def ev_X4_init : rEv := fun as w n => rIni 2 as (fun ls => rRun bs_X4_init 100000 0 ls [] w n 0)
set_option maxRecDepth 100000 in
set_option maxHeartbeats 4000000 in
theorem ok_X4_init (l : Launch) : rMet vwCl rFo rZs rRs rNs rTs l yX4_init cX4_init 2 ((Option.none : Option FieldType)) 2 45 ev_X4_init := met_of (pcs := [0]) (by decide +kernel) rfl (fun G n0 =>
  AllB.c (pb := 0) (
    BS.sq (pc' := 1) (s_aload_n (k := 0) 0 rfl dX4_init_0) <|
    BS.sq (pc' := 4) (s_oinit kw193 kw2 kwObj (by decide) (by decide) dX4_init_1) <|
    BS.sq (pc' := 5) (s_aload_n (k := 0) 0 rfl dX4_init_4) <|
    BS.sq (pc' := 6) (s_aload_n (k := 1) 1 rfl dX4_init_5) <|
    BS.sq (pc' := 9) (s_putF tyX4 0 isR inX4 tyX4_ok nmX4 kc6 (by decide) kw194 rfl rfl rfl rfl (okf_O G _) dX4_init_6) <|
    BS.sq (pc' := 10) (s_aload_n (k := 0) 0 rfl dX4_init_9) <|
    BS.sq (pc' := 12) (s_bipush 32 (by decide +kernel) dX4_init_10) <|
    BS.sq (pc' := 14) (s_newa 3 (.inl 0) (by decide) rfl rfl (fun _ _ h => h) (by decide) kw126 dX4_init_12) <|
    BS.sq (pc' := 17) (s_putF tyX4 1 isR inX4 tyX4_ok nmX4 kc6 (by decide) kw195 rfl rfl rfl rfl (okf_A G _) dX4_init_14) <|
    BS.sq (pc' := 18) (s_aload_n (k := 0) 0 rfl dX4_init_17) <|
    BS.sq (pc' := 21) (s_sipush 128 (by decide +kernel) dX4_init_18) <|
    BS.sq (pc' := 23) (s_newa 3 (.inl 0) (by decide) rfl rfl (fun _ _ h => h) (by decide) kw126 dX4_init_21) <|
    BS.sq (pc' := 26) (s_putF tyX4 2 isR inX4 tyX4_ok nmX4 kc6 (by decide) kw196 rfl rfl rfl rfl (okf_A G _) dX4_init_23) <|
    BS.sq (pc' := 27) (s_aload_n (k := 0) 0 rfl dX4_init_26) <|
    BS.sq (pc' := 30) (s_sipush 128 (by decide +kernel) dX4_init_27) <|
    BS.sq (pc' := 32) (s_newa 0 (.inl 0) (by decide) rfl rfl (fun _ _ h => h) (by decide) kw5 dX4_init_30) <|
    BS.sq (pc' := 35) (s_putF tyX4 3 isR inX4 tyX4_ok nmX4 kc6 (by decide) kw197 rfl rfl rfl rfl (okf_A G _) dX4_init_32) <|
    BS.sq (pc' := 36) (s_aload_n (k := 0) 0 rfl dX4_init_35) <|
    BS.sq (pc' := 39) (s_sipush 1024 (by decide +kernel) dX4_init_36) <|
    BS.sq (pc' := 41) (s_newa 0 (.inl 0) (by decide) rfl rfl (fun _ _ h => h) (by decide) kw5 dX4_init_39) <|
    BS.sq (pc' := 44) (s_putF tyX4 4 isR inX4 tyX4_ok nmX4 kc6 (by decide) kw198 rfl rfl rfl rfl (okf_A G _) dX4_init_41) <|
    BS.sq (pc' := 45) (s_aload_n (k := 0) 0 rfl dX4_init_44) <|
    BS.sq (pc' := 46) (s_iconst 4 (by decide +kernel) dX4_init_45) <|
    BS.sq (pc' := 48) (s_newa 0 (.inl 0) (by decide) rfl rfl (fun _ _ h => h) (by decide) kw5 dX4_init_46) <|
    BS.sq (pc' := 51) (s_putF tyX4 5 isR inX4 tyX4_ok nmX4 kc6 (by decide) kw199 rfl rfl rfl rfl (okf_A G _) dX4_init_48) <|
    BS.sq (pc' := 52) (s_aload_n (k := 0) 0 rfl dX4_init_51) <|
    BS.sq (pc' := 53) (s_iconst 4 (by decide +kernel) dX4_init_52) <|
    BS.sq (pc' := 55) (s_newa 0 (.inl 0) (by decide) rfl rfl (fun _ _ h => h) (by decide) kw5 dX4_init_53) <|
    BS.sq (pc' := 58) (s_putF tyX4 6 isR inX4 tyX4_ok nmX4 kc6 (by decide) kw200 rfl rfl rfl rfl (okf_A G _) dX4_init_55) <|
    BS.sq (pc' := 59) (s_aload_n (k := 0) 0 rfl dX4_init_58) <|
    BS.sq (pc' := 61) (s_ldc 131072 kw201 dX4_init_59) <|
    BS.sq (pc' := 63) (s_newa 2 (.inl 0) (by decide) rfl rfl (fun _ _ h => h) (by decide) kw3 dX4_init_61) <|
    BS.sq (pc' := 66) (s_putF tyX4 7 isR inX4 tyX4_ok nmX4 kc6 (by decide) kw202 rfl rfl rfl rfl (okf_A G _) dX4_init_63) <|
    BS.sq (pc' := 67) (s_aload_n (k := 0) 0 rfl dX4_init_66) <|
    BS.sq (pc' := 69) (s_ldc 131072 kw201 dX4_init_67) <|
    BS.sq (pc' := 71) (s_newa 0 (.inl 0) (by decide) rfl rfl (fun _ _ h => h) (by decide) kw5 dX4_init_69) <|
    BS.sq (pc' := 74) (s_putF tyX4 8 isR inX4 tyX4_ok nmX4 kc6 (by decide) kw203 rfl rfl rfl rfl (okf_A G _) dX4_init_71) <|
    BS.sq (pc' := 75) (s_aload_n (k := 0) 0 rfl dX4_init_74) <|
    BS.sq (pc' := 78) (s_new tyX7 inX7 tyX7_ok kc9 kw204 kw17 kw18 rfl rfl dX4_init_75) <|
    BS.sq (pc' := 79) (s_dup dX4_init_78) <|
    BS.sq (pc' := 82) (s_sipush 1024 (by decide +kernel) dX4_init_79) <|
    BS.sq (pc' := 84) (s_ldc 129024 kw205 dX4_init_82) <|
    BS.sq (pc' := 87) (s_callI 2 9 kc9 (ok_X7_init l) kGood kw206 kw22 kw18 kw20 rfl (by decide +kernel) (by decide) (by decide) dX4_init_84) <|
    BS.sq (pc' := 90) (s_putF tyX4 9 isR inX4 tyX4_ok nmX4 kc6 (by decide) kw207 rfl rfl rfl rfl (okf_O G _) dX4_init_87) <|
    BS.sq (pc' := 91) (s_aload_n (k := 0) 0 rfl dX4_init_90) <|
    BS.sq (pc' := 94) (s_sipush 1024 (by decide +kernel) dX4_init_91) <|
    BS.sq (pc' := 96) (s_newa 1 (.inr (.inl 0)) (by decide) rfl rfl (fun _ _ h => h) (by decide) kw26 dX4_init_94) <|
    BS.sq (pc' := 99) (s_putF tyX4 10 isR inX4 tyX4_ok nmX4 kc6 (by decide) kw208 rfl rfl rfl rfl (okf_A G _) dX4_init_96) <|
    BS.sq (pc' := 100) (s_aload_n (k := 0) 0 rfl dX4_init_99) <|
    BS.sq (pc' := 103) (s_get 8 inX4 kc6 (by decide) kw203 rfl dX4_init_100) <|
    BS.sq (pc' := 104) (s_iconst 4294967295 (by decide +kernel) dX4_init_103) <|
    BS.sq (pc' := 107) (s_callS 2 (ok_J7_fill_53178 l) kGood kw209 kw12 kw13 kw10 (by decide +kernel) (by decide) (by decide) dX4_init_104) <|
    s_ret rfl dX4_init_107) <|
  AllB.n)
-- NativeWorks$Memory.<init>()V
noncomputable def bs_X6_init : List rBl := [sq (h_ld isR 0) (sq (h_oinit) (sq (h_ld isR 0) (sq (h_v (.inl 196608)) (sq (h_newa 2 (.inl 0)) (sq (h_put 8 0 isR) (sq (h_ld isR 0) (sq (h_v (.inl 65536)) (sq (h_newa 2 (.inl 0)) (sq (h_put 8 1 isR) (sq (h_ld isR 0) (sq (h_v (.inl 131072)) (sq (h_newa 3 (.inl 0)) (sq (h_put 8 2 isR) (sq (h_ld isR 0) (sq (h_v (.inl 0)) (sq (h_put 8 3 isZ) (sq (h_ld isR 0) (sq (h_v (.inr (.inl 4194304))) (sq (h_put 8 10 isJ) (sq (h_ld isR 0) (sq (h_v (.inr (.inl 4194304))) (sq (h_put 8 11 isJ) (t_ret)))))))))))))))))))))))]
noncomputable def ev_X6_init : rEv := fun as w n => rIni 1 as (fun ls => rRun bs_X6_init 100000 0 ls [] w n 0)
set_option maxRecDepth 100000 in
set_option maxHeartbeats 4000000 in
theorem ok_X6_init (l : Launch) : rMet vwCl rFo rZs rRs rNs rTs l yX6_init cX6_init 1 ((Option.none : Option FieldType)) 1 20 ev_X6_init := met_of (pcs := [0]) (by decide +kernel) rfl (fun G n0 =>
  AllB.c (pb := 0) (
    BS.sq (pc' := 1) (s_aload_n (k := 0) 0 rfl dX6_init_0) <|
    BS.sq (pc' := 4) (s_oinit kw210 kw2 kwObj (by decide) (by decide) dX6_init_1) <|
    BS.sq (pc' := 5) (s_aload_n (k := 0) 0 rfl dX6_init_4) <|
    BS.sq (pc' := 7) (s_ldc 196608 kw211 dX6_init_5) <|
    BS.sq (pc' := 9) (s_newa 2 (.inl 0) (by decide) rfl rfl (fun _ _ h => h) (by decide) kw3 dX6_init_7) <|
    BS.sq (pc' := 12) (s_putF tyX6 0 isR inX6 tyX6_ok nmX6 kc8 (by decide) kw212 rfl rfl rfl rfl (okf_A G _) dX6_init_9) <|
    BS.sq (pc' := 13) (s_aload_n (k := 0) 0 rfl dX6_init_12) <|
    BS.sq (pc' := 15) (s_ldc 65536 kw213 dX6_init_13) <|
    BS.sq (pc' := 17) (s_newa 2 (.inl 0) (by decide) rfl rfl (fun _ _ h => h) (by decide) kw3 dX6_init_15) <|
    BS.sq (pc' := 20) (s_putF tyX6 1 isR inX6 tyX6_ok nmX6 kc8 (by decide) kw214 rfl rfl rfl rfl (okf_A G _) dX6_init_17) <|
    BS.sq (pc' := 21) (s_aload_n (k := 0) 0 rfl dX6_init_20) <|
    BS.sq (pc' := 23) (s_ldc 131072 kw215 dX6_init_21) <|
    BS.sq (pc' := 25) (s_newa 3 (.inl 0) (by decide) rfl rfl (fun _ _ h => h) (by decide) kw126 dX6_init_23) <|
    BS.sq (pc' := 28) (s_putF tyX6 2 isR inX6 tyX6_ok nmX6 kc8 (by decide) kw216 rfl rfl rfl rfl (okf_A G _) dX6_init_25) <|
    BS.sq (pc' := 29) (s_aload_n (k := 0) 0 rfl dX6_init_28) <|
    BS.sq (pc' := 30) (s_iconst 0 (by decide +kernel) dX6_init_29) <|
    BS.sq (pc' := 33) (s_put tyX6 3 isZ inX6 tyX6_ok nmX6 kc8 (by decide) kw217 rfl rfl (okf_Z G) dX6_init_30) <|
    BS.sq (pc' := 34) (s_aload_n (k := 0) 0 rfl dX6_init_33) <|
    BS.sq (pc' := 37) (s_ldc2 4194304 kw218 dX6_init_34) <|
    BS.sq (pc' := 40) (s_put tyX6 10 isJ inX6 tyX6_ok nmX6 kc8 (by decide) kw219 rfl rfl (okf_J G) dX6_init_37) <|
    BS.sq (pc' := 41) (s_aload_n (k := 0) 0 rfl dX6_init_40) <|
    BS.sq (pc' := 44) (s_ldc2 4194304 kw218 dX6_init_41) <|
    BS.sq (pc' := 47) (s_put tyX6 11 isJ inX6 tyX6_ok nmX6 kc8 (by decide) kw220 rfl rfl (okf_J G) dX6_init_44) <|
    s_ret rfl dX6_init_47) <|
  AllB.n)
-- NativeWorks$Machine.<init>()V
noncomputable def bs_X5_init : List rBl := [sq (h_ld isR 0) (sq (h_oinit) (sq (h_ld isR 0) (sq (h_new 8 12 [.inr (.inr 0), .inr (.inr 0), .inr (.inr 0), .inl 0, .inr (.inl 0), .inr (.inl 0), .inr (.inl 0), .inr (.inl 0), .inr (.inl 0), .inr (.inl 0), .inr (.inl 0), .inr (.inl 0)]) (sq (h_dup) (sq (h_call 1 (rRecv rFo 8) ev_X6_init) (sq (h_put 7 0 isR) (sq (h_ld isR 0) (sq (h_new 4 21 [.inr (.inr 0), .inr (.inr 0), .inr (.inr 0), .inr (.inr 0), .inr (.inr 0), .inr (.inr 0), .inl 0, .inl 0, .inl 0, .inl 0, .inl 0, .inl 0, .inl 0, .inl 0, .inr (.inl 0), .inl 0, .inr (.inl 0), .inl 0, .inl 0, .inl 0, .inl 0]) (sq (h_dup) (sq (h_call 1 (rRecv rFo 4) mev_X2_init) (sq (h_put 7 1 isR) (sq (h_ld isR 0) (sq (h_v (.inl 16)) (sq (h_newa 1 (.inr (.inl 0))) (sq (h_put 7 2 isR) (sq (h_ld isR 0) (sq (h_v (.inl 65536)) (sq (h_newa 2 (.inl 0)) (sq (h_put 7 3 isR) (sq (h_ld isR 0) (sq (h_v (.inl 65536)) (sq (h_newa 2 (.inl 0)) (sq (h_put 7 4 isR) (sq (h_ld isR 0) (sq (h_v (.inl 16)) (sq (h_newa 1 (.inr (.inl 0))) (sq (h_put 7 5 isR) (t_ret))))))))))))))))))))))))))))]
noncomputable def ev_X5_init : rEv := fun as w n => rIni 1 as (fun ls => rRun bs_X5_init 100000 0 ls [] w n 0)
set_option maxRecDepth 100000 in
set_option maxHeartbeats 4000000 in
theorem ok_X5_init (l : Launch) : rMet vwCl rFo rZs rRs rNs rTs l yX5_init cX5_init 1 ((Option.none : Option FieldType)) 3 125 ev_X5_init := met_of (pcs := [0]) (by decide +kernel) rfl (fun G n0 =>
  AllB.c (pb := 0) (
    BS.sq (pc' := 1) (s_aload_n (k := 0) 0 rfl dX5_init_0) <|
    BS.sq (pc' := 4) (s_oinit kw221 kw2 kwObj (by decide) (by decide) dX5_init_1) <|
    BS.sq (pc' := 5) (s_aload_n (k := 0) 0 rfl dX5_init_4) <|
    BS.sq (pc' := 8) (s_new tyX6 inX6 tyX6_ok kc8 kw222 kw223 kw224 rfl rfl dX5_init_5) <|
    BS.sq (pc' := 9) (s_dup dX5_init_8) <|
    BS.sq (pc' := 12) (s_callI 0 8 kc8 (ok_X6_init l) kGood kw226 kw227 kw224 kw225 rfl (by decide +kernel) (by decide) (by decide) dX5_init_9) <|
    BS.sq (pc' := 15) (s_putF tyX5 0 isR inX5 tyX5_ok nmX5 kc7 (by decide) kw228 rfl rfl rfl rfl (okf_O G _) dX5_init_12) <|
    BS.sq (pc' := 16) (s_aload_n (k := 0) 0 rfl dX5_init_15) <|
    BS.sq (pc' := 19) (s_new tyX2 inX2 tyX2_ok kc4 kw229 kw187 kw142 rfl rfl dX5_init_16) <|
    BS.sq (pc' := 20) (s_dup dX5_init_19) <|
    BS.sq (pc' := 23) (s_callI 0 4 kc4 (mok_X2_init l) kGood kw230 kw190 kw142 kw188 rfl (by decide +kernel) (by decide) (by decide) dX5_init_20) <|
    BS.sq (pc' := 26) (s_putF tyX5 1 isR inX5 tyX5_ok nmX5 kc7 (by decide) kw231 rfl rfl rfl rfl (okf_O G _) dX5_init_23) <|
    BS.sq (pc' := 27) (s_aload_n (k := 0) 0 rfl dX5_init_26) <|
    BS.sq (pc' := 29) (s_bipush 16 (by decide +kernel) dX5_init_27) <|
    BS.sq (pc' := 31) (s_newa 1 (.inr (.inl 0)) (by decide) rfl rfl (fun _ _ h => h) (by decide) kw26 dX5_init_29) <|
    BS.sq (pc' := 34) (s_putF tyX5 2 isR inX5 tyX5_ok nmX5 kc7 (by decide) kw232 rfl rfl rfl rfl (okf_A G _) dX5_init_31) <|
    BS.sq (pc' := 35) (s_aload_n (k := 0) 0 rfl dX5_init_34) <|
    BS.sq (pc' := 37) (s_ldc 65536 kw233 dX5_init_35) <|
    BS.sq (pc' := 39) (s_newa 2 (.inl 0) (by decide) rfl rfl (fun _ _ h => h) (by decide) kw3 dX5_init_37) <|
    BS.sq (pc' := 42) (s_putF tyX5 3 isR inX5 tyX5_ok nmX5 kc7 (by decide) kw234 rfl rfl rfl rfl (okf_A G _) dX5_init_39) <|
    BS.sq (pc' := 43) (s_aload_n (k := 0) 0 rfl dX5_init_42) <|
    BS.sq (pc' := 45) (s_ldc 65536 kw233 dX5_init_43) <|
    BS.sq (pc' := 47) (s_newa 2 (.inl 0) (by decide) rfl rfl (fun _ _ h => h) (by decide) kw3 dX5_init_45) <|
    BS.sq (pc' := 50) (s_putF tyX5 4 isR inX5 tyX5_ok nmX5 kc7 (by decide) kw235 rfl rfl rfl rfl (okf_A G _) dX5_init_47) <|
    BS.sq (pc' := 51) (s_aload_n (k := 0) 0 rfl dX5_init_50) <|
    BS.sq (pc' := 53) (s_bipush 16 (by decide +kernel) dX5_init_51) <|
    BS.sq (pc' := 55) (s_newa 1 (.inr (.inl 0)) (by decide) rfl rfl (fun _ _ h => h) (by decide) kw26 dX5_init_53) <|
    BS.sq (pc' := 58) (s_putF tyX5 5 isR inX5 tyX5_ok nmX5 kc7 (by decide) kw236 rfl rfl rfl rfl (okf_A G _) dX5_init_55) <|
    s_ret rfl dX5_init_58) <|
  AllB.n)
-- NativeWorks.<init>()V
noncomputable def bs_X11_init : List rBl := [sq (h_ld isR 0) (sq (h_oinit) (sq (h_v (.inl 65536)) (sq (h_newa 2 (.inl 0)) (sq (h_st isR 1) (sq (h_new 12 19 [.inr (.inr 0), .inr (.inr 0), .inr (.inr 0), .inr (.inr 0), .inr (.inr 0), .inr (.inr 0), .inr (.inr 0), .inr (.inr 0), .inr (.inr 0), .inr (.inr 0), .inr (.inr 0), .inl 0, .inl 0, .inl 0, .inl 0, .inl 0, .inl 0, .inl 0, .inl 0]) (sq (h_dup) (sq (h_call 1 (rRecv rFo 12) ev_X10_init) (sq (h_st isR 2) (sq (h_ld isR 0) (sq (h_ld isR 1) (sq (h_put 13 0 isR) (sq (h_ld isR 0) (sq (h_ld isR 2) (sq (h_put 13 1 isR) (sq (h_ld isR 0) (sq (h_new 2 15 [.inr (.inr 0), .inr (.inr 0), .inr (.inr 0), .inr (.inr 0), .inr (.inr 0), .inr (.inr 0), .inl 0, .inl 0, .inl 0, .inl 0, .inl 0, .inl 0, .inl 0, .inl 0, .inl 0]) (sq (h_dup) (sq (h_ld isR 1) (sq (h_ld isR 2) (sq (h_call 3 (rRecv rFo 2) ev_X0_init) (sq (h_put 13 2 isR) (sq (h_ld isR 0) (sq (h_new 6 18 [.inr (.inr 0), .inr (.inr 0), .inr (.inr 0), .inr (.inr 0), .inr (.inr 0), .inr (.inr 0), .inr (.inr 0), .inr (.inr 0), .inr (.inr 0), .inr (.inr 0), .inr (.inr 0), .inl 0, .inl 0, .inl 0, .inl 0, .inl 0, .inl 0, .inl 0]) (sq (h_dup) (sq (h_ld isR 2) (sq (h_call 2 (rRecv rFo 6) ev_X4_init) (sq (h_put 13 3 isR) (sq (h_ld isR 0) (sq (h_new 7 17 [.inr (.inr 0), .inr (.inr 0), .inr (.inr 0), .inr (.inr 0), .inr (.inr 0), .inr (.inr 0), .inr (.inl 0), .inl 0, .inl 0, .inl 0, .inl 0, .inl 0, .inr (.inl 0), .inl 0, .inr (.inl 0), .inr (.inl 0), .inr (.inl 0)]) (sq (h_dup) (sq (h_call 1 (rRecv rFo 7) ev_X5_init) (sq (h_put 13 4 isR) (sq (h_ld isR 0) (sq (h_v (.inl 0)) (sq (h_put 13 5 isI) (sq (h_ld isR 0) (sq (h_v (.inl 0)) (sq (h_put 13 6 isI) (sq (h_ld isR 0) (sq (h_v (.inl 0)) (sq (h_put 13 7 isI) (sq (h_ld isR 0) (sq (h_v (.inl 4294967295)) (sq (h_put 13 8 isI) (t_ret)))))))))))))))))))))))))))))))))))))))))))))]
noncomputable def ev_X11_init : rEv := fun as w n => rIni 3 as (fun ls => rRun bs_X11_init 100000 0 ls [] w n 0)
set_option maxRecDepth 100000 in
set_option maxHeartbeats 4000000 in
theorem ok_X11_init (l : Launch) : rMet vwCl rFo rZs rRs rNs rTs l yX11_init cX11_init 3 ((Option.none : Option FieldType)) 7 191 ev_X11_init := met_of (pcs := [0]) (by decide +kernel) rfl (fun G n0 =>
  AllB.c (pb := 0) (
    BS.sq (pc' := 1) (s_aload_n (k := 0) 0 rfl dX11_init_0) <|
    BS.sq (pc' := 4) (s_oinit kw237 kw2 kwObj (by decide) (by decide) dX11_init_1) <|
    BS.sq (pc' := 6) (s_ldc 65536 kw238 dX11_init_4) <|
    BS.sq (pc' := 8) (s_newa 2 (.inl 0) (by decide) rfl rfl (fun _ _ h => h) (by decide) kw3 dX11_init_6) <|
    BS.sq (pc' := 9) (s_astore_n (k := 1) 1 rfl (by decide) dX11_init_8) <|
    BS.sq (pc' := 12) (s_new tyX10 inX10 tyX10_ok kc12 kw239 kw240 kw241 rfl rfl dX11_init_9) <|
    BS.sq (pc' := 13) (s_dup dX11_init_12) <|
    BS.sq (pc' := 16) (s_callI 0 12 kc12 (ok_X10_init l) kGood kw243 kw244 kw241 kw242 rfl (by decide +kernel) (by decide) (by decide) dX11_init_13) <|
    BS.sq (pc' := 17) (s_astore_n (k := 2) 2 rfl (by decide) dX11_init_16) <|
    BS.sq (pc' := 18) (s_aload_n (k := 0) 0 rfl dX11_init_17) <|
    BS.sq (pc' := 19) (s_aload_n (k := 1) 1 rfl dX11_init_18) <|
    BS.sq (pc' := 22) (s_putF tyX11 0 isR inX11 tyX11_ok nmX11 kc13 (by decide) kw245 rfl rfl rfl rfl (okf_A G _) dX11_init_19) <|
    BS.sq (pc' := 23) (s_aload_n (k := 0) 0 rfl dX11_init_22) <|
    BS.sq (pc' := 24) (s_aload_n (k := 2) 2 rfl dX11_init_23) <|
    BS.sq (pc' := 27) (s_putF tyX11 1 isR inX11 tyX11_ok nmX11 kc13 (by decide) kw246 rfl rfl rfl rfl (okf_O G _) dX11_init_24) <|
    BS.sq (pc' := 28) (s_aload_n (k := 0) 0 rfl dX11_init_27) <|
    BS.sq (pc' := 31) (s_new tyX0 inX0 tyX0_ok kc2 kw247 kw248 kw249 rfl rfl dX11_init_28) <|
    BS.sq (pc' := 32) (s_dup dX11_init_31) <|
    BS.sq (pc' := 33) (s_aload_n (k := 1) 1 rfl dX11_init_32) <|
    BS.sq (pc' := 34) (s_aload_n (k := 2) 2 rfl dX11_init_33) <|
    BS.sq (pc' := 37) (s_callI 2 2 kc2 (ok_X0_init l) kGood kw251 kw252 kw249 kw250 rfl (by decide +kernel) (by decide) (by decide) dX11_init_34) <|
    BS.sq (pc' := 40) (s_putF tyX11 2 isR inX11 tyX11_ok nmX11 kc13 (by decide) kw253 rfl rfl rfl rfl (okf_O G _) dX11_init_37) <|
    BS.sq (pc' := 41) (s_aload_n (k := 0) 0 rfl dX11_init_40) <|
    BS.sq (pc' := 44) (s_new tyX4 inX4 tyX4_ok kc6 kw254 kw255 kw256 rfl rfl dX11_init_41) <|
    BS.sq (pc' := 45) (s_dup dX11_init_44) <|
    BS.sq (pc' := 46) (s_aload_n (k := 2) 2 rfl dX11_init_45) <|
    BS.sq (pc' := 49) (s_callI 1 6 kc6 (ok_X4_init l) kGood kw258 kw259 kw256 kw257 rfl (by decide +kernel) (by decide) (by decide) dX11_init_46) <|
    BS.sq (pc' := 52) (s_putF tyX11 3 isR inX11 tyX11_ok nmX11 kc13 (by decide) kw260 rfl rfl rfl rfl (okf_O G _) dX11_init_49) <|
    BS.sq (pc' := 53) (s_aload_n (k := 0) 0 rfl dX11_init_52) <|
    BS.sq (pc' := 56) (s_new tyX5 inX5 tyX5_ok kc7 kw261 kw262 kw263 rfl rfl dX11_init_53) <|
    BS.sq (pc' := 57) (s_dup dX11_init_56) <|
    BS.sq (pc' := 60) (s_callI 0 7 kc7 (ok_X5_init l) kGood kw265 kw266 kw263 kw264 rfl (by decide +kernel) (by decide) (by decide) dX11_init_57) <|
    BS.sq (pc' := 63) (s_putF tyX11 4 isR inX11 tyX11_ok nmX11 kc13 (by decide) kw267 rfl rfl rfl rfl (okf_O G _) dX11_init_60) <|
    BS.sq (pc' := 64) (s_aload_n (k := 0) 0 rfl dX11_init_63) <|
    BS.sq (pc' := 65) (s_iconst 0 (by decide +kernel) dX11_init_64) <|
    BS.sq (pc' := 68) (s_put tyX11 5 isI inX11 tyX11_ok nmX11 kc13 (by decide) kw268 rfl rfl (okf_I G) dX11_init_65) <|
    BS.sq (pc' := 69) (s_aload_n (k := 0) 0 rfl dX11_init_68) <|
    BS.sq (pc' := 70) (s_iconst 0 (by decide +kernel) dX11_init_69) <|
    BS.sq (pc' := 73) (s_put tyX11 6 isI inX11 tyX11_ok nmX11 kc13 (by decide) kw269 rfl rfl (okf_I G) dX11_init_70) <|
    BS.sq (pc' := 74) (s_aload_n (k := 0) 0 rfl dX11_init_73) <|
    BS.sq (pc' := 75) (s_iconst 0 (by decide +kernel) dX11_init_74) <|
    BS.sq (pc' := 78) (s_put tyX11 7 isI inX11 tyX11_ok nmX11 kc13 (by decide) kw270 rfl rfl (okf_I G) dX11_init_75) <|
    BS.sq (pc' := 79) (s_aload_n (k := 0) 0 rfl dX11_init_78) <|
    BS.sq (pc' := 80) (s_iconst 4294967295 (by decide +kernel) dX11_init_79) <|
    BS.sq (pc' := 83) (s_put tyX11 8 isI inX11 tyX11_ok nmX11 kc13 (by decide) kw271 rfl rfl (okf_I G) dX11_init_80) <|
    s_ret rfl dX11_init_83) <|
  AllB.n)
