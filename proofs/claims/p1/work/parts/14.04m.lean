/-! METHODS OF THE CALLS -/
-- NativeWorks$Machine.dropPlace(J)Z
noncomputable def bs_X5_dropPlace : List rBl := [sq (h_ld isR 0) (sq (h_ld isJ 1) (sq (h_call 2 (rRecv rFo 7) ev_X5_stopPlace) (sq (h_st isI 3) (sq (h_ld isI 3) (sq (h_ld isR 0) (sq (h_get rFo 7 10) (t_icmp (fun a b => rNot (rEq a b)) 2 1))))))),
  sq (h_v (.inl 0)) (t_retv isZ),
  t_no]
noncomputable def ev_X5_dropPlace : rEv := fun as w n => rIni 4 as (fun ls => rRun bs_X5_dropPlace 100000 0 ls [] w n 0)
set_option maxRecDepth 100000 in
set_option maxHeartbeats 4000000 in
theorem ok_X5_dropPlace (l : Launch) : rMet vwCl rFo rZs rRs rNs rTs l yX5_dropPlace cX5_dropPlace 4 ((Option.some FieldType.boolean)) 1 23 ev_X5_dropPlace := met_of (pcs := [0, 14, 16]) (by decide +kernel) rfl (fun G n0 =>
  AllB.c (pb := 0) (
    BS.sq (pc' := 1) (s_aload_n (k := 0) 0 rfl dX5_dropPlace_0) <|
    BS.sq (pc' := 2) (s_lload_n (k := 1) 1 rfl dX5_dropPlace_1) <|
    BS.sq (pc' := 5) (s_callV 1 7 kc7 (ok_X5_stopPlace l) kGood kw779 kw780 kw781 kw263 kw778 (by decide +kernel) (by decide) (by decide) dX5_dropPlace_2) <|
    BS.sq (pc' := 6) (s_istore_n (k := 3) 3 rfl (by decide) dX5_dropPlace_5) <|
    BS.sq (pc' := 7) (s_iload_n (k := 3) 3 rfl dX5_dropPlace_6) <|
    BS.sq (pc' := 8) (s_aload_n (k := 0) 0 rfl dX5_dropPlace_7) <|
    BS.sq (pc' := 11) (s_get 10 inX5 kc7 (by decide) kw777 rfl dX5_dropPlace_8) <|
    s_icmp_ne rfl rfl (by decide) dX5_dropPlace_11) <|
  AllB.c (pb := 14) (
    BS.sq (pc' := 15) (s_iconst 0 (by decide +kernel) dX5_dropPlace_14) <|
    s_reti isZ rfl okr_Z dX5_dropPlace_15) <|
  AllB.c (pb := 16) (
    BS.no) <|
  AllB.n)
-- NativeWorks.stopAt(JZ)Z
noncomputable def bs_X11_stopAt : List rBl := [sq (h_ld isI 3) (t_if (fun a => rEq a 0) 2 1),
  sq (h_ld isR 0) (sq (h_get rFo 13 4) (sq (h_ld isJ 1) (sq (h_call 2 (rRecv rFo 7) ev_X5_addPlace) (t_go 3)))),
  sq (h_ld isR 0) (sq (h_get rFo 13 4) (sq (h_ld isJ 1) (sq (h_call 2 (rRecv rFo 7) ev_X5_dropPlace) (t_go 3)))),
  t_retv isZ]
noncomputable def ev_X11_stopAt : rEv := fun as w n => rIni 4 as (fun ls => rRun bs_X11_stopAt 100000 0 ls [] w n 0)
set_option maxRecDepth 100000 in
set_option maxHeartbeats 4000000 in
theorem ok_X11_stopAt (l : Launch) : rMet vwCl rFo rZs rRs rNs rTs l yX11_stopAt cX11_stopAt 4 ((Option.some FieldType.boolean)) 2 46 ev_X11_stopAt := met_of (pcs := [0, 4, 15, 23]) (by decide +kernel) rfl (fun G n0 =>
  AllB.c (pb := 0) (
    BS.sq (pc' := 1) (s_iload_n (k := 3) 3 rfl dX11_stopAt_0) <|
    s_if_eq rfl rfl (by decide) dX11_stopAt_1) <|
  AllB.c (pb := 4) (
    BS.sq (pc' := 5) (s_aload_n (k := 0) 0 rfl dX11_stopAt_4) <|
    BS.sq (pc' := 8) (s_get 4 inX11 kc13 (by decide) kw267 rfl dX11_stopAt_5) <|
    BS.sq (pc' := 9) (s_lload_n (k := 1) 1 rfl dX11_stopAt_8) <|
    BS.sq (pc' := 12) (s_callV 1 7 kc7 (ok_X5_addPlace l) kGood kw783 kw784 kw785 kw263 kw782 (by decide +kernel) (by decide) (by decide) dX11_stopAt_9) <|
    s_goto rfl (by decide) dX11_stopAt_12) <|
  AllB.c (pb := 15) (
    BS.sq (pc' := 16) (s_aload_n (k := 0) 0 rfl dX11_stopAt_15) <|
    BS.sq (pc' := 19) (s_get 4 inX11 kc13 (by decide) kw267 rfl dX11_stopAt_16) <|
    BS.sq (pc' := 20) (s_lload_n (k := 1) 1 rfl dX11_stopAt_19) <|
    BS.sq (pc' := 23) (s_callV 1 7 kc7 (ok_X5_dropPlace l) kGood kw787 kw788 kw789 kw263 kw786 (by decide +kernel) (by decide) (by decide) dX11_stopAt_20) <|
    BS.go rfl) <|
  AllB.c (pb := 23) (
    s_reti isZ rfl okr_Z dX11_stopAt_23) <|
  AllB.n)
-- NativeWorks.output(I)I
noncomputable def bs_X11_output : List rBl := [sq (h_ld isI 1) (sq (h_v (.inl 4294967295)) (t_icmp (fun a b => rNot (rEq a b)) 2 1)),
  sq (h_ld isR 0) (sq (h_get rFo 13 4) (sq (h_get rFo 7 9) (t_retv isI))),
  sq (h_ld isI 1) (t_if (fun a => rLt a 0) 5 3),
  sq (h_ld isI 1) (sq (h_ld isR 0) (sq (h_get rFo 13 4) (sq (h_get rFo 7 9) (t_icmp (fun a b => rNot (rLt a b)) 5 4)))),
  t_no,
  sq (h_v (.inl 4294967295)) (t_go 6),
  t_retv isI]
noncomputable def ev_X11_output : rEv := fun as w n => rIni 2 as (fun ls => rRun bs_X11_output 100000 0 ls [] w n 0)
set_option maxRecDepth 100000 in
set_option maxHeartbeats 4000000 in
theorem ok_X11_output (l : Launch) : rMet vwCl rFo rZs rRs rNs rTs l yX11_output cX11_output 2 ((Option.some FieldType.int)) 0 0 ev_X11_output := met_of (pcs := [0, 5, 13, 17, 28, 44, 45]) (by decide +kernel) rfl (fun G n0 =>
  AllB.c (pb := 0) (
    BS.sq (pc' := 1) (s_iload_n (k := 1) 1 rfl dX11_output_0) <|
    BS.sq (pc' := 2) (s_iconst 4294967295 (by decide +kernel) dX11_output_1) <|
    s_icmp_ne rfl rfl (by decide) dX11_output_2) <|
  AllB.c (pb := 5) (
    BS.sq (pc' := 6) (s_aload_n (k := 0) 0 rfl dX11_output_5) <|
    BS.sq (pc' := 9) (s_get 4 inX11 kc13 (by decide) kw267 rfl dX11_output_6) <|
    BS.sq (pc' := 12) (s_get 9 inX5 kc7 (by decide) kw790 rfl dX11_output_9) <|
    s_reti isI rfl okr_I dX11_output_12) <|
  AllB.c (pb := 13) (
    BS.sq (pc' := 14) (s_iload_n (k := 1) 1 rfl dX11_output_13) <|
    s_if_lt rfl rfl (by decide) dX11_output_14) <|
  AllB.c (pb := 17) (
    BS.sq (pc' := 18) (s_iload_n (k := 1) 1 rfl dX11_output_17) <|
    BS.sq (pc' := 19) (s_aload_n (k := 0) 0 rfl dX11_output_18) <|
    BS.sq (pc' := 22) (s_get 4 inX11 kc13 (by decide) kw267 rfl dX11_output_19) <|
    BS.sq (pc' := 25) (s_get 9 inX5 kc7 (by decide) kw790 rfl dX11_output_22) <|
    s_icmp_ge rfl rfl (by decide) dX11_output_25) <|
  AllB.c (pb := 28) (
    BS.no) <|
  AllB.c (pb := 44) (
    BS.sq (pc' := 45) (s_iconst 4294967295 (by decide +kernel) dX11_output_44) <|
    BS.go rfl) <|
  AllB.c (pb := 45) (
    s_reti isI rfl okr_I dX11_output_45) <|
  AllB.n)
-- NativeWorks.where(J)I
noncomputable def bs_X11_where : List rBl := [sq (h_ld isJ 1) (sq (h_v (.inr (.inl 4194304))) (sq (h_lbinZ (fun x y => x - y)) (sq (h_st2 3) (sq (h_ld isJ 3) (sq (h_v (.inr (.inl 0))) (sq (h_lcmp) (t_if (fun a => rLt a 0) 3 1))))))),
  sq (h_ld isJ 3) (sq (h_ld isR 0) (sq (h_get rFo 13 3) (sq (h_get rFo 6 8) (sq (h_alen rFo) (sq (h_i2l) (sq (h_lcmp) (t_if (fun a => rNot (rLt a 0)) 3 2))))))),
  sq (h_ld isR 0) (sq (h_get rFo 13 3) (sq (h_get rFo 6 8) (sq (h_ld isJ 3) (sq (h_l2iZ) (sq (h_aldC rFo okI) (t_go 4)))))),
  sq (h_v (.inl 4294967295)) (t_go 4),
  t_retv isI]
noncomputable def ev_X11_where : rEv := fun as w n => rIni 5 as (fun ls => rRun bs_X11_where 100000 0 ls [] w n 0)
set_option maxRecDepth 100000 in
set_option maxHeartbeats 4000000 in
theorem ok_X11_where (l : Launch) : rMet vwCl rFo rZs rRs rNs rTs l yX11_where cX11_where 5 ((Option.some FieldType.int)) 0 0 ev_X11_where := met_of (pcs := [0, 12, 26, 39, 40]) (by decide +kernel) rfl (fun G n0 =>
  AllB.c (pb := 0) (
    BS.sq (pc' := 1) (s_lload_n (k := 1) 1 rfl dX11_where_0) <|
    BS.sq (pc' := 4) (s_ldc2 4194304 kw791 dX11_where_1) <|
    BS.sq (pc' := 5) (s_lsubZ dX11_where_4) <|
    BS.sq (pc' := 6) (s_lstore_n (k := 3) 3 rfl (by decide) dX11_where_5) <|
    BS.sq (pc' := 7) (s_lload_n (k := 3) 3 rfl dX11_where_6) <|
    BS.sq (pc' := 8) (s_lconst 0 (by decide +kernel) dX11_where_7) <|
    BS.sq (pc' := 9) (s_lcmp dX11_where_8) <|
    s_if_lt rfl rfl (by decide) dX11_where_9) <|
  AllB.c (pb := 12) (
    BS.sq (pc' := 13) (s_lload_n (k := 3) 3 rfl dX11_where_12) <|
    BS.sq (pc' := 14) (s_aload_n (k := 0) 0 rfl dX11_where_13) <|
    BS.sq (pc' := 17) (s_get 3 inX11 kc13 (by decide) kw260 rfl dX11_where_14) <|
    BS.sq (pc' := 20) (s_get 8 inX4 kc6 (by decide) kw792 rfl dX11_where_17) <|
    BS.sq (pc' := 21) (s_alen dX11_where_20) <|
    BS.sq (pc' := 22) (s_i2l dX11_where_21) <|
    BS.sq (pc' := 23) (s_lcmp dX11_where_22) <|
    s_if_ge rfl rfl (by decide) dX11_where_23) <|
  AllB.c (pb := 26) (
    BS.sq (pc' := 27) (s_aload_n (k := 0) 0 rfl dX11_where_26) <|
    BS.sq (pc' := 30) (s_get 3 inX11 kc13 (by decide) kw260 rfl dX11_where_27) <|
    BS.sq (pc' := 33) (s_get 8 inX4 kc6 (by decide) kw792 rfl dX11_where_30) <|
    BS.sq (pc' := 34) (s_lload_n (k := 3) 3 rfl dX11_where_33) <|
    BS.sq (pc' := 35) (s_l2iZ dX11_where_34) <|
    BS.sq (pc' := 36) (s_ialoadC dX11_where_35) <|
    s_goto rfl (by decide) dX11_where_36) <|
  AllB.c (pb := 39) (
    BS.sq (pc' := 40) (s_iconst 4294967295 (by decide +kernel) dX11_where_39) <|
    BS.go rfl) <|
  AllB.c (pb := 40) (
    s_reti isI rfl okr_I dX11_where_40) <|
  AllB.n)
-- NativeWorksModel.thrown()I
noncomputable def bs_X13_thrown : List rBl := [sq (h_ld isR 0) (sq (h_get rFo 15 0) (t_retv isI))]
noncomputable def ev_X13_thrown : rEv := fun as w n => rIni 1 as (fun ls => rRun bs_X13_thrown 100000 0 ls [] w n 0)
set_option maxRecDepth 100000 in
set_option maxHeartbeats 4000000 in
theorem ok_X13_thrown (l : Launch) : rMet vwCl rFo rZs rRs rNs rTs l yX13_thrown cX13_thrown 1 ((Option.some FieldType.int)) 0 0 ev_X13_thrown := met_of (pcs := [0]) (by decide +kernel) rfl (fun G n0 =>
  AllB.c (pb := 0) (
    BS.sq (pc' := 1) (s_aload_n (k := 0) 0 rfl dX13_thrown_0) <|
    BS.sq (pc' := 4) (s_get 0 inX13 kc15 (by decide) kw793 rfl dX13_thrown_1) <|
    s_reti isI rfl okr_I dX13_thrown_4) <|
  AllB.n)
-- NativeWorksModel.feed(IIIII)I
noncomputable def bs_X13_feed : List rBl := [sq (h_ld isR 0) (sq (h_v (.inl 0)) (sq (h_put 15 0 isI) (sq (h_ld isR 0) (sq (h_get rFo 15 2) (sq (h_v (.inl 20)) (sq (h_bin (fun _ _ => true) rAdd) (sq (h_v (.inl 65536)) (t_icmp rLe 2 1)))))))),
  t_no,
  sq (h_v (.inl 0)) (sq (h_st isI 6) (t_go 3)),
  sq (h_ld isI 6) (sq (h_v (.inl 20)) (t_icmp (fun a b => rNot (rLt a b)) 14 4)),
  sq (h_ld isI 6) (sq (h_v (.inl 4)) (t_icmp (fun a b => rNot (rLt a b)) 6 5)),
  sq (h_ld isI 1) (t_go 13),
  sq (h_ld isI 6) (sq (h_v (.inl 8)) (t_icmp (fun a b => rNot (rLt a b)) 8 7)),
  sq (h_ld isI 2) (t_go 13),
  sq (h_ld isI 6) (sq (h_v (.inl 12)) (t_icmp (fun a b => rNot (rLt a b)) 10 9)),
  sq (h_ld isI 3) (t_go 13),
  sq (h_ld isI 6) (sq (h_v (.inl 16)) (t_icmp (fun a b => rNot (rLt a b)) 12 11)),
  sq (h_ld isI 4) (t_go 13),
  sq (h_ld isI 5) (t_go 13),
  sq (h_st isI 7) (sq (h_ld isR 0) (sq (h_get rFo 15 1) (sq (h_ld isR 0) (sq (h_get rFo 15 2) (sq (h_ld isI 7) (sq (h_v (.inl 24)) (sq (h_v (.inl 8)) (sq (h_ld isI 6) (sq (h_v (.inl 4)) (sq (h_bin rDok Nat.mod) (sq (h_bin (fun _ _ => true) rMul) (sq (h_bin (fun _ _ => true) rSub) (sq (h_binZ (fun x y => x >>> (y &&& 31))) (sq (h_unZ (fun x => x.toInt8.toInt32)) (sq (h_astZ) (sq (h_ld isR 0) (sq (h_dup) (sq (h_get rFo 15 2) (sq (h_v (.inl 1)) (sq (h_bin (fun _ _ => true) rAdd) (sq (h_put 15 2 isI) (sq (h_inc 6 1) (t_go 3))))))))))))))))))))))),
  sq (h_ld isR 0) (sq (h_get rFo 15 2) (t_retv isI))]
noncomputable def ev_X13_feed : rEv := fun as w n => rIni 8 as (fun ls => rRun bs_X13_feed 100000 0 ls [] w n 0)
set_option maxRecDepth 100000 in
set_option maxHeartbeats 4000000 in
theorem ok_X13_feed (l : Launch) : rMet vwCl rFo rZs rRs rNs rTs l yX13_feed cX13_feed 8 ((Option.some FieldType.int)) 0 0 ev_X13_feed := met_of (pcs := [0, 17, 19, 22, 29, 35, 39, 46, 50, 57, 61, 68, 73, 75, 116]) (by decide +kernel) rfl (fun G n0 =>
  AllB.c (pb := 0) (
    BS.sq (pc' := 1) (s_aload_n (k := 0) 0 rfl dX13_feed_0) <|
    BS.sq (pc' := 2) (s_iconst 0 (by decide +kernel) dX13_feed_1) <|
    BS.sq (pc' := 5) (s_put tyX13 0 isI inX13 tyX13_ok nmX13 kc15 (by decide) kw793 rfl rfl (okf_I G) dX13_feed_2) <|
    BS.sq (pc' := 6) (s_aload_n (k := 0) 0 rfl dX13_feed_5) <|
    BS.sq (pc' := 9) (s_get 2 inX13 kc15 (by decide) kw794 rfl dX13_feed_6) <|
    BS.sq (pc' := 11) (s_bipush 20 (by decide +kernel) dX13_feed_9) <|
    BS.sq (pc' := 12) (s_iadd dX13_feed_11) <|
    BS.sq (pc' := 14) (s_ldc 65536 kw450 dX13_feed_12) <|
    s_icmp_le rfl rfl (by decide) dX13_feed_14) <|
  AllB.c (pb := 17) (
    BS.no) <|
  AllB.c (pb := 19) (
    BS.sq (pc' := 20) (s_iconst 0 (by decide +kernel) dX13_feed_19) <|
    BS.sq (pc' := 22) (s_istore 6 (by decide) dX13_feed_20) <|
    BS.go rfl) <|
  AllB.c (pb := 22) (
    BS.sq (pc' := 24) (s_iload 6 dX13_feed_22) <|
    BS.sq (pc' := 26) (s_bipush 20 (by decide +kernel) dX13_feed_24) <|
    s_icmp_ge rfl rfl (by decide) dX13_feed_26) <|
  AllB.c (pb := 29) (
    BS.sq (pc' := 31) (s_iload 6 dX13_feed_29) <|
    BS.sq (pc' := 32) (s_iconst 4 (by decide +kernel) dX13_feed_31) <|
    s_icmp_ge rfl rfl (by decide) dX13_feed_32) <|
  AllB.c (pb := 35) (
    BS.sq (pc' := 36) (s_iload_n (k := 1) 1 rfl dX13_feed_35) <|
    s_goto rfl (by decide) dX13_feed_36) <|
  AllB.c (pb := 39) (
    BS.sq (pc' := 41) (s_iload 6 dX13_feed_39) <|
    BS.sq (pc' := 43) (s_bipush 8 (by decide +kernel) dX13_feed_41) <|
    s_icmp_ge rfl rfl (by decide) dX13_feed_43) <|
  AllB.c (pb := 46) (
    BS.sq (pc' := 47) (s_iload_n (k := 2) 2 rfl dX13_feed_46) <|
    s_goto rfl (by decide) dX13_feed_47) <|
  AllB.c (pb := 50) (
    BS.sq (pc' := 52) (s_iload 6 dX13_feed_50) <|
    BS.sq (pc' := 54) (s_bipush 12 (by decide +kernel) dX13_feed_52) <|
    s_icmp_ge rfl rfl (by decide) dX13_feed_54) <|
  AllB.c (pb := 57) (
    BS.sq (pc' := 58) (s_iload_n (k := 3) 3 rfl dX13_feed_57) <|
    s_goto rfl (by decide) dX13_feed_58) <|
  AllB.c (pb := 61) (
    BS.sq (pc' := 63) (s_iload 6 dX13_feed_61) <|
    BS.sq (pc' := 65) (s_bipush 16 (by decide +kernel) dX13_feed_63) <|
    s_icmp_ge rfl rfl (by decide) dX13_feed_65) <|
  AllB.c (pb := 68) (
    BS.sq (pc' := 70) (s_iload 4 dX13_feed_68) <|
    s_goto rfl (by decide) dX13_feed_70) <|
  AllB.c (pb := 73) (
    BS.sq (pc' := 75) (s_iload 5 dX13_feed_73) <|
    BS.go rfl) <|
  AllB.c (pb := 75) (
    BS.sq (pc' := 77) (s_istore 7 (by decide) dX13_feed_75) <|
    BS.sq (pc' := 78) (s_aload_n (k := 0) 0 rfl dX13_feed_77) <|
    BS.sq (pc' := 81) (s_get 1 inX13 kc15 (by decide) kw451 rfl dX13_feed_78) <|
    BS.sq (pc' := 82) (s_aload_n (k := 0) 0 rfl dX13_feed_81) <|
    BS.sq (pc' := 85) (s_get 2 inX13 kc15 (by decide) kw794 rfl dX13_feed_82) <|
    BS.sq (pc' := 87) (s_iload 7 dX13_feed_85) <|
    BS.sq (pc' := 89) (s_bipush 24 (by decide +kernel) dX13_feed_87) <|
    BS.sq (pc' := 91) (s_bipush 8 (by decide +kernel) dX13_feed_89) <|
    BS.sq (pc' := 93) (s_iload 6 dX13_feed_91) <|
    BS.sq (pc' := 94) (s_iconst 4 (by decide +kernel) dX13_feed_93) <|
    BS.sq (pc' := 95) (s_irem dX13_feed_94) <|
    BS.sq (pc' := 96) (s_imul dX13_feed_95) <|
    BS.sq (pc' := 97) (s_isub dX13_feed_96) <|
    BS.sq (pc' := 98) (s_ishrZ dX13_feed_97) <|
    BS.sq (pc' := 99) (s_i2bZ dX13_feed_98) <|
    BS.sq (pc' := 100) (s_bastoreZ dX13_feed_99) <|
    BS.sq (pc' := 101) (s_aload_n (k := 0) 0 rfl dX13_feed_100) <|
    BS.sq (pc' := 102) (s_dup dX13_feed_101) <|
    BS.sq (pc' := 105) (s_get 2 inX13 kc15 (by decide) kw794 rfl dX13_feed_102) <|
    BS.sq (pc' := 106) (s_iconst 1 (by decide +kernel) dX13_feed_105) <|
    BS.sq (pc' := 107) (s_iadd dX13_feed_106) <|
    BS.sq (pc' := 110) (s_put tyX13 2 isI inX13 tyX13_ok nmX13 kc15 (by decide) kw794 rfl rfl (okf_I G) dX13_feed_107) <|
    BS.sq (pc' := 113) (s_iinc 6 1 (1) (by decide +kernel) (by decide) dX13_feed_110) <|
    s_goto rfl (by decide) dX13_feed_113) <|
  AllB.c (pb := 116) (
    BS.sq (pc' := 117) (s_aload_n (k := 0) 0 rfl dX13_feed_116) <|
    BS.sq (pc' := 120) (s_get 2 inX13 kc15 (by decide) kw794 rfl dX13_feed_117) <|
    s_reti isI rfl okr_I dX13_feed_120) <|
  AllB.n)
-- NativeWorksModel.used(I)I
noncomputable def bs_X13_used : List rBl := [sq (h_ld isI 1) (t_if (fun a => rNot (rLt a 0)) 2 1),
  sq (h_v (.inl 0)) (t_go 5),
  sq (h_ld isI 1) (sq (h_ld isR 0) (sq (h_get rFo 15 2) (t_icmp rLe 4 3))),
  sq (h_ld isR 0) (sq (h_get rFo 15 2) (t_go 5)),
  sq (h_ld isI 1) (t_go 5),
  t_retv isI]
noncomputable def ev_X13_used : rEv := fun as w n => rIni 2 as (fun ls => rRun bs_X13_used 100000 0 ls [] w n 0)
set_option maxRecDepth 100000 in
set_option maxHeartbeats 4000000 in
theorem ok_X13_used (l : Launch) : rMet vwCl rFo rZs rRs rNs rTs l yX13_used cX13_used 2 ((Option.some FieldType.int)) 0 0 ev_X13_used := met_of (pcs := [0, 4, 8, 16, 23, 24]) (by decide +kernel) rfl (fun G n0 =>
  AllB.c (pb := 0) (
    BS.sq (pc' := 1) (s_iload_n (k := 1) 1 rfl dX13_used_0) <|
    s_if_ge rfl rfl (by decide) dX13_used_1) <|
  AllB.c (pb := 4) (
    BS.sq (pc' := 5) (s_iconst 0 (by decide +kernel) dX13_used_4) <|
    s_goto rfl (by decide) dX13_used_5) <|
  AllB.c (pb := 8) (
    BS.sq (pc' := 9) (s_iload_n (k := 1) 1 rfl dX13_used_8) <|
    BS.sq (pc' := 10) (s_aload_n (k := 0) 0 rfl dX13_used_9) <|
    BS.sq (pc' := 13) (s_get 2 inX13 kc15 (by decide) kw794 rfl dX13_used_10) <|
    s_icmp_le rfl rfl (by decide) dX13_used_13) <|
  AllB.c (pb := 16) (
    BS.sq (pc' := 17) (s_aload_n (k := 0) 0 rfl dX13_used_16) <|
    BS.sq (pc' := 20) (s_get 2 inX13 kc15 (by decide) kw794 rfl dX13_used_17) <|
    s_goto rfl (by decide) dX13_used_20) <|
  AllB.c (pb := 23) (
    BS.sq (pc' := 24) (s_iload_n (k := 1) 1 rfl dX13_used_23) <|
    BS.go rfl) <|
  AllB.c (pb := 24) (
    s_reti isI rfl okr_I dX13_used_24) <|
  AllB.n)
noncomputable def bsG_X13_used (vLt vEq vLe : Nat → Nat → Bool) : List rBl := [sq (h_ld isI 1) (t_if (fun a => rNot (vLt a 0)) 2 1),
  sq (h_v (.inl 0)) (t_go 5),
  sq (h_ld isI 1) (sq (h_ld isR 0) (sq (h_get rFo 15 2) (t_icmp vLe 4 3))),
  sq (h_ld isR 0) (sq (h_get rFo 15 2) (t_go 5)),
  sq (h_ld isI 1) (t_go 5),
  t_retv isI]
noncomputable def evG_X13_used (vLt vEq vLe : Nat → Nat → Bool) : rEv := fun as w n => rIni 2 as (fun ls => rRun (bsG_X13_used vLt vEq vLe) 100000 0 ls [] w n 0)
theorem evG_X13_used_e : evG_X13_used rLt rEq rLe = ev_X13_used := by rfl
set_option maxRecDepth 1000000 in
set_option maxHeartbeats 40000000 in
theorem se_X13_used (vLt vEq vLe : Nat → Nat → Bool) : (fun (a n : Nat) => evG_X13_used vLt vEq vLe [.inr (.inr 26909), .inl a] wM n) = fun a n => rB (rNot (vLt a 0)) (rB (vLe a 0) (some (some (.inl a), (wM, (n, 0)))) (some (some (.inl 0), (wM, (n, 0))))) (some (some (.inl 0), (wM, (n, 0)))) := by rfl
set_option maxRecDepth 1000000 in
set_option maxHeartbeats 40000000 in
theorem se2_X13_used (vLt vEq vLe : Nat → Nat → Bool) : (fun (a n : Nat) => evG_X13_used vLt vEq vLe [.inr (.inr 26909), .inl a] wU n) = fun a n => rB (rNot (vLt a 0)) (rB (vLe a 0) (some (some (.inl a), (wU, (n, 0)))) (some (some (.inl 0), (wU, (n, 0))))) (some (some (.inl 0), (wU, (n, 0)))) := by rfl
noncomputable def sev_X13_used : rEv := rOr (rSy (.inr (.inr 26909)) (.inl 0) wM) (rSy (.inr (.inr 26909)) (.inl 0) wU)
theorem sok_X13_used (l : Launch) : rMet vwCl rFo rZs rRs rNs rTs l yX13_used cX13_used 2 ((Option.some FieldType.int)) 0 0 sev_X13_used := met_or (met_sy (ok_X13_used l) (fun a n => by
  have e := congrFun (congrFun (se_X13_used rLt rEq rLe) a) n
  try dsimp only at e
  rw [evG_X13_used_e] at e
  cases h1 : rLt a 0
  · cases h2 : rLe a 0
    · rw [h1, h2] at e
      exact ⟨0, rfl, e⟩
    · rw [h1, h2] at e
      refine ⟨a, ?_, e⟩
      have g1 : ¬ nI a < nI 0 := fun q => by rw [(n_lt a 0).mp q] at h1; cases h1
      have g2 : nI a ≤ nI 0 := (n_le a 0).mpr h2
      exact Int32.le_antisymm g2 (Int32.not_lt.mp g1)
  · rw [h1] at e
    exact ⟨0, rfl, e⟩)) (met_sy (ok_X13_used l) (fun a n => by
  have e := congrFun (congrFun (se2_X13_used rLt rEq rLe) a) n
  try dsimp only at e
  rw [evG_X13_used_e] at e
  cases h1 : rLt a 0
  · cases h2 : rLe a 0
    · rw [h1, h2] at e
      exact ⟨0, rfl, e⟩
    · rw [h1, h2] at e
      refine ⟨a, ?_, e⟩
      have g1 : ¬ nI a < nI 0 := fun q => by rw [(n_lt a 0).mp q] at h1; cases h1
      have g2 : nI a ≤ nI 0 := (n_le a 0).mpr h2
      exact Int32.le_antisymm g2 (Int32.not_lt.mp g1)
  · rw [h1] at e
    exact ⟨0, rfl, e⟩))
-- NativeWorksModel.reader()I
noncomputable def bs_X13_reader : List rBl := [sq (h_ld isR 0) (sq (h_get rFo 15 80) (sq (h_v (.inl 1)) (sq (h_bin (fun _ _ => true) rSub) (sq (h_st isI 1) (t_go 1))))),
  sq (h_ld isI 1) (t_if (fun a => rLt a 0) 5 2),
  t_no,
  t_no,
  t_no,
  sq (h_v (.inl 4294967295)) (t_retv isI)]
noncomputable def ev_X13_reader : rEv := fun as w n => rIni 2 as (fun ls => rRun bs_X13_reader 100000 0 ls [] w n 0)
set_option maxRecDepth 100000 in
set_option maxHeartbeats 4000000 in
theorem ok_X13_reader (l : Launch) : rMet vwCl rFo rZs rRs rNs rTs l yX13_reader cX13_reader 2 ((Option.some FieldType.int)) 0 0 ev_X13_reader := met_of (pcs := [0, 7, 11, 22, 24, 30]) (by decide +kernel) rfl (fun G n0 =>
  AllB.c (pb := 0) (
    BS.sq (pc' := 1) (s_aload_n (k := 0) 0 rfl dX13_reader_0) <|
    BS.sq (pc' := 4) (s_get 80 inX13 kc15 (by decide) kw795 rfl dX13_reader_1) <|
    BS.sq (pc' := 5) (s_iconst 1 (by decide +kernel) dX13_reader_4) <|
    BS.sq (pc' := 6) (s_isub dX13_reader_5) <|
    BS.sq (pc' := 7) (s_istore_n (k := 1) 1 rfl (by decide) dX13_reader_6) <|
    BS.go rfl) <|
  AllB.c (pb := 7) (
    BS.sq (pc' := 8) (s_iload_n (k := 1) 1 rfl dX13_reader_7) <|
    s_if_lt rfl rfl (by decide) dX13_reader_8) <|
  AllB.c (pb := 11) (
    BS.no) <|
  AllB.c (pb := 22) (
    BS.no) <|
  AllB.c (pb := 24) (
    BS.no) <|
  AllB.c (pb := 30) (
    BS.sq (pc' := 31) (s_iconst 4294967295 (by decide +kernel) dX13_reader_30) <|
    s_reti isI rfl okr_I dX13_reader_31) <|
  AllB.n)
-- NativeWorksModel.nextLine()Z
noncomputable def bs_X13_nextLine : List rBl := [sq (h_ld isR 0) (sq (h_call 1 (rRecv rFo 15) ev_X13_reader) (sq (h_st isI 1) (t_go 1))),
  sq (h_ld isI 1) (t_if (fun a => rLt a 0) 18 2),
  t_no,
  t_no,
  t_no,
  t_no,
  t_no,
  t_no,
  t_no,
  t_no,
  t_no,
  t_no,
  t_no,
  t_no,
  t_no,
  t_no,
  t_no,
  t_no,
  sq (h_ld isR 0) (sq (h_get rFo 15 73) (t_if (fun a => rNot (rEq a 0)) 20 19)),
  sq (h_ld isR 0) (sq (h_get rFo 15 66) (sq (h_ld isR 0) (sq (h_get rFo 15 65) (t_icmp rLt 21 20)))),
  sq (h_v (.inl 0)) (t_retv isZ),
  t_no]
noncomputable def ev_X13_nextLine : rEv := fun as w n => rIni 2 as (fun ls => rRun bs_X13_nextLine 100000 0 ls [] w n 0)
set_option maxRecDepth 100000 in
set_option maxHeartbeats 4000000 in
theorem ok_X13_nextLine (l : Launch) : rMet vwCl rFo rZs rRs rNs rTs l yX13_nextLine cX13_nextLine 2 ((Option.some FieldType.boolean)) 1 21 ev_X13_nextLine := met_of (pcs := [0, 5, 9, 22, 29, 39, 47, 68, 77, 92, 115, 127, 142, 148, 163, 172, 178, 186, 194, 201, 212, 214]) (by decide +kernel) rfl (fun G n0 =>
  AllB.c (pb := 0) (
    BS.sq (pc' := 1) (s_aload_n (k := 0) 0 rfl dX13_nextLine_0) <|
    BS.sq (pc' := 4) (s_callV 0 15 kc15 (ok_X13_reader l) kGood kw797 kw798 kw799 kw315 kw796 (by decide +kernel) (by decide) (by decide) dX13_nextLine_1) <|
    BS.sq (pc' := 5) (s_istore_n (k := 1) 1 rfl (by decide) dX13_nextLine_4) <|
    BS.go rfl) <|
  AllB.c (pb := 5) (
    BS.sq (pc' := 6) (s_iload_n (k := 1) 1 rfl dX13_nextLine_5) <|
    s_if_lt rfl rfl (by decide) dX13_nextLine_6) <|
  AllB.c (pb := 9) (
    BS.no) <|
  AllB.c (pb := 22) (
    BS.no) <|
  AllB.c (pb := 29) (
    BS.no) <|
  AllB.c (pb := 39) (
    BS.no) <|
  AllB.c (pb := 47) (
    BS.no) <|
  AllB.c (pb := 68) (
    BS.no) <|
  AllB.c (pb := 77) (
    BS.no) <|
  AllB.c (pb := 92) (
    BS.no) <|
  AllB.c (pb := 115) (
    BS.no) <|
  AllB.c (pb := 127) (
    BS.no) <|
  AllB.c (pb := 142) (
    BS.no) <|
  AllB.c (pb := 148) (
    BS.no) <|
  AllB.c (pb := 163) (
    BS.no) <|
  AllB.c (pb := 172) (
    BS.no) <|
  AllB.c (pb := 178) (
    BS.no) <|
  AllB.c (pb := 186) (
    BS.no) <|
  AllB.c (pb := 194) (
    BS.sq (pc' := 195) (s_aload_n (k := 0) 0 rfl dX13_nextLine_194) <|
    BS.sq (pc' := 198) (s_get 73 inX13 kc15 (by decide) kw800 rfl dX13_nextLine_195) <|
    s_if_ne rfl rfl (by decide) dX13_nextLine_198) <|
  AllB.c (pb := 201) (
    BS.sq (pc' := 202) (s_aload_n (k := 0) 0 rfl dX13_nextLine_201) <|
    BS.sq (pc' := 205) (s_get 66 inX13 kc15 (by decide) kw801 rfl dX13_nextLine_202) <|
    BS.sq (pc' := 206) (s_aload_n (k := 0) 0 rfl dX13_nextLine_205) <|
    BS.sq (pc' := 209) (s_get 65 inX13 kc15 (by decide) kw802 rfl dX13_nextLine_206) <|
    s_icmp_lt rfl rfl (by decide) dX13_nextLine_209) <|
  AllB.c (pb := 212) (
    BS.sq (pc' := 213) (s_iconst 0 (by decide +kernel) dX13_nextLine_212) <|
    s_reti isZ rfl okr_Z dX13_nextLine_213) <|
  AllB.c (pb := 214) (
    BS.no) <|
  AllB.n)
-- NativeWorksModel.layOut()V
noncomputable def bs_X13_layOut : List rBl := [sq (h_v (.inl 0)) (sq (h_st isI 1) (sq (h_v (.inl 0)) (sq (h_st isI 2) (sq (h_v (.inl 0)) (sq (h_st isI 3) (sq (h_v (.inl 0)) (sq (h_st isI 4) (sq (h_ld isR 0) (sq (h_get rFo 15 23) (sq (h_ld isR 0) (sq (h_get rFo 15 75) (sq (h_ald rFo okI) (sq (h_st isI 5) (t_go 1)))))))))))))),
  sq (h_ld isI 5) (sq (h_ld isR 0) (sq (h_get rFo 15 43) (t_icmp (fun a b => rNot (rLt a b)) 24 2))),
  t_no,
  t_no,
  t_no,
  t_no,
  t_no,
  t_no,
  t_no,
  t_no,
  t_no,
  t_no,
  t_no,
  t_no,
  t_no,
  t_no,
  t_no,
  t_no,
  t_no,
  t_no,
  t_no,
  t_no,
  t_no,
  t_no,
  sq (h_ld isR 0) (sq (h_get rFo 15 26) (sq (h_v (.inl 4)) (sq (h_ld isR 0) (sq (h_get rFo 15 75) (sq (h_bin (fun _ _ => true) rMul) (sq (h_ld isI 1) (sq (h_ast okI) (sq (h_ld isR 0) (sq (h_get rFo 15 26) (sq (h_v (.inl 4)) (sq (h_ld isR 0) (sq (h_get rFo 15 75) (sq (h_bin (fun _ _ => true) rMul) (sq (h_v (.inl 1)) (sq (h_bin (fun _ _ => true) rAdd) (sq (h_ld isI 2) (sq (h_ast okI) (sq (h_ld isR 0) (sq (h_get rFo 15 26) (sq (h_v (.inl 4)) (sq (h_ld isR 0) (sq (h_get rFo 15 75) (sq (h_bin (fun _ _ => true) rMul) (sq (h_v (.inl 2)) (sq (h_bin (fun _ _ => true) rAdd) (sq (h_ld isI 3) (sq (h_ast okI) (sq (h_ld isR 0) (sq (h_get rFo 15 26) (sq (h_v (.inl 4)) (sq (h_ld isR 0) (sq (h_get rFo 15 75) (sq (h_bin (fun _ _ => true) rMul) (sq (h_v (.inl 3)) (sq (h_bin (fun _ _ => true) rAdd) (sq (h_ld isI 4) (sq (h_ast okI) (t_ret))))))))))))))))))))))))))))))))))))))]
noncomputable def ev_X13_layOut : rEv := fun as w n => rIni 9 as (fun ls => rRun bs_X13_layOut 100000 0 ls [] w n 0)
set_option maxRecDepth 100000 in
set_option maxHeartbeats 4000000 in
theorem ok_X13_layOut (l : Launch) : rMet vwCl rFo rZs rRs rNs rTs l yX13_layOut cX13_layOut 9 ((Option.none : Option FieldType)) 0 0 ev_X13_layOut := met_of (pcs := [0, 20, 29, 43, 47, 53, 57, 63, 67, 69, 82, 109, 135, 140, 141, 148, 153, 154, 161, 166, 167, 174, 179, 181, 189]) (by decide +kernel) rfl (fun G n0 =>
  AllB.c (pb := 0) (
    BS.sq (pc' := 1) (s_iconst 0 (by decide +kernel) dX13_layOut_0) <|
    BS.sq (pc' := 2) (s_istore_n (k := 1) 1 rfl (by decide) dX13_layOut_1) <|
    BS.sq (pc' := 3) (s_iconst 0 (by decide +kernel) dX13_layOut_2) <|
    BS.sq (pc' := 4) (s_istore_n (k := 2) 2 rfl (by decide) dX13_layOut_3) <|
    BS.sq (pc' := 5) (s_iconst 0 (by decide +kernel) dX13_layOut_4) <|
    BS.sq (pc' := 6) (s_istore_n (k := 3) 3 rfl (by decide) dX13_layOut_5) <|
    BS.sq (pc' := 7) (s_iconst 0 (by decide +kernel) dX13_layOut_6) <|
    BS.sq (pc' := 9) (s_istore 4 (by decide) dX13_layOut_7) <|
    BS.sq (pc' := 10) (s_aload_n (k := 0) 0 rfl dX13_layOut_9) <|
    BS.sq (pc' := 13) (s_get 23 inX13 kc15 (by decide) kw454 rfl dX13_layOut_10) <|
    BS.sq (pc' := 14) (s_aload_n (k := 0) 0 rfl dX13_layOut_13) <|
    BS.sq (pc' := 17) (s_get 75 inX13 kc15 (by decide) kw803 rfl dX13_layOut_14) <|
    BS.sq (pc' := 18) (s_iaload dX13_layOut_17) <|
    BS.sq (pc' := 20) (s_istore 5 (by decide) dX13_layOut_18) <|
    BS.go rfl) <|
  AllB.c (pb := 20) (
    BS.sq (pc' := 22) (s_iload 5 dX13_layOut_20) <|
    BS.sq (pc' := 23) (s_aload_n (k := 0) 0 rfl dX13_layOut_22) <|
    BS.sq (pc' := 26) (s_get 43 inX13 kc15 (by decide) kw804 rfl dX13_layOut_23) <|
    s_icmp_ge rfl rfl (by decide) dX13_layOut_26) <|
  AllB.c (pb := 29) (
    BS.no) <|
  AllB.c (pb := 43) (
    BS.no) <|
  AllB.c (pb := 47) (
    BS.no) <|
  AllB.c (pb := 53) (
    BS.no) <|
  AllB.c (pb := 57) (
    BS.no) <|
  AllB.c (pb := 63) (
    BS.no) <|
  AllB.c (pb := 67) (
    BS.no) <|
  AllB.c (pb := 69) (
    BS.no) <|
  AllB.c (pb := 82) (
    BS.no) <|
  AllB.c (pb := 109) (
    BS.no) <|
  AllB.c (pb := 135) (
    BS.no) <|
  AllB.c (pb := 140) (
    BS.no) <|
  AllB.c (pb := 141) (
    BS.no) <|
  AllB.c (pb := 148) (
    BS.no) <|
  AllB.c (pb := 153) (
    BS.no) <|
  AllB.c (pb := 154) (
    BS.no) <|
  AllB.c (pb := 161) (
    BS.no) <|
  AllB.c (pb := 166) (
    BS.no) <|
  AllB.c (pb := 167) (
    BS.no) <|
  AllB.c (pb := 174) (
    BS.no) <|
  AllB.c (pb := 179) (
    BS.no) <|
  AllB.c (pb := 181) (
    BS.no) <|
  AllB.c (pb := 189) (
    BS.sq (pc' := 190) (s_aload_n (k := 0) 0 rfl dX13_layOut_189) <|
    BS.sq (pc' := 193) (s_get 26 inX13 kc15 (by decide) kw457 rfl dX13_layOut_190) <|
    BS.sq (pc' := 194) (s_iconst 4 (by decide +kernel) dX13_layOut_193) <|
    BS.sq (pc' := 195) (s_aload_n (k := 0) 0 rfl dX13_layOut_194) <|
    BS.sq (pc' := 198) (s_get 75 inX13 kc15 (by decide) kw803 rfl dX13_layOut_195) <|
    BS.sq (pc' := 199) (s_imul dX13_layOut_198) <|
    BS.sq (pc' := 200) (s_iload_n (k := 1) 1 rfl dX13_layOut_199) <|
    BS.sq (pc' := 201) (s_iastore dX13_layOut_200) <|
    BS.sq (pc' := 202) (s_aload_n (k := 0) 0 rfl dX13_layOut_201) <|
    BS.sq (pc' := 205) (s_get 26 inX13 kc15 (by decide) kw457 rfl dX13_layOut_202) <|
    BS.sq (pc' := 206) (s_iconst 4 (by decide +kernel) dX13_layOut_205) <|
    BS.sq (pc' := 207) (s_aload_n (k := 0) 0 rfl dX13_layOut_206) <|
    BS.sq (pc' := 210) (s_get 75 inX13 kc15 (by decide) kw803 rfl dX13_layOut_207) <|
    BS.sq (pc' := 211) (s_imul dX13_layOut_210) <|
    BS.sq (pc' := 212) (s_iconst 1 (by decide +kernel) dX13_layOut_211) <|
    BS.sq (pc' := 213) (s_iadd dX13_layOut_212) <|
    BS.sq (pc' := 214) (s_iload_n (k := 2) 2 rfl dX13_layOut_213) <|
    BS.sq (pc' := 215) (s_iastore dX13_layOut_214) <|
    BS.sq (pc' := 216) (s_aload_n (k := 0) 0 rfl dX13_layOut_215) <|
    BS.sq (pc' := 219) (s_get 26 inX13 kc15 (by decide) kw457 rfl dX13_layOut_216) <|
    BS.sq (pc' := 220) (s_iconst 4 (by decide +kernel) dX13_layOut_219) <|
    BS.sq (pc' := 221) (s_aload_n (k := 0) 0 rfl dX13_layOut_220) <|
    BS.sq (pc' := 224) (s_get 75 inX13 kc15 (by decide) kw803 rfl dX13_layOut_221) <|
    BS.sq (pc' := 225) (s_imul dX13_layOut_224) <|
    BS.sq (pc' := 226) (s_iconst 2 (by decide +kernel) dX13_layOut_225) <|
    BS.sq (pc' := 227) (s_iadd dX13_layOut_226) <|
    BS.sq (pc' := 228) (s_iload_n (k := 3) 3 rfl dX13_layOut_227) <|
    BS.sq (pc' := 229) (s_iastore dX13_layOut_228) <|
    BS.sq (pc' := 230) (s_aload_n (k := 0) 0 rfl dX13_layOut_229) <|
    BS.sq (pc' := 233) (s_get 26 inX13 kc15 (by decide) kw457 rfl dX13_layOut_230) <|
    BS.sq (pc' := 234) (s_iconst 4 (by decide +kernel) dX13_layOut_233) <|
    BS.sq (pc' := 235) (s_aload_n (k := 0) 0 rfl dX13_layOut_234) <|
    BS.sq (pc' := 238) (s_get 75 inX13 kc15 (by decide) kw803 rfl dX13_layOut_235) <|
    BS.sq (pc' := 239) (s_imul dX13_layOut_238) <|
    BS.sq (pc' := 240) (s_iconst 3 (by decide +kernel) dX13_layOut_239) <|
    BS.sq (pc' := 241) (s_iadd dX13_layOut_240) <|
    BS.sq (pc' := 243) (s_iload 4 dX13_layOut_241) <|
    BS.sq (pc' := 244) (s_iastore dX13_layOut_243) <|
    s_ret rfl dX13_layOut_244) <|
  AllB.n)
-- NativeWorksModel.shorten()V
noncomputable def bs_X13_shorten : List rBl := [sq (h_ld isR 0) (sq (h_get rFo 15 25) (sq (h_ld isR 0) (sq (h_get rFo 15 75) (sq (h_ald rFo okI) (sq (h_st isI 1) (t_go 1)))))),
  sq (h_ld isI 1) (sq (h_ld isR 0) (sq (h_get rFo 15 57) (t_icmp (fun a b => rNot (rLt a b)) 6 2))),
  t_no,
  t_no,
  t_no,
  t_no,
  sq (h_v (.inl 1)) (sq (h_st isI 1) (t_go 7)),
  sq (h_ld isI 1) (t_if (fun a => rEq a 0) 31 8),
  sq (h_ld isR 0) (sq (h_call 1 (rRecv rFo 15) ev_X13_layOut) (sq (h_v (.inl 0)) (sq (h_st isI 1) (sq (h_ld isR 0) (sq (h_get rFo 15 25) (sq (h_ld isR 0) (sq (h_get rFo 15 75) (sq (h_ald rFo okI) (sq (h_st isI 2) (t_go 9)))))))))),
  sq (h_ld isI 2) (sq (h_ld isR 0) (sq (h_get rFo 15 57) (t_icmp (fun a b => rNot (rLt a b)) 19 10))),
  t_no,
  t_no,
  t_no,
  t_no,
  t_no,
  t_no,
  t_no,
  t_no,
  t_no,
  sq (h_ld isR 0) (sq (h_get rFo 15 25) (sq (h_ld isR 0) (sq (h_get rFo 15 75) (sq (h_ald rFo okI) (sq (h_st isI 2) (t_go 20)))))),
  sq (h_ld isI 2) (sq (h_ld isR 0) (sq (h_get rFo 15 57) (t_icmp (fun a b => rNot (rLt a b)) 30 21))),
  t_no,
  t_no,
  t_no,
  t_no,
  t_no,
  t_no,
  t_no,
  t_no,
  t_no,
  t_go 7,
  sq (h_ld isR 0) (sq (h_get rFo 15 25) (sq (h_ld isR 0) (sq (h_get rFo 15 75) (sq (h_ald rFo okI) (sq (h_st isI 2) (t_go 32)))))),
  sq (h_ld isI 2) (sq (h_ld isR 0) (sq (h_get rFo 15 57) (t_icmp (fun a b => rNot (rLt a b)) 39 33))),
  t_no,
  t_no,
  t_no,
  t_no,
  t_no,
  t_no,
  t_ret]
noncomputable def ev_X13_shorten : rEv := fun as w n => rIni 6 as (fun ls => rRun bs_X13_shorten 100000 0 ls [] w n 0)
set_option maxRecDepth 100000 in
set_option maxHeartbeats 4000000 in
theorem ok_X13_shorten (l : Launch) : rMet vwCl rFo rZs rRs rNs rTs l yX13_shorten cX13_shorten 6 ((Option.none : Option FieldType)) 1 28 ev_X13_shorten := met_of (pcs := [0, 10, 18, 33, 41, 53, 59, 61, 65, 81, 89, 106, 116, 119, 168, 177, 181, 182, 183, 189, 199, 207, 224, 234, 244, 247, 266, 271, 272, 289, 295, 298, 308, 316, 333, 336, 346, 353, 360, 366]) (by decide +kernel) rfl (fun G n0 =>
  AllB.c (pb := 0) (
    BS.sq (pc' := 1) (s_aload_n (k := 0) 0 rfl dX13_shorten_0) <|
    BS.sq (pc' := 4) (s_get 25 inX13 kc15 (by decide) kw456 rfl dX13_shorten_1) <|
    BS.sq (pc' := 5) (s_aload_n (k := 0) 0 rfl dX13_shorten_4) <|
    BS.sq (pc' := 8) (s_get 75 inX13 kc15 (by decide) kw803 rfl dX13_shorten_5) <|
    BS.sq (pc' := 9) (s_iaload dX13_shorten_8) <|
    BS.sq (pc' := 10) (s_istore_n (k := 1) 1 rfl (by decide) dX13_shorten_9) <|
    BS.go rfl) <|
  AllB.c (pb := 10) (
    BS.sq (pc' := 11) (s_iload_n (k := 1) 1 rfl dX13_shorten_10) <|
    BS.sq (pc' := 12) (s_aload_n (k := 0) 0 rfl dX13_shorten_11) <|
    BS.sq (pc' := 15) (s_get 57 inX13 kc15 (by decide) kw805 rfl dX13_shorten_12) <|
    s_icmp_ge rfl rfl (by decide) dX13_shorten_15) <|
  AllB.c (pb := 18) (
    BS.no) <|
  AllB.c (pb := 33) (
    BS.no) <|
  AllB.c (pb := 41) (
    BS.no) <|
  AllB.c (pb := 53) (
    BS.no) <|
  AllB.c (pb := 59) (
    BS.sq (pc' := 60) (s_iconst 1 (by decide +kernel) dX13_shorten_59) <|
    BS.sq (pc' := 61) (s_istore_n (k := 1) 1 rfl (by decide) dX13_shorten_60) <|
    BS.go rfl) <|
  AllB.c (pb := 61) (
    BS.sq (pc' := 62) (s_iload_n (k := 1) 1 rfl dX13_shorten_61) <|
    s_if_eq rfl rfl (by decide) dX13_shorten_62) <|
  AllB.c (pb := 65) (
    BS.sq (pc' := 66) (s_aload_n (k := 0) 0 rfl dX13_shorten_65) <|
    BS.sq (pc' := 69) (s_callV 0 15 kc15 (ok_X13_layOut l) kGood kw807 kw808 kw809 kw315 kw806 (by decide +kernel) (by decide) (by decide) dX13_shorten_66) <|
    BS.sq (pc' := 70) (s_iconst 0 (by decide +kernel) dX13_shorten_69) <|
    BS.sq (pc' := 71) (s_istore_n (k := 1) 1 rfl (by decide) dX13_shorten_70) <|
    BS.sq (pc' := 72) (s_aload_n (k := 0) 0 rfl dX13_shorten_71) <|
    BS.sq (pc' := 75) (s_get 25 inX13 kc15 (by decide) kw456 rfl dX13_shorten_72) <|
    BS.sq (pc' := 76) (s_aload_n (k := 0) 0 rfl dX13_shorten_75) <|
    BS.sq (pc' := 79) (s_get 75 inX13 kc15 (by decide) kw803 rfl dX13_shorten_76) <|
    BS.sq (pc' := 80) (s_iaload dX13_shorten_79) <|
    BS.sq (pc' := 81) (s_istore_n (k := 2) 2 rfl (by decide) dX13_shorten_80) <|
    BS.go rfl) <|
  AllB.c (pb := 81) (
    BS.sq (pc' := 82) (s_iload_n (k := 2) 2 rfl dX13_shorten_81) <|
    BS.sq (pc' := 83) (s_aload_n (k := 0) 0 rfl dX13_shorten_82) <|
    BS.sq (pc' := 86) (s_get 57 inX13 kc15 (by decide) kw805 rfl dX13_shorten_83) <|
    s_icmp_ge rfl rfl (by decide) dX13_shorten_86) <|
  AllB.c (pb := 89) (
    BS.no) <|
  AllB.c (pb := 106) (
    BS.no) <|
  AllB.c (pb := 116) (
    BS.no) <|
  AllB.c (pb := 119) (
    BS.no) <|
  AllB.c (pb := 168) (
    BS.no) <|
  AllB.c (pb := 177) (
    BS.no) <|
  AllB.c (pb := 181) (
    BS.no) <|
  AllB.c (pb := 182) (
    BS.no) <|
  AllB.c (pb := 183) (
    BS.no) <|
  AllB.c (pb := 189) (
    BS.sq (pc' := 190) (s_aload_n (k := 0) 0 rfl dX13_shorten_189) <|
    BS.sq (pc' := 193) (s_get 25 inX13 kc15 (by decide) kw456 rfl dX13_shorten_190) <|
    BS.sq (pc' := 194) (s_aload_n (k := 0) 0 rfl dX13_shorten_193) <|
    BS.sq (pc' := 197) (s_get 75 inX13 kc15 (by decide) kw803 rfl dX13_shorten_194) <|
    BS.sq (pc' := 198) (s_iaload dX13_shorten_197) <|
    BS.sq (pc' := 199) (s_istore_n (k := 2) 2 rfl (by decide) dX13_shorten_198) <|
    BS.go rfl) <|
  AllB.c (pb := 199) (
    BS.sq (pc' := 200) (s_iload_n (k := 2) 2 rfl dX13_shorten_199) <|
    BS.sq (pc' := 201) (s_aload_n (k := 0) 0 rfl dX13_shorten_200) <|
    BS.sq (pc' := 204) (s_get 57 inX13 kc15 (by decide) kw805 rfl dX13_shorten_201) <|
    s_icmp_ge rfl rfl (by decide) dX13_shorten_204) <|
  AllB.c (pb := 207) (
    BS.no) <|
  AllB.c (pb := 224) (
    BS.no) <|
  AllB.c (pb := 234) (
    BS.no) <|
  AllB.c (pb := 244) (
    BS.no) <|
  AllB.c (pb := 247) (
    BS.no) <|
  AllB.c (pb := 266) (
    BS.no) <|
  AllB.c (pb := 271) (
    BS.no) <|
  AllB.c (pb := 272) (
    BS.no) <|
  AllB.c (pb := 289) (
    BS.no) <|
  AllB.c (pb := 295) (
    s_goto rfl (by decide) dX13_shorten_295) <|
  AllB.c (pb := 298) (
    BS.sq (pc' := 299) (s_aload_n (k := 0) 0 rfl dX13_shorten_298) <|
    BS.sq (pc' := 302) (s_get 25 inX13 kc15 (by decide) kw456 rfl dX13_shorten_299) <|
    BS.sq (pc' := 303) (s_aload_n (k := 0) 0 rfl dX13_shorten_302) <|
    BS.sq (pc' := 306) (s_get 75 inX13 kc15 (by decide) kw803 rfl dX13_shorten_303) <|
    BS.sq (pc' := 307) (s_iaload dX13_shorten_306) <|
    BS.sq (pc' := 308) (s_istore_n (k := 2) 2 rfl (by decide) dX13_shorten_307) <|
    BS.go rfl) <|
  AllB.c (pb := 308) (
    BS.sq (pc' := 309) (s_iload_n (k := 2) 2 rfl dX13_shorten_308) <|
    BS.sq (pc' := 310) (s_aload_n (k := 0) 0 rfl dX13_shorten_309) <|
    BS.sq (pc' := 313) (s_get 57 inX13 kc15 (by decide) kw805 rfl dX13_shorten_310) <|
    s_icmp_ge rfl rfl (by decide) dX13_shorten_313) <|
  AllB.c (pb := 316) (
    BS.no) <|
  AllB.c (pb := 333) (
    BS.no) <|
  AllB.c (pb := 336) (
    BS.no) <|
  AllB.c (pb := 346) (
    BS.no) <|
  AllB.c (pb := 353) (
    BS.no) <|
  AllB.c (pb := 360) (
    BS.no) <|
  AllB.c (pb := 366) (
    s_ret rfl dX13_shorten_366) <|
  AllB.n)
-- NativeWorksModel.finish()V
noncomputable def bs_X13_finish : List rBl := [sq (h_ld isR 0) (sq (h_get rFo 15 73) (t_if (fun a => rNot (rEq a 0)) 4 1)),
  sq (h_ld isR 0) (sq (h_get rFo 15 80) (t_if (fun a => rNot (rLe a 0)) 3 2)),
  sq (h_ld isR 0) (sq (h_get rFo 15 76) (t_if (fun a => rEq a 0) 4 3)),
  t_no,
  sq (h_v (.inl 0)) (sq (h_st isI 1) (t_go 5)),
  sq (h_ld isI 1) (sq (h_ld isR 0) (sq (h_get rFo 15 118) (t_icmp (fun a b => rNot (rLt a b)) 13 6))),
  t_no,
  t_no,
  t_no,
  t_no,
  t_no,
  t_no,
  t_no,
  sq (h_ld isR 0) (sq (h_get rFo 15 73) (t_if (fun a => rEq a 0) 15 14)),
  t_no,
  sq (h_ld isR 0) (sq (h_call 1 (rRecv rFo 15) ev_X13_shorten) (sq (h_ld isR 0) (sq (h_get rFo 15 23) (sq (h_ld isR 0) (sq (h_get rFo 15 75) (sq (h_ald rFo okI) (sq (h_st isI 1) (t_go 16)))))))),
  sq (h_ld isI 1) (sq (h_ld isR 0) (sq (h_get rFo 15 43) (t_icmp (fun a b => rNot (rLt a b)) 23 17))),
  t_no,
  t_no,
  t_no,
  t_no,
  t_no,
  t_no,
  sq (h_v (.inl 0)) (sq (h_st isI 1) (sq (h_v (.inl 0)) (sq (h_st isI 2) (t_go 24)))),
  sq (h_ld isI 2) (sq (h_ld isR 0) (sq (h_get rFo 15 75) (t_icmp (fun a b => rNot (rLe a b)) 26 25))),
  sq (h_ld isI 1) (sq (h_ld isR 0) (sq (h_get rFo 15 26) (sq (h_v (.inl 4)) (sq (h_ld isI 2) (sq (h_bin (fun _ _ => true) rMul) (sq (h_ald rFo okI) (sq (h_ld isR 0) (sq (h_get rFo 15 26) (sq (h_v (.inl 4)) (sq (h_ld isI 2) (sq (h_bin (fun _ _ => true) rMul) (sq (h_v (.inl 1)) (sq (h_bin (fun _ _ => true) rAdd) (sq (h_ald rFo okI) (sq (h_bin (fun _ _ => true) rAdd) (sq (h_ld isR 0) (sq (h_get rFo 15 26) (sq (h_v (.inl 4)) (sq (h_ld isI 2) (sq (h_bin (fun _ _ => true) rMul) (sq (h_v (.inl 2)) (sq (h_bin (fun _ _ => true) rAdd) (sq (h_ald rFo okI) (sq (h_bin (fun _ _ => true) rAdd) (sq (h_bin (fun _ _ => true) rAdd) (sq (h_st isI 1) (sq (h_inc 2 1) (t_go 24)))))))))))))))))))))))))))),
  sq (h_ld isR 0) (sq (h_get rFo 15 73) (t_if (fun a => rNot (rEq a 0)) 29 27)),
  sq (h_ld isI 1) (sq (h_v (.inl 131072)) (t_icmp rLe 29 28)),
  t_no,
  t_ret]
noncomputable def ev_X13_finish : rEv := fun as w n => rIni 4 as (fun ls => rRun bs_X13_finish 100000 0 ls [] w n 0)
set_option maxRecDepth 100000 in
set_option maxHeartbeats 4000000 in
theorem ok_X13_finish (l : Launch) : rMet vwCl rFo rZs rRs rNs rTs l yX13_finish cX13_finish 4 ((Option.none : Option FieldType)) 2 53 ev_X13_finish := met_of (pcs := [0, 7, 14, 21, 35, 37, 45, 52, 78, 82, 97, 100, 115, 121, 128, 129, 143, 151, 158, 168, 186, 189, 204, 210, 214, 222, 261, 268, 275, 288]) (by decide +kernel) rfl (fun G n0 =>
  AllB.c (pb := 0) (
    BS.sq (pc' := 1) (s_aload_n (k := 0) 0 rfl dX13_finish_0) <|
    BS.sq (pc' := 4) (s_get 73 inX13 kc15 (by decide) kw800 rfl dX13_finish_1) <|
    s_if_ne rfl rfl (by decide) dX13_finish_4) <|
  AllB.c (pb := 7) (
    BS.sq (pc' := 8) (s_aload_n (k := 0) 0 rfl dX13_finish_7) <|
    BS.sq (pc' := 11) (s_get 80 inX13 kc15 (by decide) kw795 rfl dX13_finish_8) <|
    s_if_gt rfl rfl (by decide) dX13_finish_11) <|
  AllB.c (pb := 14) (
    BS.sq (pc' := 15) (s_aload_n (k := 0) 0 rfl dX13_finish_14) <|
    BS.sq (pc' := 18) (s_get 76 inX13 kc15 (by decide) kw810 rfl dX13_finish_15) <|
    s_if_eq rfl rfl (by decide) dX13_finish_18) <|
  AllB.c (pb := 21) (
    BS.no) <|
  AllB.c (pb := 35) (
    BS.sq (pc' := 36) (s_iconst 0 (by decide +kernel) dX13_finish_35) <|
    BS.sq (pc' := 37) (s_istore_n (k := 1) 1 rfl (by decide) dX13_finish_36) <|
    BS.go rfl) <|
  AllB.c (pb := 37) (
    BS.sq (pc' := 38) (s_iload_n (k := 1) 1 rfl dX13_finish_37) <|
    BS.sq (pc' := 39) (s_aload_n (k := 0) 0 rfl dX13_finish_38) <|
    BS.sq (pc' := 42) (s_get 118 inX13 kc15 (by decide) kw811 rfl dX13_finish_39) <|
    s_icmp_ge rfl rfl (by decide) dX13_finish_42) <|
  AllB.c (pb := 45) (
    BS.no) <|
  AllB.c (pb := 52) (
    BS.no) <|
  AllB.c (pb := 78) (
    BS.no) <|
  AllB.c (pb := 82) (
    BS.no) <|
  AllB.c (pb := 97) (
    BS.no) <|
  AllB.c (pb := 100) (
    BS.no) <|
  AllB.c (pb := 115) (
    BS.no) <|
  AllB.c (pb := 121) (
    BS.sq (pc' := 122) (s_aload_n (k := 0) 0 rfl dX13_finish_121) <|
    BS.sq (pc' := 125) (s_get 73 inX13 kc15 (by decide) kw800 rfl dX13_finish_122) <|
    s_if_eq rfl rfl (by decide) dX13_finish_125) <|
  AllB.c (pb := 128) (
    BS.no) <|
  AllB.c (pb := 129) (
    BS.sq (pc' := 130) (s_aload_n (k := 0) 0 rfl dX13_finish_129) <|
    BS.sq (pc' := 133) (s_callV 0 15 kc15 (ok_X13_shorten l) kGood kw813 kw814 kw815 kw315 kw812 (by decide +kernel) (by decide) (by decide) dX13_finish_130) <|
    BS.sq (pc' := 134) (s_aload_n (k := 0) 0 rfl dX13_finish_133) <|
    BS.sq (pc' := 137) (s_get 23 inX13 kc15 (by decide) kw454 rfl dX13_finish_134) <|
    BS.sq (pc' := 138) (s_aload_n (k := 0) 0 rfl dX13_finish_137) <|
    BS.sq (pc' := 141) (s_get 75 inX13 kc15 (by decide) kw803 rfl dX13_finish_138) <|
    BS.sq (pc' := 142) (s_iaload dX13_finish_141) <|
    BS.sq (pc' := 143) (s_istore_n (k := 1) 1 rfl (by decide) dX13_finish_142) <|
    BS.go rfl) <|
  AllB.c (pb := 143) (
    BS.sq (pc' := 144) (s_iload_n (k := 1) 1 rfl dX13_finish_143) <|
    BS.sq (pc' := 145) (s_aload_n (k := 0) 0 rfl dX13_finish_144) <|
    BS.sq (pc' := 148) (s_get 43 inX13 kc15 (by decide) kw804 rfl dX13_finish_145) <|
    s_icmp_ge rfl rfl (by decide) dX13_finish_148) <|
  AllB.c (pb := 151) (
    BS.no) <|
  AllB.c (pb := 158) (
    BS.no) <|
  AllB.c (pb := 168) (
    BS.no) <|
  AllB.c (pb := 186) (
    BS.no) <|
  AllB.c (pb := 189) (
    BS.no) <|
  AllB.c (pb := 204) (
    BS.no) <|
  AllB.c (pb := 210) (
    BS.sq (pc' := 211) (s_iconst 0 (by decide +kernel) dX13_finish_210) <|
    BS.sq (pc' := 212) (s_istore_n (k := 1) 1 rfl (by decide) dX13_finish_211) <|
    BS.sq (pc' := 213) (s_iconst 0 (by decide +kernel) dX13_finish_212) <|
    BS.sq (pc' := 214) (s_istore_n (k := 2) 2 rfl (by decide) dX13_finish_213) <|
    BS.go rfl) <|
  AllB.c (pb := 214) (
    BS.sq (pc' := 215) (s_iload_n (k := 2) 2 rfl dX13_finish_214) <|
    BS.sq (pc' := 216) (s_aload_n (k := 0) 0 rfl dX13_finish_215) <|
    BS.sq (pc' := 219) (s_get 75 inX13 kc15 (by decide) kw803 rfl dX13_finish_216) <|
    s_icmp_gt rfl rfl (by decide) dX13_finish_219) <|
  AllB.c (pb := 222) (
    BS.sq (pc' := 223) (s_iload_n (k := 1) 1 rfl dX13_finish_222) <|
    BS.sq (pc' := 224) (s_aload_n (k := 0) 0 rfl dX13_finish_223) <|
    BS.sq (pc' := 227) (s_get 26 inX13 kc15 (by decide) kw457 rfl dX13_finish_224) <|
    BS.sq (pc' := 228) (s_iconst 4 (by decide +kernel) dX13_finish_227) <|
    BS.sq (pc' := 229) (s_iload_n (k := 2) 2 rfl dX13_finish_228) <|
    BS.sq (pc' := 230) (s_imul dX13_finish_229) <|
    BS.sq (pc' := 231) (s_iaload dX13_finish_230) <|
    BS.sq (pc' := 232) (s_aload_n (k := 0) 0 rfl dX13_finish_231) <|
    BS.sq (pc' := 235) (s_get 26 inX13 kc15 (by decide) kw457 rfl dX13_finish_232) <|
    BS.sq (pc' := 236) (s_iconst 4 (by decide +kernel) dX13_finish_235) <|
    BS.sq (pc' := 237) (s_iload_n (k := 2) 2 rfl dX13_finish_236) <|
    BS.sq (pc' := 238) (s_imul dX13_finish_237) <|
    BS.sq (pc' := 239) (s_iconst 1 (by decide +kernel) dX13_finish_238) <|
    BS.sq (pc' := 240) (s_iadd dX13_finish_239) <|
    BS.sq (pc' := 241) (s_iaload dX13_finish_240) <|
    BS.sq (pc' := 242) (s_iadd dX13_finish_241) <|
    BS.sq (pc' := 243) (s_aload_n (k := 0) 0 rfl dX13_finish_242) <|
    BS.sq (pc' := 246) (s_get 26 inX13 kc15 (by decide) kw457 rfl dX13_finish_243) <|
    BS.sq (pc' := 247) (s_iconst 4 (by decide +kernel) dX13_finish_246) <|
    BS.sq (pc' := 248) (s_iload_n (k := 2) 2 rfl dX13_finish_247) <|
    BS.sq (pc' := 249) (s_imul dX13_finish_248) <|
    BS.sq (pc' := 250) (s_iconst 2 (by decide +kernel) dX13_finish_249) <|
    BS.sq (pc' := 251) (s_iadd dX13_finish_250) <|
    BS.sq (pc' := 252) (s_iaload dX13_finish_251) <|
    BS.sq (pc' := 253) (s_iadd dX13_finish_252) <|
    BS.sq (pc' := 254) (s_iadd dX13_finish_253) <|
    BS.sq (pc' := 255) (s_istore_n (k := 1) 1 rfl (by decide) dX13_finish_254) <|
    BS.sq (pc' := 258) (s_iinc 2 1 (1) (by decide +kernel) (by decide) dX13_finish_255) <|
    s_goto rfl (by decide) dX13_finish_258) <|
  AllB.c (pb := 261) (
    BS.sq (pc' := 262) (s_aload_n (k := 0) 0 rfl dX13_finish_261) <|
    BS.sq (pc' := 265) (s_get 73 inX13 kc15 (by decide) kw800 rfl dX13_finish_262) <|
    s_if_ne rfl rfl (by decide) dX13_finish_265) <|
  AllB.c (pb := 268) (
    BS.sq (pc' := 269) (s_iload_n (k := 1) 1 rfl dX13_finish_268) <|
    BS.sq (pc' := 272) (s_ldcw 131072 kw541 dX13_finish_269) <|
    s_icmp_le rfl rfl (by decide) dX13_finish_272) <|
  AllB.c (pb := 275) (
    BS.no) <|
  AllB.c (pb := 288) (
    s_ret rfl dX13_finish_288) <|
  AllB.n)
