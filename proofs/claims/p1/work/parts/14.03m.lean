/-! METHODS OF THE CALLS -/
-- NativeWorks$Names.find([BIII)I
noncomputable def bs_X7_find : List rBl := [sq (h_v (.inl 0)) (sq (h_st isI 5) (sq (h_ld isI 2) (sq (h_st isI 6) (t_go 1)))),
  sq (h_ld isI 6) (sq (h_ld isI 2) (sq (h_ld isI 3) (sq (h_bin (fun _ _ => true) rAdd) (t_icmp (fun a b => rNot (rLt a b)) 3 2)))),
  sq (h_v (.inl 31)) (sq (h_ld isI 5) (sq (h_bin (fun _ _ => true) rMul) (sq (h_ld isR 1) (sq (h_ld isI 6) (sq (h_ald rFo okB) (sq (h_bin (fun _ _ => true) rAdd) (sq (h_st isI 5) (sq (h_inc 6 1) (t_go 1))))))))),
  sq (h_ld isR 0) (sq (h_get rFo 9 4) (sq (h_ld isI 5) (sq (h_v (.inl 1023)) (sq (h_bin (fun _ _ => true) Nat.land) (sq (h_ald rFo okI) (sq (h_st isI 6) (sq (h_v (.inl 0)) (sq (h_st isI 7) (t_go 4))))))))),
  sq (h_ld isI 7) (sq (h_ld isR 0) (sq (h_get rFo 9 5) (t_icmp (fun a b => rNot (rLt a b)) 15 5))),
  t_no,
  t_no,
  t_no,
  t_no,
  t_no,
  t_no,
  t_no,
  t_no,
  t_no,
  t_no,
  sq (h_v (.inl 4294967295)) (t_retv isI)]
noncomputable def ev_X7_find : rEv := fun as w n => rIni 9 as (fun ls => rRun bs_X7_find 100000 0 ls [] w n 0)
set_option maxRecDepth 100000 in
set_option maxHeartbeats 4000000 in
theorem ok_X7_find (l : Launch) : rMet vwCl rFo rZs rRs rNs rTs l yX7_find cX7_find 9 ((Option.some FieldType.int)) 0 0 ev_X7_find := met_of (pcs := [0, 6, 14, 32, 48, 57, 63, 70, 91, 94, 100, 124, 130, 136, 139, 154]) (by decide +kernel) rfl (fun G n0 =>
  AllB.c (pb := 0) (
    BS.sq (pc' := 1) (s_iconst 0 (by decide +kernel) dX7_find_0) <|
    BS.sq (pc' := 3) (s_istore 5 (by decide) dX7_find_1) <|
    BS.sq (pc' := 4) (s_iload_n (k := 2) 2 rfl dX7_find_3) <|
    BS.sq (pc' := 6) (s_istore 6 (by decide) dX7_find_4) <|
    BS.go rfl) <|
  AllB.c (pb := 6) (
    BS.sq (pc' := 8) (s_iload 6 dX7_find_6) <|
    BS.sq (pc' := 9) (s_iload_n (k := 2) 2 rfl dX7_find_8) <|
    BS.sq (pc' := 10) (s_iload_n (k := 3) 3 rfl dX7_find_9) <|
    BS.sq (pc' := 11) (s_iadd dX7_find_10) <|
    s_icmp_ge rfl rfl (by decide) dX7_find_11) <|
  AllB.c (pb := 14) (
    BS.sq (pc' := 16) (s_bipush 31 (by decide +kernel) dX7_find_14) <|
    BS.sq (pc' := 18) (s_iload 5 dX7_find_16) <|
    BS.sq (pc' := 19) (s_imul dX7_find_18) <|
    BS.sq (pc' := 20) (s_aload_n (k := 1) 1 rfl dX7_find_19) <|
    BS.sq (pc' := 22) (s_iload 6 dX7_find_20) <|
    BS.sq (pc' := 23) (s_baload dX7_find_22) <|
    BS.sq (pc' := 24) (s_iadd dX7_find_23) <|
    BS.sq (pc' := 26) (s_istore 5 (by decide) dX7_find_24) <|
    BS.sq (pc' := 29) (s_iinc 6 1 (1) (by decide +kernel) (by decide) dX7_find_26) <|
    s_goto rfl (by decide) dX7_find_29) <|
  AllB.c (pb := 32) (
    BS.sq (pc' := 33) (s_aload_n (k := 0) 0 rfl dX7_find_32) <|
    BS.sq (pc' := 36) (s_get 4 inX7 kc9 (by decide) kw9 rfl dX7_find_33) <|
    BS.sq (pc' := 38) (s_iload 5 dX7_find_36) <|
    BS.sq (pc' := 41) (s_sipush 1023 (by decide +kernel) dX7_find_38) <|
    BS.sq (pc' := 42) (s_iand dX7_find_41) <|
    BS.sq (pc' := 43) (s_iaload dX7_find_42) <|
    BS.sq (pc' := 45) (s_istore 6 (by decide) dX7_find_43) <|
    BS.sq (pc' := 46) (s_iconst 0 (by decide +kernel) dX7_find_45) <|
    BS.sq (pc' := 48) (s_istore 7 (by decide) dX7_find_46) <|
    BS.go rfl) <|
  AllB.c (pb := 48) (
    BS.sq (pc' := 50) (s_iload 7 dX7_find_48) <|
    BS.sq (pc' := 51) (s_aload_n (k := 0) 0 rfl dX7_find_50) <|
    BS.sq (pc' := 54) (s_get 5 inX7 kc9 (by decide) kw14 rfl dX7_find_51) <|
    s_icmp_ge rfl rfl (by decide) dX7_find_54) <|
  AllB.c (pb := 57) (
    BS.no) <|
  AllB.c (pb := 63) (
    BS.no) <|
  AllB.c (pb := 70) (
    BS.no) <|
  AllB.c (pb := 91) (
    BS.no) <|
  AllB.c (pb := 94) (
    BS.no) <|
  AllB.c (pb := 100) (
    BS.no) <|
  AllB.c (pb := 124) (
    BS.no) <|
  AllB.c (pb := 130) (
    BS.no) <|
  AllB.c (pb := 136) (
    BS.no) <|
  AllB.c (pb := 139) (
    BS.no) <|
  AllB.c (pb := 154) (
    BS.sq (pc' := 155) (s_iconst 4294967295 (by decide +kernel) dX7_find_154) <|
    s_reti isI rfl okr_I dX7_find_155) <|
  AllB.n)
-- NativeWorks$Linker.make()Z
noncomputable def bs_X4_make : List rBl := [sq (h_ld isR 0) (sq (h_v (.inl 0)) (sq (h_v (.inl 0)) (sq (h_v (.inl 4294967295)) (sq (h_call 4 (rRecv rFo 6) ev_X4_tell) (sq (h_ld isR 0) (sq (h_call 1 (rRecv rFo 6) ev_X4_takeUnits) (sq (h_ld isR 0) (sq (h_get rFo 6 0) (sq (h_get rFo 12 0) (sq (h_v (.inr (.inr 380))) (sq (h_v (.inl 0)) (sq (h_v (.inr (.inr 380))) (sq (h_alen rFo) (sq (h_ld isR 0) (sq (h_get rFo 6 0) (sq (h_get rFo 12 0) (sq (h_get rFo 9 5) (sq (h_call 5 (rRecv rFo 9) ev_X7_find) (sq (h_st isI 1) (sq (h_ld isI 1) (sq (h_v (.inl 4294967295)) (t_icmp (fun a b => rNot (rEq a b)) 2 1)))))))))))))))))))))),
  sq (h_v (.inl 4294967295)) (t_go 3),
  t_no,
  sq (h_st isI 1) (sq (h_ld isI 1) (sq (h_v (.inl 4294967295)) (t_icmp rEq 5 4))),
  t_no,
  sq (h_ld isR 0) (sq (h_v (.inl 1)) (sq (h_v (.inl 0)) (sq (h_v (.inl 4294967295)) (sq (h_call 4 (rRecv rFo 6) ev_X4_tell) (sq (h_v (.inl 0)) (t_retv isZ)))))),
  t_no,
  t_no,
  t_no,
  t_no,
  t_no,
  t_no,
  t_no,
  t_no,
  t_no,
  t_no,
  t_no,
  t_no,
  t_no,
  t_no]
noncomputable def ev_X4_make : rEv := fun as w n => rIni 4 as (fun ls => rRun bs_X4_make 100000 0 ls [] w n 0)
set_option maxRecDepth 100000 in
set_option maxHeartbeats 4000000 in
theorem ok_X4_make (l : Launch) : rMet vwCl rFo rZs rRs rNs rTs l yX4_make cX4_make 4 ((Option.some FieldType.boolean)) 1 28 ev_X4_make := met_of (pcs := [0, 45, 49, 54, 60, 68, 77, 84, 86, 106, 111, 118, 123, 133, 134, 144, 151, 153, 165, 174]) (by decide +kernel) rfl (fun G n0 =>
  AllB.c (pb := 0) (
    BS.sq (pc' := 1) (s_aload_n (k := 0) 0 rfl dX4_make_0) <|
    BS.sq (pc' := 2) (s_iconst 0 (by decide +kernel) dX4_make_1) <|
    BS.sq (pc' := 3) (s_iconst 0 (by decide +kernel) dX4_make_2) <|
    BS.sq (pc' := 4) (s_iconst 4294967295 (by decide +kernel) dX4_make_3) <|
    BS.sq (pc' := 7) (s_callV 3 6 kc6 (ok_X4_tell l) kGood kw722 kw723 kw724 kw256 kw721 (by decide +kernel) (by decide) (by decide) dX4_make_4) <|
    BS.sq (pc' := 8) (s_aload_n (k := 0) 0 rfl dX4_make_7) <|
    BS.sq (pc' := 11) (s_callV 0 6 kc6 (ok_X4_takeUnits l) kGood kw726 kw727 kw728 kw256 kw725 (by decide +kernel) (by decide) (by decide) dX4_make_8) <|
    BS.sq (pc' := 12) (s_aload_n (k := 0) 0 rfl dX4_make_11) <|
    BS.sq (pc' := 15) (s_get 0 inX4 kc6 (by decide) kw194 rfl dX4_make_12) <|
    BS.sq (pc' := 18) (s_get 0 inX10 kc12 (by decide) kw729 rfl dX4_make_15) <|
    BS.sq (pc' := 21) (s_gets (.inr (.inr 380)) kz7 kw730 rfl dX4_make_18) <|
    BS.sq (pc' := 22) (s_iconst 0 (by decide +kernel) dX4_make_21) <|
    BS.sq (pc' := 25) (s_gets (.inr (.inr 380)) kz7 kw730 rfl dX4_make_22) <|
    BS.sq (pc' := 26) (s_alen dX4_make_25) <|
    BS.sq (pc' := 27) (s_aload_n (k := 0) 0 rfl dX4_make_26) <|
    BS.sq (pc' := 30) (s_get 0 inX4 kc6 (by decide) kw194 rfl dX4_make_27) <|
    BS.sq (pc' := 33) (s_get 0 inX10 kc12 (by decide) kw729 rfl dX4_make_30) <|
    BS.sq (pc' := 36) (s_get 5 inX7 kc9 (by decide) kw731 rfl dX4_make_33) <|
    BS.sq (pc' := 39) (s_callV 4 9 kc9 (ok_X7_find l) kGood kw733 kw734 kw735 kw18 kw732 (by decide +kernel) (by decide) (by decide) dX4_make_36) <|
    BS.sq (pc' := 40) (s_istore_n (k := 1) 1 rfl (by decide) dX4_make_39) <|
    BS.sq (pc' := 41) (s_iload_n (k := 1) 1 rfl dX4_make_40) <|
    BS.sq (pc' := 42) (s_iconst 4294967295 (by decide +kernel) dX4_make_41) <|
    s_icmp_ne rfl rfl (by decide) dX4_make_42) <|
  AllB.c (pb := 45) (
    BS.sq (pc' := 46) (s_iconst 4294967295 (by decide +kernel) dX4_make_45) <|
    s_goto rfl (by decide) dX4_make_46) <|
  AllB.c (pb := 49) (
    BS.no) <|
  AllB.c (pb := 54) (
    BS.sq (pc' := 55) (s_istore_n (k := 1) 1 rfl (by decide) dX4_make_54) <|
    BS.sq (pc' := 56) (s_iload_n (k := 1) 1 rfl dX4_make_55) <|
    BS.sq (pc' := 57) (s_iconst 4294967295 (by decide +kernel) dX4_make_56) <|
    s_icmp_eq rfl rfl (by decide) dX4_make_57) <|
  AllB.c (pb := 60) (
    BS.no) <|
  AllB.c (pb := 68) (
    BS.sq (pc' := 69) (s_aload_n (k := 0) 0 rfl dX4_make_68) <|
    BS.sq (pc' := 70) (s_iconst 1 (by decide +kernel) dX4_make_69) <|
    BS.sq (pc' := 71) (s_iconst 0 (by decide +kernel) dX4_make_70) <|
    BS.sq (pc' := 72) (s_iconst 4294967295 (by decide +kernel) dX4_make_71) <|
    BS.sq (pc' := 75) (s_callV 3 6 kc6 (ok_X4_tell l) kGood kw722 kw723 kw724 kw256 kw721 (by decide +kernel) (by decide) (by decide) dX4_make_72) <|
    BS.sq (pc' := 76) (s_iconst 0 (by decide +kernel) dX4_make_75) <|
    s_reti isZ rfl okr_Z dX4_make_76) <|
  AllB.c (pb := 77) (
    BS.no) <|
  AllB.c (pb := 84) (
    BS.no) <|
  AllB.c (pb := 86) (
    BS.no) <|
  AllB.c (pb := 106) (
    BS.no) <|
  AllB.c (pb := 111) (
    BS.no) <|
  AllB.c (pb := 118) (
    BS.no) <|
  AllB.c (pb := 123) (
    BS.no) <|
  AllB.c (pb := 133) (
    BS.no) <|
  AllB.c (pb := 134) (
    BS.no) <|
  AllB.c (pb := 144) (
    BS.no) <|
  AllB.c (pb := 151) (
    BS.no) <|
  AllB.c (pb := 153) (
    BS.no) <|
  AllB.c (pb := 165) (
    BS.no) <|
  AllB.c (pb := 174) (
    BS.no) <|
  AllB.n)
-- NativeWorks.link()I
noncomputable def bs_X11_link : List rBl := [sq (h_ld isR 0) (sq (h_get rFo 13 3) (sq (h_call 1 (rRecv rFo 6) ev_X4_make) (sq (h_st isI 1) (sq (h_ld isR 0) (sq (h_ld isR 0) (sq (h_get rFo 13 3) (sq (h_get rFo 6 15) (sq (h_ld isR 0) (sq (h_get rFo 13 3) (sq (h_get rFo 6 16) (sq (h_ld isR 0) (sq (h_get rFo 13 3) (sq (h_get rFo 6 17) (sq (h_call 4 (rRecv rFo 13) ev_X11_tell) (sq (h_ld isI 1) (t_if (fun a => rNot (rEq a 0)) 2 1)))))))))))))))),
  t_thr 0,
  t_no]
noncomputable def ev_X11_link : rEv := fun as w n => rIni 2 as (fun ls => rRun bs_X11_link 100000 0 ls [] w n 0)
set_option maxRecDepth 100000 in
set_option maxHeartbeats 4000000 in
theorem okx_X11_link (l : Launch) (hl : l.stackTraces = false) : rMetX vwCl rFo rZs rRs rNs rTs l yX11_link cX11_link 2 ((Option.some FieldType.int)) 6 82 ev_X11_link := metx_of (pcs := [0, 37, 47]) (by decide +kernel) rfl (fun G n0 =>
  AllB.c (pb := 0) (
    BS.sq (pc' := 1) (s_aload_n (k := 0) 0 rfl dX11_link_0) <|
    BS.sq (pc' := 4) (s_get 3 inX11 kc13 (by decide) kw260 rfl dX11_link_1) <|
    BS.sq (pc' := 7) (s_callV 0 6 kc6 (ok_X4_make l) kGood kw737 kw738 kw739 kw256 kw736 (by decide +kernel) (by decide) (by decide) dX11_link_4) <|
    BS.sq (pc' := 8) (s_istore_n (k := 1) 1 rfl (by decide) dX11_link_7) <|
    BS.sq (pc' := 9) (s_aload_n (k := 0) 0 rfl dX11_link_8) <|
    BS.sq (pc' := 10) (s_aload_n (k := 0) 0 rfl dX11_link_9) <|
    BS.sq (pc' := 13) (s_get 3 inX11 kc13 (by decide) kw260 rfl dX11_link_10) <|
    BS.sq (pc' := 16) (s_get 15 inX4 kc6 (by decide) kw740 rfl dX11_link_13) <|
    BS.sq (pc' := 17) (s_aload_n (k := 0) 0 rfl dX11_link_16) <|
    BS.sq (pc' := 20) (s_get 3 inX11 kc13 (by decide) kw260 rfl dX11_link_17) <|
    BS.sq (pc' := 23) (s_get 16 inX4 kc6 (by decide) kw741 rfl dX11_link_20) <|
    BS.sq (pc' := 24) (s_aload_n (k := 0) 0 rfl dX11_link_23) <|
    BS.sq (pc' := 27) (s_get 3 inX11 kc13 (by decide) kw260 rfl dX11_link_24) <|
    BS.sq (pc' := 30) (s_get 17 inX4 kc6 (by decide) kw742 rfl dX11_link_27) <|
    BS.sq (pc' := 33) (s_callV 3 13 kc13 (ok_X11_tell l) kGood kw704 kw705 kw706 kw599 kw703 (by decide +kernel) (by decide) (by decide) dX11_link_30) <|
    BS.sq (pc' := 34) (s_iload_n (k := 1) 1 rfl dX11_link_33) <|
    s_if_ne rfl rfl (by decide) dX11_link_34) <|
  AllB.c (pb := 37) (
    s_thr 0 10001 ["java/lang/RuntimeException", "java/lang/Exception"] hl (by decide) rfl (by decide +kernel) (List.all_eq_true.mp (by decide +kernel)) kw743 kw744 kr92 hat0 (xgood0 109) dX11_link_37 dX11_link_40 dX11_link_41 dX11_link_43 dX11_link_46 (by decide) (by decide)) <|
  AllB.c (pb := 47) (
    BS.no) <|
  AllB.n)
-- NativeWorks.symbol(I)J
noncomputable def bs_X11_symbol : List rBl := [sq (h_ld isR 0) (sq (h_ld isI 1) (sq (h_call 2 (rRecv rFo 13) sev_X11_emptied) (sq (h_st isI 2) (sq (h_ld isR 0) (sq (h_get rFo 13 3) (sq (h_get rFo 6 9) (sq (h_ld isR 0) (sq (h_get rFo 13 0) (sq (h_v (.inl 0)) (sq (h_ld isI 2) (sq (h_ld isR 0) (sq (h_get rFo 13 3) (sq (h_get rFo 6 9) (sq (h_get rFo 9 5) (sq (h_call 5 (rRecv rFo 9) ev_X7_find) (sq (h_st isI 3) (sq (h_ld isI 3) (sq (h_v (.inl 4294967295)) (t_icmp (fun a b => rNot (rEq a b)) 2 1))))))))))))))))))),
  t_thr 1,
  t_no]
noncomputable def ev_X11_symbol : rEv := fun as w n => rIni 4 as (fun ls => rRun bs_X11_symbol 100000 0 ls [] w n 0)
set_option maxRecDepth 100000 in
set_option maxHeartbeats 4000000 in
theorem okx_X11_symbol (l : Launch) (hl : l.stackTraces = false) : rMetX vwCl rFo rZs rRs rNs rTs l yX11_symbol cX11_symbol 4 ((Option.some FieldType.long)) 6 82 ev_X11_symbol := metx_of (pcs := [0, 38, 48]) (by decide +kernel) rfl (fun G n0 =>
  AllB.c (pb := 0) (
    BS.sq (pc' := 1) (s_aload_n (k := 0) 0 rfl dX11_symbol_0) <|
    BS.sq (pc' := 2) (s_iload_n (k := 1) 1 rfl dX11_symbol_1) <|
    BS.sq (pc' := 5) (s_callV 1 13 kc13 (sok_X11_emptied l) kGood kw695 kw696 kw697 kw599 kw694 (by decide +kernel) (by decide) (by decide) dX11_symbol_2) <|
    BS.sq (pc' := 6) (s_istore_n (k := 2) 2 rfl (by decide) dX11_symbol_5) <|
    BS.sq (pc' := 7) (s_aload_n (k := 0) 0 rfl dX11_symbol_6) <|
    BS.sq (pc' := 10) (s_get 3 inX11 kc13 (by decide) kw260 rfl dX11_symbol_7) <|
    BS.sq (pc' := 13) (s_get 9 inX4 kc6 (by decide) kw745 rfl dX11_symbol_10) <|
    BS.sq (pc' := 14) (s_aload_n (k := 0) 0 rfl dX11_symbol_13) <|
    BS.sq (pc' := 17) (s_get 0 inX11 kc13 (by decide) kw245 rfl dX11_symbol_14) <|
    BS.sq (pc' := 18) (s_iconst 0 (by decide +kernel) dX11_symbol_17) <|
    BS.sq (pc' := 19) (s_iload_n (k := 2) 2 rfl dX11_symbol_18) <|
    BS.sq (pc' := 20) (s_aload_n (k := 0) 0 rfl dX11_symbol_19) <|
    BS.sq (pc' := 23) (s_get 3 inX11 kc13 (by decide) kw260 rfl dX11_symbol_20) <|
    BS.sq (pc' := 26) (s_get 9 inX4 kc6 (by decide) kw745 rfl dX11_symbol_23) <|
    BS.sq (pc' := 29) (s_get 5 inX7 kc9 (by decide) kw746 rfl dX11_symbol_26) <|
    BS.sq (pc' := 32) (s_callV 4 9 kc9 (ok_X7_find l) kGood kw747 kw734 kw735 kw18 kw732 (by decide +kernel) (by decide) (by decide) dX11_symbol_29) <|
    BS.sq (pc' := 33) (s_istore_n (k := 3) 3 rfl (by decide) dX11_symbol_32) <|
    BS.sq (pc' := 34) (s_iload_n (k := 3) 3 rfl dX11_symbol_33) <|
    BS.sq (pc' := 35) (s_iconst 4294967295 (by decide +kernel) dX11_symbol_34) <|
    s_icmp_ne rfl rfl (by decide) dX11_symbol_35) <|
  AllB.c (pb := 38) (
    s_thrN 1 10002 hl (by decide) rfl kw748 kw749 kr93 hat1 (xgood1 128) dX11_symbol_38 dX11_symbol_41 dX11_symbol_42 dX11_symbol_44 dX11_symbol_47 (by decide) (by decide)) <|
  AllB.c (pb := 48) (
    BS.no) <|
  AllB.n)
-- NativeWorks.load()J
noncomputable def bs_X11_load : List rBl := [sq (h_ld isR 0) (sq (h_get rFo 13 3) (sq (h_get rFo 6 11) (t_if (fun a => rNot (rEq a 0)) 2 1))),
  t_thr 0,
  t_no]
noncomputable def ev_X11_load : rEv := fun as w n => rIni 1 as (fun ls => rRun bs_X11_load 100000 0 ls [] w n 0)
set_option maxRecDepth 100000 in
set_option maxHeartbeats 4000000 in
theorem okx_X11_load (l : Launch) (hl : l.stackTraces = false) : rMetX vwCl rFo rZs rRs rNs rTs l yX11_load cX11_load 1 ((Option.some FieldType.long)) 6 82 ev_X11_load := metx_of (pcs := [0, 10, 20]) (by decide +kernel) rfl (fun G n0 =>
  AllB.c (pb := 0) (
    BS.sq (pc' := 1) (s_aload_n (k := 0) 0 rfl dX11_load_0) <|
    BS.sq (pc' := 4) (s_get 3 inX11 kc13 (by decide) kw260 rfl dX11_load_1) <|
    BS.sq (pc' := 7) (s_get 11 inX4 kc6 (by decide) kw750 rfl dX11_load_4) <|
    s_if_ne rfl rfl (by decide) dX11_load_7) <|
  AllB.c (pb := 10) (
    s_thr 0 10003 ["java/lang/RuntimeException", "java/lang/Exception"] hl (by decide) rfl (by decide +kernel) (List.all_eq_true.mp (by decide +kernel)) kw743 kw744 kr94 hat0 (xgood0 109) dX11_load_10 dX11_load_13 dX11_load_14 dX11_load_16 dX11_load_19 (by decide) (by decide)) <|
  AllB.c (pb := 20) (
    BS.no) <|
  AllB.n)
-- NativeWorks$Machine.take([BI)I
noncomputable def bs_X5_take : List rBl := [sq (h_ld isI 2) (sq (h_v (.inl 65536)) (sq (h_ld isR 0) (sq (h_get rFo 7 8) (sq (h_bin (fun _ _ => true) rSub) (sq (h_mmin) (sq (h_st isI 3) (sq (h_ld isR 1) (sq (h_v (.inl 0)) (sq (h_ld isR 0) (sq (h_get rFo 7 3) (sq (h_ld isR 0) (sq (h_get rFo 7 8) (sq (h_ld isI 3) (sq (h_acopy rFo) (sq (h_ld isR 0) (sq (h_dup) (sq (h_get rFo 7 8) (sq (h_ld isI 3) (sq (h_bin (fun _ _ => true) rAdd) (sq (h_put 7 8 isI) (sq (h_ld isR 0) (sq (h_get rFo 7 8) (t_retv isI)))))))))))))))))))))))]
noncomputable def ev_X5_take : rEv := fun as w n => rIni 4 as (fun ls => rRun bs_X5_take 100000 0 ls [] w n 0)
set_option maxRecDepth 100000 in
set_option maxHeartbeats 4000000 in
theorem ok_X5_take (l : Launch) : rMet vwCl rFo rZs rRs rNs rTs l yX5_take cX5_take 4 ((Option.some FieldType.int)) 1 100 ev_X5_take := met_of (pcs := [0]) (by decide +kernel) rfl (fun G n0 =>
  AllB.c (pb := 0) (
    BS.sq (pc' := 1) (s_iload_n (k := 2) 2 rfl dX5_take_0) <|
    BS.sq (pc' := 3) (s_ldc 65536 kw233 dX5_take_1) <|
    BS.sq (pc' := 4) (s_aload_n (k := 0) 0 rfl dX5_take_3) <|
    BS.sq (pc' := 7) (s_get 8 inX5 kc7 (by decide) kw751 rfl dX5_take_4) <|
    BS.sq (pc' := 8) (s_isub dX5_take_7) <|
    BS.sq (pc' := 11) (s_mmin kw752 kw285 kw286 kw287 (by decide) (by decide) dX5_take_8) <|
    BS.sq (pc' := 12) (s_istore_n (k := 3) 3 rfl (by decide) dX5_take_11) <|
    BS.sq (pc' := 13) (s_aload_n (k := 1) 1 rfl dX5_take_12) <|
    BS.sq (pc' := 14) (s_iconst 0 (by decide +kernel) dX5_take_13) <|
    BS.sq (pc' := 15) (s_aload_n (k := 0) 0 rfl dX5_take_14) <|
    BS.sq (pc' := 18) (s_get 3 inX5 kc7 (by decide) kw234 rfl dX5_take_15) <|
    BS.sq (pc' := 19) (s_aload_n (k := 0) 0 rfl dX5_take_18) <|
    BS.sq (pc' := 22) (s_get 8 inX5 kc7 (by decide) kw751 rfl dX5_take_19) <|
    BS.sq (pc' := 23) (s_iload_n (k := 3) 3 rfl dX5_take_22) <|
    BS.sq (pc' := 26) (s_acopy kw753 kw62 kw63 kw64 (by decide) (by decide) dX5_take_23) <|
    BS.sq (pc' := 27) (s_aload_n (k := 0) 0 rfl dX5_take_26) <|
    BS.sq (pc' := 28) (s_dup dX5_take_27) <|
    BS.sq (pc' := 31) (s_get 8 inX5 kc7 (by decide) kw751 rfl dX5_take_28) <|
    BS.sq (pc' := 32) (s_iload_n (k := 3) 3 rfl dX5_take_31) <|
    BS.sq (pc' := 33) (s_iadd dX5_take_32) <|
    BS.sq (pc' := 36) (s_put tyX5 8 isI inX5 tyX5_ok nmX5 kc7 (by decide) kw751 rfl rfl (okf_I G) dX5_take_33) <|
    BS.sq (pc' := 37) (s_aload_n (k := 0) 0 rfl dX5_take_36) <|
    BS.sq (pc' := 40) (s_get 8 inX5 kc7 (by decide) kw751 rfl dX5_take_37) <|
    s_reti isI rfl okr_I dX5_take_40) <|
  AllB.n)
-- NativeWorks.input(I)I
noncomputable def bs_X11_input : List rBl := [sq (h_ld isR 0) (sq (h_get rFo 13 4) (sq (h_ld isR 0) (sq (h_get rFo 13 0) (sq (h_ld isR 0) (sq (h_ld isI 1) (sq (h_call 2 (rRecv rFo 13) sev_X11_emptied) (sq (h_call 3 (rRecv rFo 7) ev_X5_take) (t_retv isI))))))))]
noncomputable def ev_X11_input : rEv := fun as w n => rIni 2 as (fun ls => rRun bs_X11_input 100000 0 ls [] w n 0)
set_option maxRecDepth 100000 in
set_option maxHeartbeats 4000000 in
theorem ok_X11_input (l : Launch) : rMet vwCl rFo rZs rRs rNs rTs l yX11_input cX11_input 2 ((Option.some FieldType.int)) 2 123 ev_X11_input := met_of (pcs := [0]) (by decide +kernel) rfl (fun G n0 =>
  AllB.c (pb := 0) (
    BS.sq (pc' := 1) (s_aload_n (k := 0) 0 rfl dX11_input_0) <|
    BS.sq (pc' := 4) (s_get 4 inX11 kc13 (by decide) kw267 rfl dX11_input_1) <|
    BS.sq (pc' := 5) (s_aload_n (k := 0) 0 rfl dX11_input_4) <|
    BS.sq (pc' := 8) (s_get 0 inX11 kc13 (by decide) kw245 rfl dX11_input_5) <|
    BS.sq (pc' := 9) (s_aload_n (k := 0) 0 rfl dX11_input_8) <|
    BS.sq (pc' := 10) (s_iload_n (k := 1) 1 rfl dX11_input_9) <|
    BS.sq (pc' := 13) (s_callV 1 13 kc13 (sok_X11_emptied l) kGood kw695 kw696 kw697 kw599 kw694 (by decide +kernel) (by decide) (by decide) dX11_input_10) <|
    BS.sq (pc' := 16) (s_callV 2 7 kc7 (ok_X5_take l) kGood kw755 kw756 kw757 kw263 kw754 (by decide +kernel) (by decide) (by decide) dX11_input_13) <|
    s_reti isI rfl okr_I dX11_input_16) <|
  AllB.n)
-- NativeWorks.run(I)I
noncomputable def bs_X11_run : List rBl := [sq (h_ld isI 1) (sq (h_v (.inl 1)) (t_icmp rLt 2 1)),
  sq (h_ld isI 1) (sq (h_v (.inl 4000)) (t_icmp rLe 3 2)),
  t_thr 2,
  sq (h_ld isR 0) (sq (h_get rFo 13 4) (sq (h_get rFo 7 0) (sq (h_get rFo 8 3) (t_if (fun a => rEq a 0) 5 4)))),
  t_no,
  t_thr 0,
  t_no]
noncomputable def ev_X11_run : rEv := fun as w n => rIni 2 as (fun ls => rRun bs_X11_run 100000 0 ls [] w n 0)
set_option maxRecDepth 100000 in
set_option maxHeartbeats 4000000 in
theorem okx_X11_run (l : Launch) (hl : l.stackTraces = false) : rMetX vwCl rFo rZs rRs rNs rTs l yX11_run cX11_run 2 ((Option.some FieldType.int)) 6 82 ev_X11_run := metx_of (pcs := [0, 5, 12, 22, 35, 46, 56]) (by decide +kernel) rfl (fun G n0 =>
  AllB.c (pb := 0) (
    BS.sq (pc' := 1) (s_iload_n (k := 1) 1 rfl dX11_run_0) <|
    BS.sq (pc' := 2) (s_iconst 1 (by decide +kernel) dX11_run_1) <|
    s_icmp_lt rfl rfl (by decide) dX11_run_2) <|
  AllB.c (pb := 5) (
    BS.sq (pc' := 6) (s_iload_n (k := 1) 1 rfl dX11_run_5) <|
    BS.sq (pc' := 9) (s_sipush 4000 (by decide +kernel) dX11_run_6) <|
    s_icmp_le rfl rfl (by decide) dX11_run_9) <|
  AllB.c (pb := 12) (
    s_thr 2 10004 ["java/lang/RuntimeException", "java/lang/Exception"] hl (by decide) rfl (by decide +kernel) (List.all_eq_true.mp (by decide +kernel)) kw758 kw759 kr95 hat2 (xgood2 74) dX11_run_12 dX11_run_15 dX11_run_16 dX11_run_18 dX11_run_21 (by decide) (by decide)) <|
  AllB.c (pb := 22) (
    BS.sq (pc' := 23) (s_aload_n (k := 0) 0 rfl dX11_run_22) <|
    BS.sq (pc' := 26) (s_get 4 inX11 kc13 (by decide) kw267 rfl dX11_run_23) <|
    BS.sq (pc' := 29) (s_get 0 inX5 kc7 (by decide) kw760 rfl dX11_run_26) <|
    BS.sq (pc' := 32) (s_get 3 inX6 kc8 (by decide) kw761 rfl dX11_run_29) <|
    s_if_eq rfl rfl (by decide) dX11_run_32) <|
  AllB.c (pb := 35) (
    BS.no) <|
  AllB.c (pb := 46) (
    s_thr 0 10005 ["java/lang/RuntimeException", "java/lang/Exception"] hl (by decide) rfl (by decide +kernel) (List.all_eq_true.mp (by decide +kernel)) kw743 kw744 kr96 hat0 (xgood0 109) dX11_run_46 dX11_run_49 dX11_run_50 dX11_run_52 dX11_run_55 (by decide) (by decide)) <|
  AllB.c (pb := 56) (
    BS.no) <|
  AllB.n)
-- NativeWorks.stop(I)J
noncomputable def bs_X11_stop : List rBl := [sq (h_ld isI 1) (t_if (fun a => rNot (rEq a 0)) 2 1),
  sq (h_ld isR 0) (sq (h_get rFo 13 4) (sq (h_get rFo 7 11) (sq (h_i2l) (t_go 5)))),
  sq (h_ld isI 1) (sq (h_v (.inl 1)) (t_icmp (fun a b => rNot (rEq a b)) 4 3)),
  sq (h_ld isR 0) (sq (h_get rFo 13 4) (sq (h_get rFo 7 12) (t_go 5))),
  sq (h_v (.inr (.inl 0))) (t_go 5),
  t_retv isJ]
noncomputable def ev_X11_stop : rEv := fun as w n => rIni 2 as (fun ls => rRun bs_X11_stop 100000 0 ls [] w n 0)
set_option maxRecDepth 100000 in
set_option maxHeartbeats 4000000 in
theorem ok_X11_stop (l : Launch) : rMet vwCl rFo rZs rRs rNs rTs l yX11_stop cX11_stop 2 ((Option.some FieldType.long)) 0 0 ev_X11_stop := met_of (pcs := [0, 4, 15, 20, 30, 31]) (by decide +kernel) rfl (fun G n0 =>
  AllB.c (pb := 0) (
    BS.sq (pc' := 1) (s_iload_n (k := 1) 1 rfl dX11_stop_0) <|
    s_if_ne rfl rfl (by decide) dX11_stop_1) <|
  AllB.c (pb := 4) (
    BS.sq (pc' := 5) (s_aload_n (k := 0) 0 rfl dX11_stop_4) <|
    BS.sq (pc' := 8) (s_get 4 inX11 kc13 (by decide) kw267 rfl dX11_stop_5) <|
    BS.sq (pc' := 11) (s_get 11 inX5 kc7 (by decide) kw762 rfl dX11_stop_8) <|
    BS.sq (pc' := 12) (s_i2l dX11_stop_11) <|
    s_goto rfl (by decide) dX11_stop_12) <|
  AllB.c (pb := 15) (
    BS.sq (pc' := 16) (s_iload_n (k := 1) 1 rfl dX11_stop_15) <|
    BS.sq (pc' := 17) (s_iconst 1 (by decide +kernel) dX11_stop_16) <|
    s_icmp_ne rfl rfl (by decide) dX11_stop_17) <|
  AllB.c (pb := 20) (
    BS.sq (pc' := 21) (s_aload_n (k := 0) 0 rfl dX11_stop_20) <|
    BS.sq (pc' := 24) (s_get 4 inX11 kc13 (by decide) kw267 rfl dX11_stop_21) <|
    BS.sq (pc' := 27) (s_get 12 inX5 kc7 (by decide) kw763 rfl dX11_stop_24) <|
    s_goto rfl (by decide) dX11_stop_27) <|
  AllB.c (pb := 30) (
    BS.sq (pc' := 31) (s_lconst 0 (by decide +kernel) dX11_stop_30) <|
    BS.go rfl) <|
  AllB.c (pb := 31) (
    s_retl rfl dX11_stop_31) <|
  AllB.n)
-- NativeWorks$Machine.told()I
noncomputable def bs_X5_told : List rBl := [sq (h_v (.inl 2)) (sq (h_ld isR 0) (sq (h_get rFo 7 7) (sq (h_bin (fun _ _ => true) rAdd) (t_retv isI))))]
noncomputable def ev_X5_told : rEv := fun as w n => rIni 1 as (fun ls => rRun bs_X5_told 100000 0 ls [] w n 0)
set_option maxRecDepth 100000 in
set_option maxHeartbeats 4000000 in
theorem ok_X5_told (l : Launch) : rMet vwCl rFo rZs rRs rNs rTs l yX5_told cX5_told 1 ((Option.some FieldType.int)) 0 0 ev_X5_told := met_of (pcs := [0]) (by decide +kernel) rfl (fun G n0 =>
  AllB.c (pb := 0) (
    BS.sq (pc' := 1) (s_iconst 2 (by decide +kernel) dX5_told_0) <|
    BS.sq (pc' := 2) (s_aload_n (k := 0) 0 rfl dX5_told_1) <|
    BS.sq (pc' := 5) (s_get 7 inX5 kc7 (by decide) kw764 rfl dX5_told_2) <|
    BS.sq (pc' := 6) (s_iadd dX5_told_5) <|
    s_reti isI rfl okr_I dX5_told_6) <|
  AllB.n)
-- NativeWorks.register(I)J
noncomputable def bs_X11_register : List rBl := [sq (h_ld isI 1) (t_if (fun a => rLt a 0) 3 1),
  sq (h_ld isI 1) (sq (h_v (.inl 16)) (t_icmp (fun a b => rNot (rLt a b)) 3 2)),
  sq (h_ld isR 0) (sq (h_get rFo 13 4) (sq (h_get rFo 7 2) (sq (h_ld isI 1) (sq (h_aldC rFo okJ) (t_retv isJ))))),
  sq (h_ld isI 1) (sq (h_v (.inl 16)) (t_icmp (fun a b => rNot (rEq a b)) 5 4)),
  sq (h_ld isR 0) (sq (h_get rFo 13 4) (sq (h_get rFo 7 6) (t_go 12))),
  sq (h_ld isI 1) (sq (h_v (.inl 17)) (t_icmp (fun a b => rNot (rEq a b)) 7 6)),
  sq (h_ld isR 0) (sq (h_get rFo 13 4) (sq (h_call 1 (rRecv rFo 7) ev_X5_told) (sq (h_i2l) (t_go 12)))),
  sq (h_ld isI 1) (sq (h_v (.inl 18)) (t_icmp (fun a b => rNot (rEq a b)) 9 8)),
  sq (h_ld isR 0) (sq (h_get rFo 13 4) (sq (h_get rFo 7 0) (sq (h_get rFo 8 11) (t_go 12)))),
  sq (h_ld isI 1) (sq (h_v (.inl 19)) (t_icmp (fun a b => rNot (rEq a b)) 11 10)),
  sq (h_ld isR 0) (sq (h_get rFo 13 4) (sq (h_get rFo 7 13) (sq (h_i2l) (t_go 12)))),
  sq (h_v (.inr (.inl 0))) (t_go 12),
  t_retv isJ]
noncomputable def ev_X11_register : rEv := fun as w n => rIni 2 as (fun ls => rRun bs_X11_register 100000 0 ls [] w n 0)
set_option maxRecDepth 100000 in
set_option maxHeartbeats 4000000 in
theorem ok_X11_register (l : Launch) : rMet vwCl rFo rZs rRs rNs rTs l yX11_register cX11_register 2 ((Option.some FieldType.long)) 1 20 ev_X11_register := met_of (pcs := [0, 4, 10, 20, 26, 36, 42, 53, 59, 72, 78, 89, 90]) (by decide +kernel) rfl (fun G n0 =>
  AllB.c (pb := 0) (
    BS.sq (pc' := 1) (s_iload_n (k := 1) 1 rfl dX11_register_0) <|
    s_if_lt rfl rfl (by decide) dX11_register_1) <|
  AllB.c (pb := 4) (
    BS.sq (pc' := 5) (s_iload_n (k := 1) 1 rfl dX11_register_4) <|
    BS.sq (pc' := 7) (s_bipush 16 (by decide +kernel) dX11_register_5) <|
    s_icmp_ge rfl rfl (by decide) dX11_register_7) <|
  AllB.c (pb := 10) (
    BS.sq (pc' := 11) (s_aload_n (k := 0) 0 rfl dX11_register_10) <|
    BS.sq (pc' := 14) (s_get 4 inX11 kc13 (by decide) kw267 rfl dX11_register_11) <|
    BS.sq (pc' := 17) (s_get 2 inX5 kc7 (by decide) kw765 rfl dX11_register_14) <|
    BS.sq (pc' := 18) (s_iload_n (k := 1) 1 rfl dX11_register_17) <|
    BS.sq (pc' := 19) (s_laloadC dX11_register_18) <|
    s_retl rfl dX11_register_19) <|
  AllB.c (pb := 20) (
    BS.sq (pc' := 21) (s_iload_n (k := 1) 1 rfl dX11_register_20) <|
    BS.sq (pc' := 23) (s_bipush 16 (by decide +kernel) dX11_register_21) <|
    s_icmp_ne rfl rfl (by decide) dX11_register_23) <|
  AllB.c (pb := 26) (
    BS.sq (pc' := 27) (s_aload_n (k := 0) 0 rfl dX11_register_26) <|
    BS.sq (pc' := 30) (s_get 4 inX11 kc13 (by decide) kw267 rfl dX11_register_27) <|
    BS.sq (pc' := 33) (s_get 6 inX5 kc7 (by decide) kw766 rfl dX11_register_30) <|
    s_goto rfl (by decide) dX11_register_33) <|
  AllB.c (pb := 36) (
    BS.sq (pc' := 37) (s_iload_n (k := 1) 1 rfl dX11_register_36) <|
    BS.sq (pc' := 39) (s_bipush 17 (by decide +kernel) dX11_register_37) <|
    s_icmp_ne rfl rfl (by decide) dX11_register_39) <|
  AllB.c (pb := 42) (
    BS.sq (pc' := 43) (s_aload_n (k := 0) 0 rfl dX11_register_42) <|
    BS.sq (pc' := 46) (s_get 4 inX11 kc13 (by decide) kw267 rfl dX11_register_43) <|
    BS.sq (pc' := 49) (s_callV 0 7 kc7 (ok_X5_told l) kGood kw768 kw769 kw770 kw263 kw767 (by decide +kernel) (by decide) (by decide) dX11_register_46) <|
    BS.sq (pc' := 50) (s_i2l dX11_register_49) <|
    s_goto rfl (by decide) dX11_register_50) <|
  AllB.c (pb := 53) (
    BS.sq (pc' := 54) (s_iload_n (k := 1) 1 rfl dX11_register_53) <|
    BS.sq (pc' := 56) (s_bipush 18 (by decide +kernel) dX11_register_54) <|
    s_icmp_ne rfl rfl (by decide) dX11_register_56) <|
  AllB.c (pb := 59) (
    BS.sq (pc' := 60) (s_aload_n (k := 0) 0 rfl dX11_register_59) <|
    BS.sq (pc' := 63) (s_get 4 inX11 kc13 (by decide) kw267 rfl dX11_register_60) <|
    BS.sq (pc' := 66) (s_get 0 inX5 kc7 (by decide) kw760 rfl dX11_register_63) <|
    BS.sq (pc' := 69) (s_get 11 inX6 kc8 (by decide) kw771 rfl dX11_register_66) <|
    s_goto rfl (by decide) dX11_register_69) <|
  AllB.c (pb := 72) (
    BS.sq (pc' := 73) (s_iload_n (k := 1) 1 rfl dX11_register_72) <|
    BS.sq (pc' := 75) (s_bipush 19 (by decide +kernel) dX11_register_73) <|
    s_icmp_ne rfl rfl (by decide) dX11_register_75) <|
  AllB.c (pb := 78) (
    BS.sq (pc' := 79) (s_aload_n (k := 0) 0 rfl dX11_register_78) <|
    BS.sq (pc' := 82) (s_get 4 inX11 kc13 (by decide) kw267 rfl dX11_register_79) <|
    BS.sq (pc' := 85) (s_get 13 inX5 kc7 (by decide) kw772 rfl dX11_register_82) <|
    BS.sq (pc' := 86) (s_i2l dX11_register_85) <|
    s_goto rfl (by decide) dX11_register_86) <|
  AllB.c (pb := 89) (
    BS.sq (pc' := 90) (s_lconst 0 (by decide +kernel) dX11_register_89) <|
    BS.go rfl) <|
  AllB.c (pb := 90) (
    s_retl rfl dX11_register_90) <|
  AllB.n)
-- NativeWorks.set(IJ)Z
noncomputable def bs_X11_set : List rBl := [sq (h_ld isI 1) (t_if (fun a => rLt a 0) 2 1),
  sq (h_ld isI 1) (sq (h_v (.inl 16)) (t_icmp rLe 3 2)),
  sq (h_v (.inl 0)) (t_retv isZ),
  sq (h_ld isI 1) (sq (h_v (.inl 16)) (t_icmp (fun a b => rNot (rEq a b)) 5 4)),
  sq (h_ld isR 0) (sq (h_get rFo 13 4) (sq (h_ld isJ 2) (sq (h_put 7 6 isJ) (t_go 6)))),
  sq (h_ld isR 0) (sq (h_get rFo 13 4) (sq (h_get rFo 7 2) (sq (h_ld isI 1) (sq (h_ld isJ 2) (sq (h_lastF) (t_go 6)))))),
  sq (h_v (.inl 1)) (t_retv isZ)]
noncomputable def ev_X11_set : rEv := fun as w n => rIni 4 as (fun ls => rRun bs_X11_set 100000 0 ls [] w n 0)
set_option maxRecDepth 100000 in
set_option maxHeartbeats 4000000 in
theorem ok_X11_set (l : Launch) : rMet vwCl rFo rZs rRs rNs rTs l yX11_set cX11_set 4 ((Option.some FieldType.boolean)) 0 0 ev_X11_set := met_of (pcs := [0, 4, 10, 12, 18, 29, 39]) (by decide +kernel) rfl (fun G n0 =>
  AllB.c (pb := 0) (
    BS.sq (pc' := 1) (s_iload_n (k := 1) 1 rfl dX11_set_0) <|
    s_if_lt rfl rfl (by decide) dX11_set_1) <|
  AllB.c (pb := 4) (
    BS.sq (pc' := 5) (s_iload_n (k := 1) 1 rfl dX11_set_4) <|
    BS.sq (pc' := 7) (s_bipush 16 (by decide +kernel) dX11_set_5) <|
    s_icmp_le rfl rfl (by decide) dX11_set_7) <|
  AllB.c (pb := 10) (
    BS.sq (pc' := 11) (s_iconst 0 (by decide +kernel) dX11_set_10) <|
    s_reti isZ rfl okr_Z dX11_set_11) <|
  AllB.c (pb := 12) (
    BS.sq (pc' := 13) (s_iload_n (k := 1) 1 rfl dX11_set_12) <|
    BS.sq (pc' := 15) (s_bipush 16 (by decide +kernel) dX11_set_13) <|
    s_icmp_ne rfl rfl (by decide) dX11_set_15) <|
  AllB.c (pb := 18) (
    BS.sq (pc' := 19) (s_aload_n (k := 0) 0 rfl dX11_set_18) <|
    BS.sq (pc' := 22) (s_get 4 inX11 kc13 (by decide) kw267 rfl dX11_set_19) <|
    BS.sq (pc' := 23) (s_lload_n (k := 2) 2 rfl dX11_set_22) <|
    BS.sq (pc' := 26) (s_put tyX5 6 isJ inX5 tyX5_ok nmX5 kc7 (by decide) kw766 rfl rfl (okf_J G) dX11_set_23) <|
    s_goto rfl (by decide) dX11_set_26) <|
  AllB.c (pb := 29) (
    BS.sq (pc' := 30) (s_aload_n (k := 0) 0 rfl dX11_set_29) <|
    BS.sq (pc' := 33) (s_get 4 inX11 kc13 (by decide) kw267 rfl dX11_set_30) <|
    BS.sq (pc' := 36) (s_get 2 inX5 kc7 (by decide) kw765 rfl dX11_set_33) <|
    BS.sq (pc' := 37) (s_iload_n (k := 1) 1 rfl dX11_set_36) <|
    BS.sq (pc' := 38) (s_lload_n (k := 2) 2 rfl dX11_set_37) <|
    BS.sq (pc' := 39) (s_lastoreF dX11_set_38) <|
    BS.go rfl) <|
  AllB.c (pb := 39) (
    BS.sq (pc' := 40) (s_iconst 1 (by decide +kernel) dX11_set_39) <|
    s_reti isZ rfl okr_Z dX11_set_40) <|
  AllB.n)
-- NativeWorks$Memory.may(JJZ)Z
noncomputable def bs_X6_may : List rBl := [sq (h_ld isJ 1) (sq (h_st2 6) (sq (h_ld isJ 3) (sq (h_st2 8) (sq (h_v (.inl 0)) (sq (h_st isI 10) (t_go 1)))))),
  sq (h_ld isR 0) (sq (h_get rFo 8 3) (t_if (fun a => rEq a 0) 25 2)),
  t_no,
  t_no,
  t_no,
  t_no,
  t_no,
  t_no,
  t_no,
  t_no,
  t_no,
  t_no,
  t_no,
  t_no,
  t_no,
  t_no,
  t_no,
  t_no,
  t_no,
  t_no,
  t_no,
  t_no,
  t_no,
  t_no,
  t_no,
  sq (h_v (.inl 0)) (t_retv isZ)]
noncomputable def ev_X6_may : rEv := fun as w n => rIni 13 as (fun ls => rRun bs_X6_may 100000 0 ls [] w n 0)
set_option maxRecDepth 100000 in
set_option maxHeartbeats 4000000 in
theorem ok_X6_may (l : Launch) : rMet vwCl rFo rZs rRs rNs rTs l yX6_may cX6_may 13 ((Option.some FieldType.boolean)) 0 0 ev_X6_may := met_of (pcs := [0, 9, 16, 22, 35, 44, 52, 62, 72, 81, 91, 101, 110, 115, 125, 135, 144, 149, 159, 169, 175, 186, 188, 196, 198, 218]) (by decide +kernel) rfl (fun G n0 =>
  AllB.c (pb := 0) (
    BS.sq (pc' := 1) (s_lload_n (k := 1) 1 rfl dX6_may_0) <|
    BS.sq (pc' := 3) (s_lstore 6 (by decide) dX6_may_1) <|
    BS.sq (pc' := 4) (s_lload_n (k := 3) 3 rfl dX6_may_3) <|
    BS.sq (pc' := 6) (s_lstore 8 (by decide) dX6_may_4) <|
    BS.sq (pc' := 7) (s_iconst 0 (by decide +kernel) dX6_may_6) <|
    BS.sq (pc' := 9) (s_istore 10 (by decide) dX6_may_7) <|
    BS.go rfl) <|
  AllB.c (pb := 9) (
    BS.sq (pc' := 10) (s_aload_n (k := 0) 0 rfl dX6_may_9) <|
    BS.sq (pc' := 13) (s_get 3 inX6 kc8 (by decide) kw217 rfl dX6_may_10) <|
    s_if_eq rfl rfl (by decide) dX6_may_13) <|
  AllB.c (pb := 16) (
    BS.no) <|
  AllB.c (pb := 22) (
    BS.no) <|
  AllB.c (pb := 35) (
    BS.no) <|
  AllB.c (pb := 44) (
    BS.no) <|
  AllB.c (pb := 52) (
    BS.no) <|
  AllB.c (pb := 62) (
    BS.no) <|
  AllB.c (pb := 72) (
    BS.no) <|
  AllB.c (pb := 81) (
    BS.no) <|
  AllB.c (pb := 91) (
    BS.no) <|
  AllB.c (pb := 101) (
    BS.no) <|
  AllB.c (pb := 110) (
    BS.no) <|
  AllB.c (pb := 115) (
    BS.no) <|
  AllB.c (pb := 125) (
    BS.no) <|
  AllB.c (pb := 135) (
    BS.no) <|
  AllB.c (pb := 144) (
    BS.no) <|
  AllB.c (pb := 149) (
    BS.no) <|
  AllB.c (pb := 159) (
    BS.no) <|
  AllB.c (pb := 169) (
    BS.no) <|
  AllB.c (pb := 175) (
    BS.no) <|
  AllB.c (pb := 186) (
    BS.no) <|
  AllB.c (pb := 188) (
    BS.no) <|
  AllB.c (pb := 196) (
    BS.no) <|
  AllB.c (pb := 198) (
    BS.no) <|
  AllB.c (pb := 218) (
    BS.sq (pc' := 219) (s_iconst 0 (by decide +kernel) dX6_may_218) <|
    s_reti isZ rfl okr_Z dX6_may_219) <|
  AllB.n)
-- NativeWorks.peek(J)I
noncomputable def bs_X11_peek : List rBl := [sq (h_ld isR 0) (sq (h_get rFo 13 4) (sq (h_get rFo 7 0) (sq (h_ld isJ 1) (sq (h_v (.inr (.inl 1))) (sq (h_v (.inl 0)) (sq (h_call 4 (rRecv rFo 8) ev_X6_may) (t_if (fun a => rEq a 0) 2 1))))))),
  t_no,
  sq (h_v (.inl 4294967295)) (t_go 3),
  t_retv isI]
noncomputable def ev_X11_peek : rEv := fun as w n => rIni 3 as (fun ls => rRun bs_X11_peek 100000 0 ls [] w n 0)
set_option maxRecDepth 100000 in
set_option maxHeartbeats 4000000 in
theorem ok_X11_peek (l : Launch) : rMet vwCl rFo rZs rRs rNs rTs l yX11_peek cX11_peek 3 ((Option.some FieldType.int)) 1 32 ev_X11_peek := met_of (pcs := [0, 16, 32, 33]) (by decide +kernel) rfl (fun G n0 =>
  AllB.c (pb := 0) (
    BS.sq (pc' := 1) (s_aload_n (k := 0) 0 rfl dX11_peek_0) <|
    BS.sq (pc' := 4) (s_get 4 inX11 kc13 (by decide) kw267 rfl dX11_peek_1) <|
    BS.sq (pc' := 7) (s_get 0 inX5 kc7 (by decide) kw760 rfl dX11_peek_4) <|
    BS.sq (pc' := 8) (s_lload_n (k := 1) 1 rfl dX11_peek_7) <|
    BS.sq (pc' := 9) (s_lconst 1 (by decide +kernel) dX11_peek_8) <|
    BS.sq (pc' := 10) (s_iconst 0 (by decide +kernel) dX11_peek_9) <|
    BS.sq (pc' := 13) (s_callV 3 8 kc8 (ok_X6_may l) kGood kw774 kw775 kw776 kw224 kw773 (by decide +kernel) (by decide) (by decide) dX11_peek_10) <|
    s_if_eq rfl rfl (by decide) dX11_peek_13) <|
  AllB.c (pb := 16) (
    BS.no) <|
  AllB.c (pb := 32) (
    BS.sq (pc' := 33) (s_iconst 4294967295 (by decide +kernel) dX11_peek_32) <|
    BS.go rfl) <|
  AllB.c (pb := 33) (
    s_reti isI rfl okr_I dX11_peek_33) <|
  AllB.n)
-- NativeWorks.poke(JI)Z
noncomputable def bs_X11_poke : List rBl := [sq (h_ld isR 0) (sq (h_get rFo 13 4) (sq (h_get rFo 7 0) (sq (h_ld isJ 1) (sq (h_v (.inr (.inl 1))) (sq (h_v (.inl 1)) (sq (h_call 4 (rRecv rFo 8) ev_X6_may) (t_if (fun a => rNot (rEq a 0)) 2 1))))))),
  sq (h_v (.inl 0)) (t_retv isZ),
  t_no]
noncomputable def ev_X11_poke : rEv := fun as w n => rIni 4 as (fun ls => rRun bs_X11_poke 100000 0 ls [] w n 0)
set_option maxRecDepth 100000 in
set_option maxHeartbeats 4000000 in
theorem ok_X11_poke (l : Launch) : rMet vwCl rFo rZs rRs rNs rTs l yX11_poke cX11_poke 4 ((Option.some FieldType.boolean)) 1 32 ev_X11_poke := met_of (pcs := [0, 16, 18]) (by decide +kernel) rfl (fun G n0 =>
  AllB.c (pb := 0) (
    BS.sq (pc' := 1) (s_aload_n (k := 0) 0 rfl dX11_poke_0) <|
    BS.sq (pc' := 4) (s_get 4 inX11 kc13 (by decide) kw267 rfl dX11_poke_1) <|
    BS.sq (pc' := 7) (s_get 0 inX5 kc7 (by decide) kw760 rfl dX11_poke_4) <|
    BS.sq (pc' := 8) (s_lload_n (k := 1) 1 rfl dX11_poke_7) <|
    BS.sq (pc' := 9) (s_lconst 1 (by decide +kernel) dX11_poke_8) <|
    BS.sq (pc' := 10) (s_iconst 1 (by decide +kernel) dX11_poke_9) <|
    BS.sq (pc' := 13) (s_callV 3 8 kc8 (ok_X6_may l) kGood kw774 kw775 kw776 kw224 kw773 (by decide +kernel) (by decide) (by decide) dX11_poke_10) <|
    s_if_ne rfl rfl (by decide) dX11_poke_13) <|
  AllB.c (pb := 16) (
    BS.sq (pc' := 17) (s_iconst 0 (by decide +kernel) dX11_poke_16) <|
    s_reti isZ rfl okr_Z dX11_poke_17) <|
  AllB.c (pb := 18) (
    BS.no) <|
  AllB.n)
-- NativeWorks$Machine.stopPlace(J)I
noncomputable def bs_X5_stopPlace : List rBl := [sq (h_v (.inl 0)) (sq (h_st isI 3) (t_go 1)),
  sq (h_ld isI 3) (sq (h_ld isR 0) (sq (h_get rFo 7 10) (t_icmp (fun a b => rNot (rLt a b)) 4 2))),
  t_no,
  t_no,
  sq (h_ld isI 3) (t_retv isI)]
noncomputable def ev_X5_stopPlace : rEv := fun as w n => rIni 4 as (fun ls => rRun bs_X5_stopPlace 100000 0 ls [] w n 0)
set_option maxRecDepth 100000 in
set_option maxHeartbeats 4000000 in
theorem ok_X5_stopPlace (l : Launch) : rMet vwCl rFo rZs rRs rNs rTs l yX5_stopPlace cX5_stopPlace 4 ((Option.some FieldType.int)) 0 0 ev_X5_stopPlace := met_of (pcs := [0, 2, 10, 21, 27]) (by decide +kernel) rfl (fun G n0 =>
  AllB.c (pb := 0) (
    BS.sq (pc' := 1) (s_iconst 0 (by decide +kernel) dX5_stopPlace_0) <|
    BS.sq (pc' := 2) (s_istore_n (k := 3) 3 rfl (by decide) dX5_stopPlace_1) <|
    BS.go rfl) <|
  AllB.c (pb := 2) (
    BS.sq (pc' := 3) (s_iload_n (k := 3) 3 rfl dX5_stopPlace_2) <|
    BS.sq (pc' := 4) (s_aload_n (k := 0) 0 rfl dX5_stopPlace_3) <|
    BS.sq (pc' := 7) (s_get 10 inX5 kc7 (by decide) kw777 rfl dX5_stopPlace_4) <|
    s_icmp_ge rfl rfl (by decide) dX5_stopPlace_7) <|
  AllB.c (pb := 10) (
    BS.no) <|
  AllB.c (pb := 21) (
    BS.no) <|
  AllB.c (pb := 27) (
    BS.sq (pc' := 28) (s_iload_n (k := 3) 3 rfl dX5_stopPlace_27) <|
    s_reti isI rfl okr_I dX5_stopPlace_28) <|
  AllB.n)
-- NativeWorks$Machine.addPlace(J)Z
noncomputable def bs_X5_addPlace : List rBl := [sq (h_ld isR 0) (sq (h_ld isJ 1) (sq (h_call 2 (rRecv rFo 7) ev_X5_stopPlace) (sq (h_ld isR 0) (sq (h_get rFo 7 10) (t_icmp rLt 2 1))))),
  sq (h_ld isR 0) (sq (h_get rFo 7 10) (sq (h_v (.inl 16)) (t_icmp (fun a b => rNot (rEq a b)) 3 2))),
  t_no,
  sq (h_ld isR 0) (sq (h_get rFo 7 5) (sq (h_ld isR 0) (sq (h_dup) (sq (h_get rFo 7 10) (sq (h_dupx1) (sq (h_v (.inl 1)) (sq (h_bin (fun _ _ => true) rAdd) (sq (h_put 7 10 isI) (sq (h_ld isJ 1) (sq (h_ast okJ) (sq (h_v (.inl 1)) (t_retv isZ))))))))))))]
noncomputable def ev_X5_addPlace : rEv := fun as w n => rIni 3 as (fun ls => rRun bs_X5_addPlace 100000 0 ls [] w n 0)
set_option maxRecDepth 100000 in
set_option maxHeartbeats 4000000 in
theorem ok_X5_addPlace (l : Launch) : rMet vwCl rFo rZs rRs rNs rTs l yX5_addPlace cX5_addPlace 3 ((Option.some FieldType.boolean)) 1 23 ev_X5_addPlace := met_of (pcs := [0, 12, 21, 23]) (by decide +kernel) rfl (fun G n0 =>
  AllB.c (pb := 0) (
    BS.sq (pc' := 1) (s_aload_n (k := 0) 0 rfl dX5_addPlace_0) <|
    BS.sq (pc' := 2) (s_lload_n (k := 1) 1 rfl dX5_addPlace_1) <|
    BS.sq (pc' := 5) (s_callV 1 7 kc7 (ok_X5_stopPlace l) kGood kw779 kw780 kw781 kw263 kw778 (by decide +kernel) (by decide) (by decide) dX5_addPlace_2) <|
    BS.sq (pc' := 6) (s_aload_n (k := 0) 0 rfl dX5_addPlace_5) <|
    BS.sq (pc' := 9) (s_get 10 inX5 kc7 (by decide) kw777 rfl dX5_addPlace_6) <|
    s_icmp_lt rfl rfl (by decide) dX5_addPlace_9) <|
  AllB.c (pb := 12) (
    BS.sq (pc' := 13) (s_aload_n (k := 0) 0 rfl dX5_addPlace_12) <|
    BS.sq (pc' := 16) (s_get 10 inX5 kc7 (by decide) kw777 rfl dX5_addPlace_13) <|
    BS.sq (pc' := 18) (s_bipush 16 (by decide +kernel) dX5_addPlace_16) <|
    s_icmp_ne rfl rfl (by decide) dX5_addPlace_18) <|
  AllB.c (pb := 21) (
    BS.no) <|
  AllB.c (pb := 23) (
    BS.sq (pc' := 24) (s_aload_n (k := 0) 0 rfl dX5_addPlace_23) <|
    BS.sq (pc' := 27) (s_get 5 inX5 kc7 (by decide) kw236 rfl dX5_addPlace_24) <|
    BS.sq (pc' := 28) (s_aload_n (k := 0) 0 rfl dX5_addPlace_27) <|
    BS.sq (pc' := 29) (s_dup dX5_addPlace_28) <|
    BS.sq (pc' := 32) (s_get 10 inX5 kc7 (by decide) kw777 rfl dX5_addPlace_29) <|
    BS.sq (pc' := 33) (s_dupx1 dX5_addPlace_32) <|
    BS.sq (pc' := 34) (s_iconst 1 (by decide +kernel) dX5_addPlace_33) <|
    BS.sq (pc' := 35) (s_iadd dX5_addPlace_34) <|
    BS.sq (pc' := 38) (s_put tyX5 10 isI inX5 tyX5_ok nmX5 kc7 (by decide) kw777 rfl rfl (okf_I G) dX5_addPlace_35) <|
    BS.sq (pc' := 39) (s_lload_n (k := 1) 1 rfl dX5_addPlace_38) <|
    BS.sq (pc' := 40) (s_lastore dX5_addPlace_39) <|
    BS.sq (pc' := 41) (s_iconst 1 (by decide +kernel) dX5_addPlace_40) <|
    s_reti isZ rfl okr_Z dX5_addPlace_41) <|
  AllB.n)
