/-! METHODS OF THE CALLS -/
-- NativeWorksModel.stopAt(JZ)Z
noncomputable def bs_X13_stopAt : List rBl := [sq (h_ld isR 0) (sq (h_v (.inl 0)) (sq (h_put 15 0 isI) (sq (h_ld isR 0) (sq (h_ld isJ 1) (sq (h_call 2 (rRecv rFo 15) ev_X13_isPlace) (sq (h_ld isI 3) (t_icmp rEq 3 1))))))),
  sq (h_ld isI 3) (t_if (fun a => rEq a 0) 4 2),
  sq (h_ld isR 0) (sq (h_get rFo 15 200) (sq (h_v (.inl 16)) (t_icmp (fun a b => rNot (rEq a b)) 4 3))),
  sq (h_v (.inl 0)) (t_retv isZ),
  sq (h_ld isI 3) (t_if (fun a => rEq a 0) 6 5),
  sq (h_ld isR 0) (sq (h_get rFo 15 199) (sq (h_ld isR 0) (sq (h_get rFo 15 200) (sq (h_ld isJ 1) (sq (h_ast okJ) (sq (h_ld isR 0) (sq (h_dup) (sq (h_get rFo 15 200) (sq (h_v (.inl 1)) (sq (h_bin (fun _ _ => true) rAdd) (sq (h_put 15 200 isI) (sq (h_v (.inl 1)) (t_retv isZ))))))))))))),
  t_no,
  t_no,
  t_no,
  t_no]
noncomputable def ev_X13_stopAt : rEv := fun as w n => rIni 5 as (fun ls => rRun bs_X13_stopAt 100000 0 ls [] w n 0)
set_option maxRecDepth 100000 in
set_option maxHeartbeats 4000000 in
theorem ok_X13_stopAt (l : Launch) : rMet vwCl rFo rZs rRs rNs rTs l yX13_stopAt cX13_stopAt 5 ((Option.some FieldType.boolean)) 1 23 ev_X13_stopAt := met_of (pcs := [0, 14, 18, 27, 29, 33, 55, 58, 70, 76]) (by decide +kernel) rfl (fun G n0 =>
  AllB.c (pb := 0) (
    BS.sq (pc' := 1) (s_aload_n (k := 0) 0 rfl dX13_stopAt_0) <|
    BS.sq (pc' := 2) (s_iconst 0 (by decide +kernel) dX13_stopAt_1) <|
    BS.sq (pc' := 5) (s_put tyX13 0 isI inX13 tyX13_ok nmX13 kc15 (by decide) kw793 rfl rfl (okf_I G) dX13_stopAt_2) <|
    BS.sq (pc' := 6) (s_aload_n (k := 0) 0 rfl dX13_stopAt_5) <|
    BS.sq (pc' := 7) (s_lload_n (k := 1) 1 rfl dX13_stopAt_6) <|
    BS.sq (pc' := 10) (s_callV 1 15 kc15 (ok_X13_isPlace l) kGood kw890 kw891 kw892 kw315 kw889 (by decide +kernel) (by decide) (by decide) dX13_stopAt_7) <|
    BS.sq (pc' := 11) (s_iload_n (k := 3) 3 rfl dX13_stopAt_10) <|
    s_icmp_eq rfl rfl (by decide) dX13_stopAt_11) <|
  AllB.c (pb := 14) (
    BS.sq (pc' := 15) (s_iload_n (k := 3) 3 rfl dX13_stopAt_14) <|
    s_if_eq rfl rfl (by decide) dX13_stopAt_15) <|
  AllB.c (pb := 18) (
    BS.sq (pc' := 19) (s_aload_n (k := 0) 0 rfl dX13_stopAt_18) <|
    BS.sq (pc' := 22) (s_get 200 inX13 kc15 (by decide) kw888 rfl dX13_stopAt_19) <|
    BS.sq (pc' := 24) (s_bipush 16 (by decide +kernel) dX13_stopAt_22) <|
    s_icmp_ne rfl rfl (by decide) dX13_stopAt_24) <|
  AllB.c (pb := 27) (
    BS.sq (pc' := 28) (s_iconst 0 (by decide +kernel) dX13_stopAt_27) <|
    s_reti isZ rfl okr_Z dX13_stopAt_28) <|
  AllB.c (pb := 29) (
    BS.sq (pc' := 30) (s_iload_n (k := 3) 3 rfl dX13_stopAt_29) <|
    s_if_eq rfl rfl (by decide) dX13_stopAt_30) <|
  AllB.c (pb := 33) (
    BS.sq (pc' := 34) (s_aload_n (k := 0) 0 rfl dX13_stopAt_33) <|
    BS.sq (pc' := 37) (s_get 199 inX13 kc15 (by decide) kw557 rfl dX13_stopAt_34) <|
    BS.sq (pc' := 38) (s_aload_n (k := 0) 0 rfl dX13_stopAt_37) <|
    BS.sq (pc' := 41) (s_get 200 inX13 kc15 (by decide) kw888 rfl dX13_stopAt_38) <|
    BS.sq (pc' := 42) (s_lload_n (k := 1) 1 rfl dX13_stopAt_41) <|
    BS.sq (pc' := 43) (s_lastore dX13_stopAt_42) <|
    BS.sq (pc' := 44) (s_aload_n (k := 0) 0 rfl dX13_stopAt_43) <|
    BS.sq (pc' := 45) (s_dup dX13_stopAt_44) <|
    BS.sq (pc' := 48) (s_get 200 inX13 kc15 (by decide) kw888 rfl dX13_stopAt_45) <|
    BS.sq (pc' := 49) (s_iconst 1 (by decide +kernel) dX13_stopAt_48) <|
    BS.sq (pc' := 50) (s_iadd dX13_stopAt_49) <|
    BS.sq (pc' := 53) (s_put tyX13 200 isI inX13 tyX13_ok nmX13 kc15 (by decide) kw888 rfl rfl (okf_I G) dX13_stopAt_50) <|
    BS.sq (pc' := 54) (s_iconst 1 (by decide +kernel) dX13_stopAt_53) <|
    s_reti isZ rfl okr_Z dX13_stopAt_54) <|
  AllB.c (pb := 55) (
    BS.no) <|
  AllB.c (pb := 58) (
    BS.no) <|
  AllB.c (pb := 70) (
    BS.no) <|
  AllB.c (pb := 76) (
    BS.no) <|
  AllB.n)
-- NativeWorksModel.output(I)I
noncomputable def bs_X13_output : List rBl := [sq (h_ld isR 0) (sq (h_v (.inl 0)) (sq (h_put 15 0 isI) (sq (h_ld isI 1) (sq (h_v (.inl 4294967295)) (t_icmp (fun a b => rNot (rEq a b)) 2 1))))),
  sq (h_ld isR 0) (sq (h_get rFo 15 187) (t_go 6)),
  sq (h_ld isI 1) (t_if (fun a => rLt a 0) 5 3),
  sq (h_ld isI 1) (sq (h_ld isR 0) (sq (h_get rFo 15 187) (t_icmp (fun a b => rNot (rLt a b)) 5 4))),
  t_no,
  sq (h_v (.inl 4294967295)) (t_go 6),
  t_retv isI]
noncomputable def ev_X13_output : rEv := fun as w n => rIni 2 as (fun ls => rRun bs_X13_output 100000 0 ls [] w n 0)
set_option maxRecDepth 100000 in
set_option maxHeartbeats 4000000 in
theorem ok_X13_output (l : Launch) : rMet vwCl rFo rZs rRs rNs rTs l yX13_output cX13_output 2 ((Option.some FieldType.int)) 0 0 ev_X13_output := met_of (pcs := [0, 10, 17, 21, 29, 42, 43]) (by decide +kernel) rfl (fun G n0 =>
  AllB.c (pb := 0) (
    BS.sq (pc' := 1) (s_aload_n (k := 0) 0 rfl dX13_output_0) <|
    BS.sq (pc' := 2) (s_iconst 0 (by decide +kernel) dX13_output_1) <|
    BS.sq (pc' := 5) (s_put tyX13 0 isI inX13 tyX13_ok nmX13 kc15 (by decide) kw793 rfl rfl (okf_I G) dX13_output_2) <|
    BS.sq (pc' := 6) (s_iload_n (k := 1) 1 rfl dX13_output_5) <|
    BS.sq (pc' := 7) (s_iconst 4294967295 (by decide +kernel) dX13_output_6) <|
    s_icmp_ne rfl rfl (by decide) dX13_output_7) <|
  AllB.c (pb := 10) (
    BS.sq (pc' := 11) (s_aload_n (k := 0) 0 rfl dX13_output_10) <|
    BS.sq (pc' := 14) (s_get 187 inX13 kc15 (by decide) kw893 rfl dX13_output_11) <|
    s_goto rfl (by decide) dX13_output_14) <|
  AllB.c (pb := 17) (
    BS.sq (pc' := 18) (s_iload_n (k := 1) 1 rfl dX13_output_17) <|
    s_if_lt rfl rfl (by decide) dX13_output_18) <|
  AllB.c (pb := 21) (
    BS.sq (pc' := 22) (s_iload_n (k := 1) 1 rfl dX13_output_21) <|
    BS.sq (pc' := 23) (s_aload_n (k := 0) 0 rfl dX13_output_22) <|
    BS.sq (pc' := 26) (s_get 187 inX13 kc15 (by decide) kw893 rfl dX13_output_23) <|
    s_icmp_ge rfl rfl (by decide) dX13_output_26) <|
  AllB.c (pb := 29) (
    BS.no) <|
  AllB.c (pb := 42) (
    BS.sq (pc' := 43) (s_iconst 4294967295 (by decide +kernel) dX13_output_42) <|
    BS.go rfl) <|
  AllB.c (pb := 43) (
    s_reti isI rfl okr_I dX13_output_43) <|
  AllB.n)
