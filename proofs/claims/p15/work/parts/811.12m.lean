/-! METHODS -/
-- java/lang/AbstractStringBuilder.<init>(I)V
noncomputable def bs_J5_init_d00df : List rBl := [sq (h_ld isR 0) (sq (h_oinit) (sq (h_v (.inl 1)) (t_if (fun a => rEq a 0) 2 1))),
  sq (h_ld isR 0) (sq (h_ld isI 1) (sq (h_newa 2 (.inl 0)) (sq (h_put 1 0 isR) (sq (h_ld isR 0) (sq (h_v (.inl 0)) (sq (h_put 1 1 isB) (t_go 3))))))),
  t_no,
  t_ret]
noncomputable def ev_J5_init_d00df : rEv := fun as w n => rIni 2 as (fun ls => rRun bs_J5_init_d00df 100000 0 ls [] w n 0)
set_option maxRecDepth 100000 in
set_option maxHeartbeats 4000000 in
theorem ok_J5_init_d00df (l : Launch) : rMet vwCl rFo rZs rRs rNs rTs l yJ5_init_d00df cJ5_init_d00df 2 ((Option.none : Option FieldType)) 1 20 ev_J5_init_d00df := met_of (pcs := [0, 10, 25, 38]) (by decide +kernel) rfl (fun G n0 =>
  AllB.c (pb := 0) (
    BS.sq (pc' := 1) (s_aload_n (k := 0) 0 rfl dJ5_init_d00df_0) <|
    BS.sq (pc' := 4) (s_oinit kw325 kw2 kwObj (by decide) (by decide) dJ5_init_d00df_1) <|
    BS.sq (pc' := 7) (s_gets (.inl 1) kz0 kw326 rfl dJ5_init_d00df_4) <|
    s_if_eq rfl rfl (by decide) dJ5_init_d00df_7) <|
  AllB.c (pb := 10) (
    BS.sq (pc' := 11) (s_aload_n (k := 0) 0 rfl dJ5_init_d00df_10) <|
    BS.sq (pc' := 12) (s_iload_n (k := 1) 1 rfl dJ5_init_d00df_11) <|
    BS.sq (pc' := 14) (s_newa 2 (.inl 0) (by decide) rfl rfl (fun _ _ h => h) (by decide) kw3 dJ5_init_d00df_12) <|
    BS.sq (pc' := 17) (s_put tyJ4 0 isR inJ4 tyJ4_ok nmJ4 kc1 (by decide) kw327 rfl rfl (okf_A G _) dJ5_init_d00df_14) <|
    BS.sq (pc' := 18) (s_aload_n (k := 0) 0 rfl dJ5_init_d00df_17) <|
    BS.sq (pc' := 19) (s_iconst 0 (by decide +kernel) dJ5_init_d00df_18) <|
    BS.sq (pc' := 22) (s_put tyJ4 1 isB inJ4 tyJ4_ok nmJ4 kc1 (by decide) kw328 rfl rfl (okf_B G) dJ5_init_d00df_19) <|
    s_goto rfl (by decide) dJ5_init_d00df_22) <|
  AllB.c (pb := 25) (
    BS.no) <|
  AllB.c (pb := 38) (
    s_ret rfl dJ5_init_d00df_38) <|
  AllB.n)
-- java/lang/StringBuilder.<init>()V
noncomputable def bs_J4_init_da8c8 : List rBl := [sq (h_ld isR 0) (sq (h_v (.inl 16)) (sq (h_call 2 (rRecv rFo 1) ev_J5_init_d00df) (t_ret)))]
noncomputable def ev_J4_init_da8c8 : rEv := fun as w n => rIni 1 as (fun ls => rRun bs_J4_init_da8c8 100000 0 ls [] w n 0)
set_option maxRecDepth 100000 in
set_option maxHeartbeats 4000000 in
theorem ok_J4_init_da8c8 (l : Launch) : rMet vwCl rFo rZs rRs rNs rTs l yJ4_init_da8c8 cJ4_init_da8c8 1 ((Option.none : Option FieldType)) 2 41 ev_J4_init_da8c8 := met_of (pcs := [0]) (by decide +kernel) rfl (fun G n0 =>
  AllB.c (pb := 0) (
    BS.sq (pc' := 1) (s_aload_n (k := 0) 0 rfl dJ4_init_da8c8_0) <|
    BS.sq (pc' := 3) (s_bipush 16 (by decide +kernel) dJ4_init_da8c8_1) <|
    BS.sq (pc' := 6) (s_callI 1 1 kc1 (ok_J5_init_d00df l) kGood kw330 kw331 kw332 kw329 rfl (by decide +kernel) (by decide) (by decide) dJ4_init_da8c8_3) <|
    s_ret rfl dJ4_init_da8c8_6) <|
  AllB.n)
-- java/lang/AbstractStringBuilder.ensureCapacityInternal(I)V
noncomputable def bs_J5_ensureCapacityInternal_d00df : List rBl := [sq (h_ld isR 0) (sq (h_get rFo 1 0) (sq (h_alen rFo) (sq (h_ld isR 0) (sq (h_get rFo 1 1) (sq (h_bin okShr rShr) (sq (h_st isI 2) (sq (h_ld isI 1) (sq (h_ld isI 2) (sq (h_bin (fun _ _ => true) rSub) (t_if (fun a => rLe a 0) 2 1)))))))))),
  t_no,
  t_ret]
noncomputable def ev_J5_ensureCapacityInternal_d00df : rEv := fun as w n => rIni 3 as (fun ls => rRun bs_J5_ensureCapacityInternal_d00df 100000 0 ls [] w n 0)
set_option maxRecDepth 100000 in
set_option maxHeartbeats 4000000 in
theorem ok_J5_ensureCapacityInternal_d00df (l : Launch) : rMet vwCl rFo rZs rRs rNs rTs l yJ5_ensureCapacityInternal_d00df cJ5_ensureCapacityInternal_d00df 3 ((Option.none : Option FieldType)) 0 0 ev_J5_ensureCapacityInternal_d00df := met_of (pcs := [0, 17, 38]) (by decide +kernel) rfl (fun G n0 =>
  AllB.c (pb := 0) (
    BS.sq (pc' := 1) (s_aload_n (k := 0) 0 rfl dJ5_ensureCapacityInternal_d00df_0) <|
    BS.sq (pc' := 4) (s_get 0 inJ4 kc1 (by decide) kw327 rfl dJ5_ensureCapacityInternal_d00df_1) <|
    BS.sq (pc' := 5) (s_alen dJ5_ensureCapacityInternal_d00df_4) <|
    BS.sq (pc' := 6) (s_aload_n (k := 0) 0 rfl dJ5_ensureCapacityInternal_d00df_5) <|
    BS.sq (pc' := 9) (s_get 1 inJ4 kc1 (by decide) kw328 rfl dJ5_ensureCapacityInternal_d00df_6) <|
    BS.sq (pc' := 10) (s_ishr dJ5_ensureCapacityInternal_d00df_9) <|
    BS.sq (pc' := 11) (s_istore_n (k := 2) 2 rfl (by decide) dJ5_ensureCapacityInternal_d00df_10) <|
    BS.sq (pc' := 12) (s_iload_n (k := 1) 1 rfl dJ5_ensureCapacityInternal_d00df_11) <|
    BS.sq (pc' := 13) (s_iload_n (k := 2) 2 rfl dJ5_ensureCapacityInternal_d00df_12) <|
    BS.sq (pc' := 14) (s_isub dJ5_ensureCapacityInternal_d00df_13) <|
    s_if_le rfl rfl (by decide) dJ5_ensureCapacityInternal_d00df_14) <|
  AllB.c (pb := 17) (
    BS.no) <|
  AllB.c (pb := 38) (
    s_ret rfl dJ5_ensureCapacityInternal_d00df_38) <|
  AllB.n)
-- java/lang/AbstractStringBuilder.inflateIfNeededFor(Ljava/lang/String;)V
noncomputable def bs_J5_inflateIfNeededFor_a7421 : List rBl := [sq (h_v (.inl 1)) (t_if (fun a => rEq a 0) 3 1),
  sq (h_ld isR 0) (sq (h_get rFo 1 1) (sq (h_ld isR 1) (sq (h_call 1 (rRecv rFo 0) ev_J0_coder_7d493) (t_icmp rEq 3 2)))),
  t_no,
  t_ret]
noncomputable def ev_J5_inflateIfNeededFor_a7421 : rEv := fun as w n => rIni 2 as (fun ls => rRun bs_J5_inflateIfNeededFor_a7421 100000 0 ls [] w n 0)
set_option maxRecDepth 100000 in
set_option maxHeartbeats 4000000 in
theorem ok_J5_inflateIfNeededFor_a7421 (l : Launch) : rMet vwCl rFo rZs rRs rNs rTs l yJ5_inflateIfNeededFor_a7421 cJ5_inflateIfNeededFor_a7421 2 ((Option.none : Option FieldType)) 1 20 ev_J5_inflateIfNeededFor_a7421 := met_of (pcs := [0, 6, 17, 21]) (by decide +kernel) rfl (fun G n0 =>
  AllB.c (pb := 0) (
    BS.sq (pc' := 3) (s_gets (.inl 1) kz0 kw326 rfl dJ5_inflateIfNeededFor_a7421_0) <|
    s_if_eq rfl rfl (by decide) dJ5_inflateIfNeededFor_a7421_3) <|
  AllB.c (pb := 6) (
    BS.sq (pc' := 7) (s_aload_n (k := 0) 0 rfl dJ5_inflateIfNeededFor_a7421_6) <|
    BS.sq (pc' := 10) (s_get 1 inJ4 kc1 (by decide) kw328 rfl dJ5_inflateIfNeededFor_a7421_7) <|
    BS.sq (pc' := 11) (s_aload_n (k := 1) 1 rfl dJ5_inflateIfNeededFor_a7421_10) <|
    BS.sq (pc' := 14) (s_callV 0 0 kc0 (ok_J0_coder_7d493 l) kGood kw333 kw42 kw43 kw44 kw40 (by decide +kernel) (by decide) (by decide) dJ5_inflateIfNeededFor_a7421_11) <|
    s_icmp_eq rfl rfl (by decide) dJ5_inflateIfNeededFor_a7421_14) <|
  AllB.c (pb := 17) (
    BS.no) <|
  AllB.c (pb := 21) (
    s_ret rfl dJ5_inflateIfNeededFor_a7421_21) <|
  AllB.n)
-- java/lang/String.getBytes([BIB)V
noncomputable def bs_J0_getBytes_840e7 : List rBl := [sq (h_ld isR 0) (sq (h_call 1 (rRecv rFo 0) ev_J0_coder_7d493) (sq (h_ld isI 3) (t_icmp (fun a b => rNot (rEq a b)) 2 1))),
  sq (h_ld isR 0) (sq (h_get rFo 0 0) (sq (h_v (.inl 0)) (sq (h_ld isR 1) (sq (h_ld isI 2) (sq (h_ld isI 3) (sq (h_bin okSh rShl) (sq (h_ld isR 0) (sq (h_get rFo 0 0) (sq (h_alen rFo) (sq (h_acopy rFo) (t_go 3))))))))))),
  t_no,
  t_ret]
noncomputable def ev_J0_getBytes_840e7 : rEv := fun as w n => rIni 4 as (fun ls => rRun bs_J0_getBytes_840e7 100000 0 ls [] w n 0)
set_option maxRecDepth 100000 in
set_option maxHeartbeats 4000000 in
theorem ok_J0_getBytes_840e7 (l : Launch) : rMet vwCl rFo rZs rRs rNs rTs l yJ0_getBytes_840e7 cJ0_getBytes_840e7 4 ((Option.none : Option FieldType)) 1 100 ev_J0_getBytes_840e7 := met_of (pcs := [0, 8, 28, 43]) (by decide +kernel) rfl (fun G n0 =>
  AllB.c (pb := 0) (
    BS.sq (pc' := 1) (s_aload_n (k := 0) 0 rfl dJ0_getBytes_840e7_0) <|
    BS.sq (pc' := 4) (s_callV 0 0 kc0 (ok_J0_coder_7d493 l) kGood kw41 kw42 kw43 kw44 kw40 (by decide +kernel) (by decide) (by decide) dJ0_getBytes_840e7_1) <|
    BS.sq (pc' := 5) (s_iload_n (k := 3) 3 rfl dJ0_getBytes_840e7_4) <|
    s_icmp_ne rfl rfl (by decide) dJ0_getBytes_840e7_5) <|
  AllB.c (pb := 8) (
    BS.sq (pc' := 9) (s_aload_n (k := 0) 0 rfl dJ0_getBytes_840e7_8) <|
    BS.sq (pc' := 12) (s_get 0 inJ0 kc0 (by decide) kw39 rfl dJ0_getBytes_840e7_9) <|
    BS.sq (pc' := 13) (s_iconst 0 (by decide +kernel) dJ0_getBytes_840e7_12) <|
    BS.sq (pc' := 14) (s_aload_n (k := 1) 1 rfl dJ0_getBytes_840e7_13) <|
    BS.sq (pc' := 15) (s_iload_n (k := 2) 2 rfl dJ0_getBytes_840e7_14) <|
    BS.sq (pc' := 16) (s_iload_n (k := 3) 3 rfl dJ0_getBytes_840e7_15) <|
    BS.sq (pc' := 17) (s_ishl dJ0_getBytes_840e7_16) <|
    BS.sq (pc' := 18) (s_aload_n (k := 0) 0 rfl dJ0_getBytes_840e7_17) <|
    BS.sq (pc' := 21) (s_get 0 inJ0 kc0 (by decide) kw39 rfl dJ0_getBytes_840e7_18) <|
    BS.sq (pc' := 22) (s_alen dJ0_getBytes_840e7_21) <|
    BS.sq (pc' := 25) (s_acopy kw334 kw62 kw63 kw64 (by decide) (by decide) dJ0_getBytes_840e7_22) <|
    s_goto rfl (by decide) dJ0_getBytes_840e7_25) <|
  AllB.c (pb := 28) (
    BS.no) <|
  AllB.c (pb := 43) (
    s_ret rfl dJ0_getBytes_840e7_43) <|
  AllB.n)
-- java/lang/AbstractStringBuilder.putStringAt(ILjava/lang/String;)V
noncomputable def bs_J5_putStringAt_47b60 : List rBl := [sq (h_ld isR 0) (sq (h_ld isR 2) (sq (h_call 2 (rRecv rFo 1) ev_J5_inflateIfNeededFor_a7421) (sq (h_ld isR 2) (sq (h_ld isR 0) (sq (h_get rFo 1 0) (sq (h_ld isI 1) (sq (h_ld isR 0) (sq (h_get rFo 1 1) (sq (h_call 4 (rRecv rFo 0) ev_J0_getBytes_840e7) (t_ret))))))))))]
noncomputable def ev_J5_putStringAt_47b60 : rEv := fun as w n => rIni 3 as (fun ls => rRun bs_J5_putStringAt_47b60 100000 0 ls [] w n 0)
set_option maxRecDepth 100000 in
set_option maxHeartbeats 4000000 in
theorem ok_J5_putStringAt_47b60 (l : Launch) : rMet vwCl rFo rZs rRs rNs rTs l yJ5_putStringAt_47b60 cJ5_putStringAt_47b60 3 ((Option.none : Option FieldType)) 2 123 ev_J5_putStringAt_47b60 := met_of (pcs := [0]) (by decide +kernel) rfl (fun G n0 =>
  AllB.c (pb := 0) (
    BS.sq (pc' := 1) (s_aload_n (k := 0) 0 rfl dJ5_putStringAt_47b60_0) <|
    BS.sq (pc' := 2) (s_aload_n (k := 2) 2 rfl dJ5_putStringAt_47b60_1) <|
    BS.sq (pc' := 5) (s_callU (x := ⟨"java/lang/AbstractStringBuilde\x72", "inflateIfNeededFo\x72", "(Ljava/lang/String;)V"⟩) (owner := "java/lang/AbstractStringBuilde\x72") 1 1 kc1 (ok_J5_inflateIfNeededFor_a7421 l) kGood kw336 kw337 kw338 kw339 kw332 kw335 rfl (by decide +kernel) (by decide) (by decide) dJ5_putStringAt_47b60_2) <|
    BS.sq (pc' := 6) (s_aload_n (k := 2) 2 rfl dJ5_putStringAt_47b60_5) <|
    BS.sq (pc' := 7) (s_aload_n (k := 0) 0 rfl dJ5_putStringAt_47b60_6) <|
    BS.sq (pc' := 10) (s_get 0 inJ4 kc1 (by decide) kw327 rfl dJ5_putStringAt_47b60_7) <|
    BS.sq (pc' := 11) (s_iload_n (k := 1) 1 rfl dJ5_putStringAt_47b60_10) <|
    BS.sq (pc' := 12) (s_aload_n (k := 0) 0 rfl dJ5_putStringAt_47b60_11) <|
    BS.sq (pc' := 15) (s_get 1 inJ4 kc1 (by decide) kw328 rfl dJ5_putStringAt_47b60_12) <|
    BS.sq (pc' := 18) (s_callV 3 0 kc0 (ok_J0_getBytes_840e7 l) kGood kw341 kw342 kw343 kw44 kw340 (by decide +kernel) (by decide) (by decide) dJ5_putStringAt_47b60_15) <|
    s_ret rfl dJ5_putStringAt_47b60_18) <|
  AllB.n)
-- java/lang/AbstractStringBuilder.append(Ljava/lang/String;)Ljava/lang/AbstractStringBuilder;
noncomputable def bs_J5_append_cf1ce : List rBl := [sq (h_ld isR 1) (t_nul rFo 1 2),
  t_no,
  sq (h_ld isR 1) (sq (h_call 1 (rRecv rFo 0) ev_J0_length_8abf5) (sq (h_st isI 2) (sq (h_ld isR 0) (sq (h_ld isR 0) (sq (h_get rFo 1 3) (sq (h_ld isI 2) (sq (h_bin (fun _ _ => true) rAdd) (sq (h_call 2 (rRecv rFo 1) ev_J5_ensureCapacityInternal_d00df) (sq (h_ld isR 0) (sq (h_ld isR 0) (sq (h_get rFo 1 3) (sq (h_ld isR 1) (sq (h_call 3 (rRecv rFo 1) ev_J5_putStringAt_47b60) (sq (h_ld isR 0) (sq (h_dup) (sq (h_get rFo 1 3) (sq (h_ld isI 2) (sq (h_bin (fun _ _ => true) rAdd) (sq (h_put 1 3 isI) (sq (h_ld isR 0) (t_retv isR)))))))))))))))))))))]
noncomputable def ev_J5_append_cf1ce : rEv := fun as w n => rIni 3 as (fun ls => rRun bs_J5_append_cf1ce 100000 0 ls [] w n 0)
set_option maxRecDepth 100000 in
set_option maxHeartbeats 4000000 in
theorem ok_J5_append_cf1ce (l : Launch) : rMet vwCl rFo rZs rRs rNs rTs l yJ5_append_cf1ce cJ5_append_cf1ce 3 ((Option.some (FieldType.object "java/lang/AbstractStringBuilde\x72"))) 3 145 ev_J5_append_cf1ce := met_of (pcs := [0, 4, 9]) (by decide +kernel) rfl (fun G n0 =>
  AllB.c (pb := 0) (
    BS.sq (pc' := 1) (s_aload_n (k := 1) 1 rfl dJ5_append_cf1ce_0) <|
    s_ifnonnull rfl rfl (by decide) dJ5_append_cf1ce_1) <|
  AllB.c (pb := 4) (
    BS.no) <|
  AllB.c (pb := 9) (
    BS.sq (pc' := 10) (s_aload_n (k := 1) 1 rfl dJ5_append_cf1ce_9) <|
    BS.sq (pc' := 13) (s_callV 0 0 kc0 (ok_J0_length_8abf5 l) kGood kw344 kw67 kw68 kw44 kw65 (by decide +kernel) (by decide) (by decide) dJ5_append_cf1ce_10) <|
    BS.sq (pc' := 14) (s_istore_n (k := 2) 2 rfl (by decide) dJ5_append_cf1ce_13) <|
    BS.sq (pc' := 15) (s_aload_n (k := 0) 0 rfl dJ5_append_cf1ce_14) <|
    BS.sq (pc' := 16) (s_aload_n (k := 0) 0 rfl dJ5_append_cf1ce_15) <|
    BS.sq (pc' := 19) (s_get 3 inJ4 kc1 (by decide) kw345 rfl dJ5_append_cf1ce_16) <|
    BS.sq (pc' := 20) (s_iload_n (k := 2) 2 rfl dJ5_append_cf1ce_19) <|
    BS.sq (pc' := 21) (s_iadd dJ5_append_cf1ce_20) <|
    BS.sq (pc' := 24) (s_callU (x := ⟨"java/lang/AbstractStringBuilde\x72", "ensureCapacityInternal", "(I)V"⟩) (owner := "java/lang/AbstractStringBuilde\x72") 1 1 kc1 (ok_J5_ensureCapacityInternal_d00df l) kGood kw347 kw348 kw349 kw350 kw332 kw346 rfl (by decide +kernel) (by decide) (by decide) dJ5_append_cf1ce_21) <|
    BS.sq (pc' := 25) (s_aload_n (k := 0) 0 rfl dJ5_append_cf1ce_24) <|
    BS.sq (pc' := 26) (s_aload_n (k := 0) 0 rfl dJ5_append_cf1ce_25) <|
    BS.sq (pc' := 29) (s_get 3 inJ4 kc1 (by decide) kw345 rfl dJ5_append_cf1ce_26) <|
    BS.sq (pc' := 30) (s_aload_n (k := 1) 1 rfl dJ5_append_cf1ce_29) <|
    BS.sq (pc' := 33) (s_callU (x := ⟨"java/lang/AbstractStringBuilde\x72", "putStringAt", "(ILjava/lang/String;)V"⟩) (owner := "java/lang/AbstractStringBuilde\x72") 2 1 kc1 (ok_J5_putStringAt_47b60 l) kGood kw352 kw353 kw354 kw355 kw332 kw351 rfl (by decide +kernel) (by decide) (by decide) dJ5_append_cf1ce_30) <|
    BS.sq (pc' := 34) (s_aload_n (k := 0) 0 rfl dJ5_append_cf1ce_33) <|
    BS.sq (pc' := 35) (s_dup dJ5_append_cf1ce_34) <|
    BS.sq (pc' := 38) (s_get 3 inJ4 kc1 (by decide) kw345 rfl dJ5_append_cf1ce_35) <|
    BS.sq (pc' := 39) (s_iload_n (k := 2) 2 rfl dJ5_append_cf1ce_38) <|
    BS.sq (pc' := 40) (s_iadd dJ5_append_cf1ce_39) <|
    BS.sq (pc' := 43) (s_put tyJ4 3 isI inJ4 tyJ4_ok nmJ4 kc1 (by decide) kw345 rfl rfl (okf_I G) dJ5_append_cf1ce_40) <|
    BS.sq (pc' := 44) (s_aload_n (k := 0) 0 rfl dJ5_append_cf1ce_43) <|
    s_reta rfl (Or.inl ⟨_, rfl⟩) dJ5_append_cf1ce_44) <|
  AllB.n)
-- java/lang/StringBuilder.append(Ljava/lang/String;)Ljava/lang/StringBuilder;
noncomputable def bs_J4_append_15ec4 : List rBl := [sq (h_ld isR 0) (sq (h_ld isR 1) (sq (h_call 2 (rRecv rFo 1) ev_J5_append_cf1ce) (sq (h_pop) (sq (h_ld isR 0) (t_retv isR)))))]
noncomputable def ev_J4_append_15ec4 : rEv := fun as w n => rIni 2 as (fun ls => rRun bs_J4_append_15ec4 100000 0 ls [] w n 0)
set_option maxRecDepth 100000 in
set_option maxHeartbeats 4000000 in
theorem ok_J4_append_15ec4 (l : Launch) : rMet vwCl rFo rZs rRs rNs rTs l yJ4_append_15ec4 cJ4_append_15ec4 2 ((Option.some (FieldType.object "java/lang/StringBuilde\x72"))) 4 167 ev_J4_append_15ec4 := met_of (pcs := [0]) (by decide +kernel) rfl (fun G n0 =>
  AllB.c (pb := 0) (
    BS.sq (pc' := 1) (s_aload_n (k := 0) 0 rfl dJ4_append_15ec4_0) <|
    BS.sq (pc' := 2) (s_aload_n (k := 1) 1 rfl dJ4_append_15ec4_1) <|
    BS.sq (pc' := 5) (s_callSU 1 1 kc1 (ok_J5_append_cf1ce l) kGood kw357 kw358 kw359 kw360 kw332 kw356 (by decide +kernel) (by decide) (by decide) dJ4_append_15ec4_2) <|
    BS.sq (pc' := 6) (s_pop dJ4_append_15ec4_5) <|
    BS.sq (pc' := 7) (s_aload_n (k := 0) 0 rfl dJ4_append_15ec4_6) <|
    s_reta rfl (Or.inl ⟨_, rfl⟩) dJ4_append_15ec4_7) <|
  AllB.n)
-- java/lang/AbstractStringBuilder.getValue()[B
noncomputable def bs_J5_getValue_6d5f1 : List rBl := [sq (h_ld isR 0) (sq (h_get rFo 1 0) (t_retv isR))]
noncomputable def ev_J5_getValue_6d5f1 : rEv := fun as w n => rIni 1 as (fun ls => rRun bs_J5_getValue_6d5f1 100000 0 ls [] w n 0)
set_option maxRecDepth 100000 in
set_option maxHeartbeats 4000000 in
theorem ok_J5_getValue_6d5f1 (l : Launch) : rMet vwCl rFo rZs rRs rNs rTs l yJ5_getValue_6d5f1 cJ5_getValue_6d5f1 1 ((Option.some (FieldType.array FieldType.byte))) 0 0 ev_J5_getValue_6d5f1 := met_of (pcs := [0]) (by decide +kernel) rfl (fun G n0 =>
  AllB.c (pb := 0) (
    BS.sq (pc' := 1) (s_aload_n (k := 0) 0 rfl dJ5_getValue_6d5f1_0) <|
    BS.sq (pc' := 4) (s_get 0 inJ4 kc1 (by decide) kw327 rfl dJ5_getValue_6d5f1_1) <|
    s_reta rfl (Or.inr ⟨_, rfl⟩) dJ5_getValue_6d5f1_4) <|
  AllB.n)
-- java/lang/AbstractStringBuilder.length()I
noncomputable def bs_J5_length_8abf5 : List rBl := [sq (h_ld isR 0) (sq (h_get rFo 1 3) (t_retv isI))]
noncomputable def ev_J5_length_8abf5 : rEv := fun as w n => rIni 1 as (fun ls => rRun bs_J5_length_8abf5 100000 0 ls [] w n 0)
set_option maxRecDepth 100000 in
set_option maxHeartbeats 4000000 in
theorem ok_J5_length_8abf5 (l : Launch) : rMet vwCl rFo rZs rRs rNs rTs l yJ5_length_8abf5 cJ5_length_8abf5 1 ((Option.some FieldType.int)) 0 0 ev_J5_length_8abf5 := met_of (pcs := [0]) (by decide +kernel) rfl (fun G n0 =>
  AllB.c (pb := 0) (
    BS.sq (pc' := 1) (s_aload_n (k := 0) 0 rfl dJ5_length_8abf5_0) <|
    BS.sq (pc' := 4) (s_get 3 inJ4 kc1 (by decide) kw345 rfl dJ5_length_8abf5_1) <|
    s_reti isI rfl okr_I dJ5_length_8abf5_4) <|
  AllB.n)
-- java/lang/StringBuilder.length()I
noncomputable def bs_J4_length_8abf5 : List rBl := [sq (h_ld isR 0) (sq (h_call 1 (rRecv rFo 1) ev_J5_length_8abf5) (t_retv isI))]
noncomputable def ev_J4_length_8abf5 : rEv := fun as w n => rIni 1 as (fun ls => rRun bs_J4_length_8abf5 100000 0 ls [] w n 0)
set_option maxRecDepth 100000 in
set_option maxHeartbeats 4000000 in
theorem ok_J4_length_8abf5 (l : Launch) : rMet vwCl rFo rZs rRs rNs rTs l yJ4_length_8abf5 cJ4_length_8abf5 1 ((Option.some FieldType.int)) 1 20 ev_J4_length_8abf5 := met_of (pcs := [0]) (by decide +kernel) rfl (fun G n0 =>
  AllB.c (pb := 0) (
    BS.sq (pc' := 1) (s_aload_n (k := 0) 0 rfl dJ4_length_8abf5_0) <|
    BS.sq (pc' := 4) (s_callSU 0 1 kc1 (ok_J5_length_8abf5 l) kGood kw362 kw363 kw359 kw364 kw332 kw361 (by decide +kernel) (by decide) (by decide) dJ4_length_8abf5_1) <|
    s_reti isI rfl okr_I dJ4_length_8abf5_4) <|
  AllB.n)
-- java/lang/AbstractStringBuilder.isLatin1()Z
noncomputable def bs_J5_isLatin1_aae02 : List rBl := [sq (h_v (.inl 1)) (t_if (fun a => rEq a 0) 3 1),
  sq (h_ld isR 0) (sq (h_get rFo 1 1) (t_if (fun a => rNot (rEq a 0)) 3 2)),
  sq (h_v (.inl 1)) (t_go 4),
  t_no,
  t_retv isZ]
noncomputable def ev_J5_isLatin1_aae02 : rEv := fun as w n => rIni 1 as (fun ls => rRun bs_J5_isLatin1_aae02 100000 0 ls [] w n 0)
set_option maxRecDepth 100000 in
set_option maxHeartbeats 4000000 in
theorem ok_J5_isLatin1_aae02 (l : Launch) : rMet vwCl rFo rZs rRs rNs rTs l yJ5_isLatin1_aae02 cJ5_isLatin1_aae02 1 ((Option.some FieldType.boolean)) 0 0 ev_J5_isLatin1_aae02 := met_of (pcs := [0, 6, 13, 17, 18]) (by decide +kernel) rfl (fun G n0 =>
  AllB.c (pb := 0) (
    BS.sq (pc' := 3) (s_gets (.inl 1) kz0 kw326 rfl dJ5_isLatin1_aae02_0) <|
    s_if_eq rfl rfl (by decide) dJ5_isLatin1_aae02_3) <|
  AllB.c (pb := 6) (
    BS.sq (pc' := 7) (s_aload_n (k := 0) 0 rfl dJ5_isLatin1_aae02_6) <|
    BS.sq (pc' := 10) (s_get 1 inJ4 kc1 (by decide) kw328 rfl dJ5_isLatin1_aae02_7) <|
    s_if_ne rfl rfl (by decide) dJ5_isLatin1_aae02_10) <|
  AllB.c (pb := 13) (
    BS.sq (pc' := 14) (s_iconst 1 (by decide +kernel) dJ5_isLatin1_aae02_13) <|
    s_goto rfl (by decide) dJ5_isLatin1_aae02_14) <|
  AllB.c (pb := 17) (
    BS.no) <|
  AllB.c (pb := 18) (
    s_reti isZ rfl okr_Z dJ5_isLatin1_aae02_18) <|
  AllB.n)
-- java/lang/String.<init>(Ljava/lang/AbstractStringBuilder;Ljava/lang/Void;)V
noncomputable def bs_J0_init_db425 : List rBl := [sq (h_ld isR 0) (sq (h_oinit) (sq (h_ld isR 1) (sq (h_call 1 (rRecv rFo 1) ev_J5_getValue_6d5f1) (sq (h_st isR 3) (sq (h_ld isR 1) (sq (h_call 1 (rRecv rFo 1) ev_J4_length_8abf5) (sq (h_st isI 4) (sq (h_ld isR 1) (sq (h_call 1 (rRecv rFo 1) ev_J5_isLatin1_aae02) (t_if (fun a => rEq a 0) 2 1)))))))))),
  sq (h_ld isR 0) (sq (h_v (.inl 0)) (sq (h_put 0 1 isB) (sq (h_ld isR 0) (sq (h_ld isR 3) (sq (h_v (.inl 0)) (sq (h_ld isI 4) (sq (h_call 3 rAny ev_J7_copyOfRange_39247) (sq (h_put 0 0 isR) (t_go 6))))))))),
  t_no,
  t_no,
  t_no,
  t_no,
  t_ret]
noncomputable def ev_J0_init_db425 : rEv := fun as w n => rIni 5 as (fun ls => rRun bs_J0_init_db425 100000 0 ls [] w n 0)
set_option maxRecDepth 100000 in
set_option maxHeartbeats 4000000 in
theorem ok_J0_init_db425 (l : Launch) : rMet vwCl rFo rZs rRs rNs rTs l yJ0_init_db425 cJ0_init_db425 5 ((Option.none : Option FieldType)) 3 146 ev_J0_init_db425 := met_of (pcs := [0, 22, 41, 47, 54, 79, 97]) (by decide +kernel) rfl (fun G n0 =>
  AllB.c (pb := 0) (
    BS.sq (pc' := 1) (s_aload_n (k := 0) 0 rfl dJ0_init_db425_0) <|
    BS.sq (pc' := 4) (s_oinit kw292 kw2 kwObj (by decide) (by decide) dJ0_init_db425_1) <|
    BS.sq (pc' := 5) (s_aload_n (k := 1) 1 rfl dJ0_init_db425_4) <|
    BS.sq (pc' := 8) (s_callU (x := ⟨"java/lang/AbstractStringBuilde\x72", "getValue", "()[B"⟩) (owner := "java/lang/AbstractStringBuilde\x72") 0 1 kc1 (ok_J5_getValue_6d5f1 l) kGood kw366 kw367 kw368 kw369 kw332 kw365 rfl (by decide +kernel) (by decide) (by decide) dJ0_init_db425_5) <|
    BS.sq (pc' := 9) (s_astore_n (k := 3) 3 rfl (by decide) dJ0_init_db425_8) <|
    BS.sq (pc' := 10) (s_aload_n (k := 1) 1 rfl dJ0_init_db425_9) <|
    BS.sq (pc' := 13) (s_callO (x := ⟨"java/lang/AbstractStringBuilde\x72", "length", "()I"⟩) (owner := "java/lang/AbstractStringBuilde\x72") 0 1 kc1 (ok_J4_length_8abf5 l) kGood kw371 kw363 kw364 kw372 kw373 kw374 kw370 kw361 (by decide +kernel) (by decide) (by decide) dJ0_init_db425_10) <|
    BS.sq (pc' := 15) (s_istore 4 (by decide) dJ0_init_db425_13) <|
    BS.sq (pc' := 16) (s_aload_n (k := 1) 1 rfl dJ0_init_db425_15) <|
    BS.sq (pc' := 19) (s_callU (x := ⟨"java/lang/AbstractStringBuilde\x72", "isLatin1", "()Z"⟩) (owner := "java/lang/AbstractStringBuilde\x72") 0 1 kc1 (ok_J5_isLatin1_aae02 l) kGood kw376 kw377 kw378 kw379 kw332 kw375 rfl (by decide +kernel) (by decide) (by decide) dJ0_init_db425_16) <|
    s_if_eq rfl rfl (by decide) dJ0_init_db425_19) <|
  AllB.c (pb := 22) (
    BS.sq (pc' := 23) (s_aload_n (k := 0) 0 rfl dJ0_init_db425_22) <|
    BS.sq (pc' := 24) (s_iconst 0 (by decide +kernel) dJ0_init_db425_23) <|
    BS.sq (pc' := 27) (s_putF tyJ0 1 isB inJ0 tyJ0_ok nmJ0 kc0 (by decide) kw38 rfl rfl rfl rfl (okf_B G) dJ0_init_db425_24) <|
    BS.sq (pc' := 28) (s_aload_n (k := 0) 0 rfl dJ0_init_db425_27) <|
    BS.sq (pc' := 29) (s_aload_n (k := 3) 3 rfl dJ0_init_db425_28) <|
    BS.sq (pc' := 30) (s_iconst 0 (by decide +kernel) dJ0_init_db425_29) <|
    BS.sq (pc' := 32) (s_iload 4 dJ0_init_db425_30) <|
    BS.sq (pc' := 35) (s_callS 3 (ok_J7_copyOfRange_39247 l) kGood kw380 kw297 kw13 kw295 (by decide +kernel) (by decide) (by decide) dJ0_init_db425_32) <|
    BS.sq (pc' := 38) (s_putF tyJ0 0 isR inJ0 tyJ0_ok nmJ0 kc0 (by decide) kw39 rfl rfl rfl rfl (okf_A G _) dJ0_init_db425_35) <|
    s_goto rfl (by decide) dJ0_init_db425_38) <|
  AllB.c (pb := 41) (
    BS.no) <|
  AllB.c (pb := 47) (
    BS.no) <|
  AllB.c (pb := 54) (
    BS.no) <|
  AllB.c (pb := 79) (
    BS.no) <|
  AllB.c (pb := 97) (
    s_ret rfl dJ0_init_db425_97) <|
  AllB.n)
-- java/lang/String.<init>(Ljava/lang/StringBuilder;)V
noncomputable def bs_J0_init_81219 : List rBl := [sq (h_ld isR 0) (sq (h_ld isR 1) (sq (h_v (.inr (.inr 0))) (sq (h_call 3 (rRecv rFo 0) ev_J0_init_db425) (t_ret))))]
noncomputable def ev_J0_init_81219 : rEv := fun as w n => rIni 2 as (fun ls => rRun bs_J0_init_81219 100000 0 ls [] w n 0)
set_option maxRecDepth 100000 in
set_option maxHeartbeats 4000000 in
theorem ok_J0_init_81219 (l : Launch) : rMet vwCl rFo rZs rRs rNs rTs l yJ0_init_81219 cJ0_init_81219 2 ((Option.none : Option FieldType)) 4 170 ev_J0_init_81219 := met_of (pcs := [0]) (by decide +kernel) rfl (fun G n0 =>
  AllB.c (pb := 0) (
    BS.sq (pc' := 1) (s_aload_n (k := 0) 0 rfl dJ0_init_81219_0) <|
    BS.sq (pc' := 2) (s_aload_n (k := 1) 1 rfl dJ0_init_81219_1) <|
    BS.sq (pc' := 3) (s_null dJ0_init_81219_2) <|
    BS.sq (pc' := 6) (s_callI 2 0 kc0 (ok_J0_init_db425 l) kGood kw382 kw383 kw44 kw381 rfl (by decide +kernel) (by decide) (by decide) dJ0_init_81219_3) <|
    s_ret rfl dJ0_init_81219_6) <|
  AllB.n)
-- java/lang/StringBuilder.toString()Ljava/lang/String;
noncomputable def bs_J4_toString_0e30d : List rBl := [sq (h_new 0 4 [.inr (.inr 0), .inl 0, .inl 0, .inl 0]) (sq (h_dup) (sq (h_ld isR 0) (sq (h_call 2 (rRecv rFo 0) ev_J0_init_81219) (t_retv isR))))]
noncomputable def ev_J4_toString_0e30d : rEv := fun as w n => rIni 1 as (fun ls => rRun bs_J4_toString_0e30d 100000 0 ls [] w n 0)
set_option maxRecDepth 100000 in
set_option maxHeartbeats 4000000 in
theorem ok_J4_toString_0e30d (l : Launch) : rMet vwCl rFo rZs rRs rNs rTs l yJ4_toString_0e30d cJ4_toString_0e30d 1 ((Option.some (FieldType.object "java/lang/String"))) 5 191 ev_J4_toString_0e30d := met_of (pcs := [0]) (by decide +kernel) rfl (fun G n0 =>
  AllB.c (pb := 0) (
    BS.sq (pc' := 3) (s_new tyJ0 inJ0 tyJ0_ok kc0 kw384 kw294 kw44 rfl rfl dJ4_toString_0e30d_0) <|
    BS.sq (pc' := 4) (s_dup dJ4_toString_0e30d_3) <|
    BS.sq (pc' := 5) (s_aload_n (k := 0) 0 rfl dJ4_toString_0e30d_4) <|
    BS.sq (pc' := 8) (s_callI 1 0 kc0 (ok_J0_init_81219 l) kGood kw386 kw387 kw44 kw385 rfl (by decide +kernel) (by decide) (by decide) dJ4_toString_0e30d_5) <|
    s_reta rfl (Or.inl ⟨_, rfl⟩) dJ4_toString_0e30d_8) <|
  AllB.n)
-- NativeWorksModel.joined(Ljava/lang/String;Ljava/lang/String;)Ljava/lang/String;
noncomputable def bs_X13_joined : List rBl := [sq (h_new 1 4 [.inr (.inr 0), .inl 0, .inl 0, .inl 0]) (sq (h_dup) (sq (h_call 1 (rRecv rFo 1) ev_J4_init_da8c8) (sq (h_ld isR 0) (sq (h_call 2 (rRecv rFo 1) ev_J4_append_15ec4) (sq (h_ld isR 1) (sq (h_call 2 (rRecv rFo 1) ev_J4_append_15ec4) (sq (h_call 1 (rRecv rFo 1) ev_J4_toString_0e30d) (t_retv isR))))))))]
noncomputable def ev_X13_joined : rEv := fun as w n => rIni 2 as (fun ls => rRun bs_X13_joined 100000 0 ls [] w n 0)
set_option maxRecDepth 100000 in
set_option maxHeartbeats 4000000 in
theorem ok_X13_joined (l : Launch) : rMet vwCl rFo rZs rRs rNs rTs l yX13_joined cX13_joined 2 ((Option.some (FieldType.object "java/lang/String"))) 6 211 ev_X13_joined := met_of (pcs := [0]) (by decide +kernel) rfl (fun G n0 =>
  AllB.c (pb := 0) (
    BS.sq (pc' := 3) (s_new tyJ4 inJ4 tyJ4_ok kc1 kw388 kw389 kw374 rfl rfl dX13_joined_0) <|
    BS.sq (pc' := 4) (s_dup dX13_joined_3) <|
    BS.sq (pc' := 7) (s_callI 0 1 kc1 (ok_J4_init_da8c8 l) kGood kw391 kw392 kw374 kw390 rfl (by decide +kernel) (by decide) (by decide) dX13_joined_4) <|
    BS.sq (pc' := 8) (s_aload_n (k := 0) 0 rfl dX13_joined_7) <|
    BS.sq (pc' := 11) (s_callV 1 1 kc1 (ok_J4_append_15ec4 l) kGood kw394 kw395 kw396 kw374 kw393 (by decide +kernel) (by decide) (by decide) dX13_joined_8) <|
    BS.sq (pc' := 12) (s_aload_n (k := 1) 1 rfl dX13_joined_11) <|
    BS.sq (pc' := 15) (s_callV 1 1 kc1 (ok_J4_append_15ec4 l) kGood kw394 kw395 kw396 kw374 kw393 (by decide +kernel) (by decide) (by decide) dX13_joined_12) <|
    BS.sq (pc' := 18) (s_callV 0 1 kc1 (ok_J4_toString_0e30d l) kGood kw398 kw399 kw400 kw374 kw397 (by decide +kernel) (by decide) (by decide) dX13_joined_15) <|
    s_reta rfl (Or.inl ⟨_, rfl⟩) dX13_joined_18) <|
  AllB.n)
-- NativeWorksModel.conditions(Ljava/lang/String;I)V
noncomputable def bs_X13_conditions : List rBl := [sq (h_v (.inl 20)) (sq (h_anewa) (sq (h_dup) (sq (h_v (.inl 0)) (sq (h_v (.inr (.inr 76))) (sq (h_astS rFo) (sq (h_dup) (sq (h_v (.inl 1)) (sq (h_v (.inr (.inr 80))) (sq (h_astS rFo) (sq (h_dup) (sq (h_v (.inl 2)) (sq (h_v (.inr (.inr 84))) (sq (h_astS rFo) (sq (h_dup) (sq (h_v (.inl 3)) (sq (h_v (.inr (.inr 88))) (sq (h_astS rFo) (sq (h_dup) (sq (h_v (.inl 4)) (sq (h_v (.inr (.inr 92))) (sq (h_astS rFo) (sq (h_dup) (sq (h_v (.inl 5)) (sq (h_v (.inr (.inr 96))) (sq (h_astS rFo) (sq (h_dup) (sq (h_v (.inl 6)) (sq (h_v (.inr (.inr 100))) (sq (h_astS rFo) (sq (h_dup) (sq (h_v (.inl 7)) (sq (h_v (.inr (.inr 104))) (sq (h_astS rFo) (sq (h_dup) (sq (h_v (.inl 8)) (sq (h_v (.inr (.inr 108))) (sq (h_astS rFo) (sq (h_dup) (sq (h_v (.inl 9)) (sq (h_v (.inr (.inr 112))) (sq (h_astS rFo) (sq (h_dup) (sq (h_v (.inl 10)) (sq (h_v (.inr (.inr 116))) (sq (h_astS rFo) (sq (h_dup) (sq (h_v (.inl 11)) (sq (h_v (.inr (.inr 120))) (sq (h_astS rFo) (sq (h_dup) (sq (h_v (.inl 12)) (sq (h_v (.inr (.inr 124))) (sq (h_astS rFo) (sq (h_dup) (sq (h_v (.inl 13)) (sq (h_v (.inr (.inr 128))) (sq (h_astS rFo) (sq (h_dup) (sq (h_v (.inl 14)) (t_go 1)))))))))))))))))))))))))))))))))))))))))))))))))))))))))))),
  sq (h_v (.inr (.inr 132))) (sq (h_astS rFo) (sq (h_dup) (sq (h_v (.inl 15)) (sq (h_v (.inr (.inr 136))) (sq (h_astS rFo) (sq (h_dup) (sq (h_v (.inl 16)) (sq (h_v (.inr (.inr 140))) (sq (h_astS rFo) (sq (h_dup) (sq (h_v (.inl 17)) (sq (h_v (.inr (.inr 144))) (sq (h_astS rFo) (sq (h_dup) (sq (h_v (.inl 18)) (sq (h_v (.inr (.inr 148))) (sq (h_astS rFo) (sq (h_dup) (sq (h_v (.inl 19)) (sq (h_v (.inr (.inr 152))) (sq (h_astS rFo) (sq (h_st isR 3) (sq (h_v (.inl 0)) (sq (h_st isI 4) (t_go 2))))))))))))))))))))))))),
  sq (h_ld isI 4) (sq (h_v (.inl 20)) (t_icmp (fun a b => rNot (rLt a b)) 7 3)),
  sq (h_ld isR 0) (sq (h_ld isR 1) (sq (h_ld isR 3) (sq (h_ld isI 4) (sq (h_ald rFo okA) (sq (h_call 2 rAny ev_X13_joined) (sq (h_ld isI 2) (sq (h_ld isI 4) (sq (h_v (.inl 16)) (t_icmp (fun a b => rNot (rLt a b)) 5 4))))))))),
  sq (h_ld isI 4) (t_go 6),
  sq (h_ld isI 4) (sq (h_v (.inl 14)) (sq (h_bin (fun _ _ => true) rSub) (t_go 6))),
  sq (h_v (.inl 24)) (sq (h_bin okSh rShl) (sq (h_bin (fun _ _ => true) Nat.lor) (sq (h_call 3 (rRecv rFo 15) ev_X13_word) (sq (h_inc 4 1) (t_go 2))))),
  t_ret]
noncomputable def ev_X13_conditions : rEv := fun as w n => rIni 5 as (fun ls => rRun bs_X13_conditions 100000 0 ls [] w n 0)
set_option maxRecDepth 100000 in
set_option maxHeartbeats 4000000 in
theorem ok_X13_conditions (l : Launch) : rMet vwCl rFo rZs rRs rNs rTs l yX13_conditions cX13_conditions 5 ((Option.none : Option FieldType)) 7 232 ev_X13_conditions := met_of (pcs := [0, 100, 143, 150, 167, 172, 177, 190]) (by decide +kernel) rfl (fun G n0 =>
  AllB.c (pb := 0) (
    BS.sq (pc' := 2) (s_bipush 20 (by decide +kernel) dX13_conditions_0) <|
    BS.sq (pc' := 5) (s_anewa kw401 kn1 dX13_conditions_2) <|
    BS.sq (pc' := 6) (s_dup dX13_conditions_5) <|
    BS.sq (pc' := 7) (s_iconst 0 (by decide +kernel) dX13_conditions_6) <|
    BS.sq (pc' := 10) (s_ldcSw 37 kr17 dX13_conditions_7) <|
    BS.sq (pc' := 11) (s_aastS kc0 dX13_conditions_10) <|
    BS.sq (pc' := 12) (s_dup dX13_conditions_11) <|
    BS.sq (pc' := 13) (s_iconst 1 (by decide +kernel) dX13_conditions_12) <|
    BS.sq (pc' := 16) (s_ldcSw 39 kr18 dX13_conditions_13) <|
    BS.sq (pc' := 17) (s_aastS kc0 dX13_conditions_16) <|
    BS.sq (pc' := 18) (s_dup dX13_conditions_17) <|
    BS.sq (pc' := 19) (s_iconst 2 (by decide +kernel) dX13_conditions_18) <|
    BS.sq (pc' := 22) (s_ldcSw 41 kr19 dX13_conditions_19) <|
    BS.sq (pc' := 23) (s_aastS kc0 dX13_conditions_22) <|
    BS.sq (pc' := 24) (s_dup dX13_conditions_23) <|
    BS.sq (pc' := 25) (s_iconst 3 (by decide +kernel) dX13_conditions_24) <|
    BS.sq (pc' := 28) (s_ldcSw 43 kr20 dX13_conditions_25) <|
    BS.sq (pc' := 29) (s_aastS kc0 dX13_conditions_28) <|
    BS.sq (pc' := 30) (s_dup dX13_conditions_29) <|
    BS.sq (pc' := 31) (s_iconst 4 (by decide +kernel) dX13_conditions_30) <|
    BS.sq (pc' := 34) (s_ldcSw 45 kr21 dX13_conditions_31) <|
    BS.sq (pc' := 35) (s_aastS kc0 dX13_conditions_34) <|
    BS.sq (pc' := 36) (s_dup dX13_conditions_35) <|
    BS.sq (pc' := 37) (s_iconst 5 (by decide +kernel) dX13_conditions_36) <|
    BS.sq (pc' := 40) (s_ldcSw 47 kr22 dX13_conditions_37) <|
    BS.sq (pc' := 41) (s_aastS kc0 dX13_conditions_40) <|
    BS.sq (pc' := 42) (s_dup dX13_conditions_41) <|
    BS.sq (pc' := 44) (s_bipush 6 (by decide +kernel) dX13_conditions_42) <|
    BS.sq (pc' := 47) (s_ldcSw 49 kr23 dX13_conditions_44) <|
    BS.sq (pc' := 48) (s_aastS kc0 dX13_conditions_47) <|
    BS.sq (pc' := 49) (s_dup dX13_conditions_48) <|
    BS.sq (pc' := 51) (s_bipush 7 (by decide +kernel) dX13_conditions_49) <|
    BS.sq (pc' := 54) (s_ldcSw 51 kr24 dX13_conditions_51) <|
    BS.sq (pc' := 55) (s_aastS kc0 dX13_conditions_54) <|
    BS.sq (pc' := 56) (s_dup dX13_conditions_55) <|
    BS.sq (pc' := 58) (s_bipush 8 (by decide +kernel) dX13_conditions_56) <|
    BS.sq (pc' := 61) (s_ldcSw 53 kr25 dX13_conditions_58) <|
    BS.sq (pc' := 62) (s_aastS kc0 dX13_conditions_61) <|
    BS.sq (pc' := 63) (s_dup dX13_conditions_62) <|
    BS.sq (pc' := 65) (s_bipush 9 (by decide +kernel) dX13_conditions_63) <|
    BS.sq (pc' := 68) (s_ldcSw 55 kr26 dX13_conditions_65) <|
    BS.sq (pc' := 69) (s_aastS kc0 dX13_conditions_68) <|
    BS.sq (pc' := 70) (s_dup dX13_conditions_69) <|
    BS.sq (pc' := 72) (s_bipush 10 (by decide +kernel) dX13_conditions_70) <|
    BS.sq (pc' := 75) (s_ldcSw 57 kr27 dX13_conditions_72) <|
    BS.sq (pc' := 76) (s_aastS kc0 dX13_conditions_75) <|
    BS.sq (pc' := 77) (s_dup dX13_conditions_76) <|
    BS.sq (pc' := 79) (s_bipush 11 (by decide +kernel) dX13_conditions_77) <|
    BS.sq (pc' := 82) (s_ldcSw 59 kr28 dX13_conditions_79) <|
    BS.sq (pc' := 83) (s_aastS kc0 dX13_conditions_82) <|
    BS.sq (pc' := 84) (s_dup dX13_conditions_83) <|
    BS.sq (pc' := 86) (s_bipush 12 (by decide +kernel) dX13_conditions_84) <|
    BS.sq (pc' := 89) (s_ldcSw 61 kr29 dX13_conditions_86) <|
    BS.sq (pc' := 90) (s_aastS kc0 dX13_conditions_89) <|
    BS.sq (pc' := 91) (s_dup dX13_conditions_90) <|
    BS.sq (pc' := 93) (s_bipush 13 (by decide +kernel) dX13_conditions_91) <|
    BS.sq (pc' := 96) (s_ldcSw 63 kr30 dX13_conditions_93) <|
    BS.sq (pc' := 97) (s_aastS kc0 dX13_conditions_96) <|
    BS.sq (pc' := 98) (s_dup dX13_conditions_97) <|
    BS.sq (pc' := 100) (s_bipush 14 (by decide +kernel) dX13_conditions_98) <|
    BS.go rfl) <|
  AllB.c (pb := 100) (
    BS.sq (pc' := 103) (s_ldcSw 65 kr31 dX13_conditions_100) <|
    BS.sq (pc' := 104) (s_aastS kc0 dX13_conditions_103) <|
    BS.sq (pc' := 105) (s_dup dX13_conditions_104) <|
    BS.sq (pc' := 107) (s_bipush 15 (by decide +kernel) dX13_conditions_105) <|
    BS.sq (pc' := 110) (s_ldcSw 67 kr32 dX13_conditions_107) <|
    BS.sq (pc' := 111) (s_aastS kc0 dX13_conditions_110) <|
    BS.sq (pc' := 112) (s_dup dX13_conditions_111) <|
    BS.sq (pc' := 114) (s_bipush 16 (by decide +kernel) dX13_conditions_112) <|
    BS.sq (pc' := 117) (s_ldcSw 69 kr33 dX13_conditions_114) <|
    BS.sq (pc' := 118) (s_aastS kc0 dX13_conditions_117) <|
    BS.sq (pc' := 119) (s_dup dX13_conditions_118) <|
    BS.sq (pc' := 121) (s_bipush 17 (by decide +kernel) dX13_conditions_119) <|
    BS.sq (pc' := 124) (s_ldcSw 71 kr34 dX13_conditions_121) <|
    BS.sq (pc' := 125) (s_aastS kc0 dX13_conditions_124) <|
    BS.sq (pc' := 126) (s_dup dX13_conditions_125) <|
    BS.sq (pc' := 128) (s_bipush 18 (by decide +kernel) dX13_conditions_126) <|
    BS.sq (pc' := 131) (s_ldcSw 73 kr35 dX13_conditions_128) <|
    BS.sq (pc' := 132) (s_aastS kc0 dX13_conditions_131) <|
    BS.sq (pc' := 133) (s_dup dX13_conditions_132) <|
    BS.sq (pc' := 135) (s_bipush 19 (by decide +kernel) dX13_conditions_133) <|
    BS.sq (pc' := 138) (s_ldcSw 75 kr36 dX13_conditions_135) <|
    BS.sq (pc' := 139) (s_aastS kc0 dX13_conditions_138) <|
    BS.sq (pc' := 140) (s_astore_n (k := 3) 3 rfl (by decide) dX13_conditions_139) <|
    BS.sq (pc' := 141) (s_iconst 0 (by decide +kernel) dX13_conditions_140) <|
    BS.sq (pc' := 143) (s_istore 4 (by decide) dX13_conditions_141) <|
    BS.go rfl) <|
  AllB.c (pb := 143) (
    BS.sq (pc' := 145) (s_iload 4 dX13_conditions_143) <|
    BS.sq (pc' := 147) (s_bipush 20 (by decide +kernel) dX13_conditions_145) <|
    s_icmp_ge rfl rfl (by decide) dX13_conditions_147) <|
  AllB.c (pb := 150) (
    BS.sq (pc' := 151) (s_aload_n (k := 0) 0 rfl dX13_conditions_150) <|
    BS.sq (pc' := 152) (s_aload_n (k := 1) 1 rfl dX13_conditions_151) <|
    BS.sq (pc' := 153) (s_aload_n (k := 3) 3 rfl dX13_conditions_152) <|
    BS.sq (pc' := 155) (s_iload 4 dX13_conditions_153) <|
    BS.sq (pc' := 156) (s_aaload dX13_conditions_155) <|
    BS.sq (pc' := 159) (s_callS 2 (ok_X13_joined l) kGood kw403 kw404 kw315 kw402 (by decide +kernel) (by decide) (by decide) dX13_conditions_156) <|
    BS.sq (pc' := 160) (s_iload_n (k := 2) 2 rfl dX13_conditions_159) <|
    BS.sq (pc' := 162) (s_iload 4 dX13_conditions_160) <|
    BS.sq (pc' := 164) (s_bipush 16 (by decide +kernel) dX13_conditions_162) <|
    s_icmp_ge rfl rfl (by decide) dX13_conditions_164) <|
  AllB.c (pb := 167) (
    BS.sq (pc' := 169) (s_iload 4 dX13_conditions_167) <|
    s_goto rfl (by decide) dX13_conditions_169) <|
  AllB.c (pb := 172) (
    BS.sq (pc' := 174) (s_iload 4 dX13_conditions_172) <|
    BS.sq (pc' := 176) (s_bipush 14 (by decide +kernel) dX13_conditions_174) <|
    BS.sq (pc' := 177) (s_isub dX13_conditions_176) <|
    BS.go rfl) <|
  AllB.c (pb := 177) (
    BS.sq (pc' := 179) (s_bipush 24 (by decide +kernel) dX13_conditions_177) <|
    BS.sq (pc' := 180) (s_ishl dX13_conditions_179) <|
    BS.sq (pc' := 181) (s_ior dX13_conditions_180) <|
    BS.sq (pc' := 184) (s_callV 2 15 kc15 (ok_X13_word l) kGood kw322 kw323 kw324 kw315 kw321 (by decide +kernel) (by decide) (by decide) dX13_conditions_181) <|
    BS.sq (pc' := 187) (s_iinc 4 1 (1) (by decide +kernel) (by decide) dX13_conditions_184) <|
    s_goto rfl (by decide) dX13_conditions_187) <|
  AllB.c (pb := 190) (
    s_ret rfl dX13_conditions_190) <|
  AllB.n)
