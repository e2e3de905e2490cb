/-! A RUN LAID DOWN: NativeWorks$Line.<init> -/
set_option maxRecDepth 1000000 in
set_option maxHeartbeats 40000000 in
noncomputable def me_X3_init_0 : rMe := (([.inr (.inr 26731)], ([(13365, .inl (5, [.inr (.inr 0), .inr (.inr 0), .inr (.inr 0), .inr (.inr 0), .inr (.inr 0), .inr (.inr 0), .inl 0, .inl 0, .inl 0, .inl 0])),
  (13364, .inl (2, [.inr (.inr 0), .inr (.inr 0), .inr (.inr 0), .inr (.inr 0), .inr (.inr 0), .inr (.inr 0), .inl 0, .inl 0, .inl 0, .inl 0, .inl 0, .inl 0, .inl 0, .inl 0, .inl 0])),
  (13363, .inr (0, 4, .inl 0, [])),
  (13329, .inr (5, 33, .inr (.inr 0), [(0, [(32, .inr (.inr 26725)), (31, .inr (.inr 26723)), (30, .inr (.inr 26721)), (29, .inr (.inr 26719)), (28, .inr (.inr 26717)), (27, .inr (.inr 26715)), (26, .inr (.inr 26713)), (25, .inr (.inr 26711)), (24, .inr (.inr 26709)), (23, .inr (.inr 26707)), (22, .inr (.inr 26705)), (21, .inr (.inr 26703)), (20, .inr (.inr 26701)), (19, .inr (.inr 26699)), (18, .inr (.inr 26697)), (17, .inr (.inr 26695)), (16, .inr (.inr 26693)), (15, .inr (.inr 26691)), (14, .inr (.inr 26689)), (13, .inr (.inr 26687)), (12, .inr (.inr 26685)), (11, .inr (.inr 26683)), (10, .inr (.inr 26681)), (9, .inr (.inr 26679)), (8, .inr (.inr 26677)), (7, .inr (.inr 26675)), (6, .inr (.inr 26673)), (5, .inr (.inr 26671)), (4, .inr (.inr 26669)), (3, .inr (.inr 26667)), (2, .inr (.inr 26665)), (1, .inr (.inr 26663)), (0, .inr (.inr 26661))])])),
  (13330, .inr (0, 17, .inl 0, [])),
  (13331, .inr (0, 17, .inl 0, [])),
  (13328, .inr (2, 131072, .inl 0, [])),
  (13327, .inr (2, 131072, .inl 0, [])),
  (13326, .inr (1, 4096, .inr (.inl 0), [])),
  (1035, .inr (0, 1024, .inl 0, [])),
  (1034, .inr (1, 1024, .inr (.inl 0), [])),
  (8, .inr (0, 1024, .inl 4294967295, [])),
  (7, .inr (0, 1024, .inl 0, [])),
  (6, .inr (0, 1024, .inl 0, [])),
  (5, .inr (0, 1025, .inl 0, [])),
  (4, .inr (2, 129024, .inl 0, [])),
  (3, .inl (9, [.inr (.inr 9), .inr (.inr 11), .inr (.inr 13), .inr (.inr 15), .inr (.inr 17), .inl 0])),
  (2, .inl (12, [.inr (.inr 7), .inr (.inr 19), .inr (.inr 2069), .inr (.inr 2071), .inr (.inr 2073), .inr (.inr 18459), .inr (.inr 26653), .inr (.inr 26655), .inr (.inr 26657), .inr (.inr 26659), .inr (.inr 26727), .inl 0, .inl 0, .inl 0, .inl 0, .inl 0, .inl 0, .inl 0, .inl 0])),
  (1, .inr (2, 65536, .inl 0, [])),
  (0, .inl (13, [.inr (.inr 3), .inr (.inr 5), .inr (.inr 0), .inr (.inr 0), .inr (.inr 0), .inl 0, .inl 0, .inl 0, .inl 0]))], 13366)), (Option.none, ([(13365, .inl (5, [.inr (.inr 26733), .inr (.inr 26735), .inr (.inr 26747), .inr (.inr 26749), .inr (.inr 26751), .inr (.inr 26753), .inl 0, .inl 0, .inl 0, .inl 0])),
  (13364, .inl (2, [.inr (.inr 0), .inr (.inr 0), .inr (.inr 0), .inr (.inr 0), .inr (.inr 0), .inr (.inr 0), .inl 0, .inl 0, .inl 0, .inl 0, .inl 0, .inl 0, .inl 0, .inl 0, .inl 0])),
  (13363, .inr (0, 4, .inl 0, [])),
  (13329, .inr (5, 33, .inr (.inr 0), [(0, [(32, .inr (.inr 26725)), (31, .inr (.inr 26723)), (30, .inr (.inr 26721)), (29, .inr (.inr 26719)), (28, .inr (.inr 26717)), (27, .inr (.inr 26715)), (26, .inr (.inr 26713)), (25, .inr (.inr 26711)), (24, .inr (.inr 26709)), (23, .inr (.inr 26707)), (22, .inr (.inr 26705)), (21, .inr (.inr 26703)), (20, .inr (.inr 26701)), (19, .inr (.inr 26699)), (18, .inr (.inr 26697)), (17, .inr (.inr 26695)), (16, .inr (.inr 26693)), (15, .inr (.inr 26691)), (14, .inr (.inr 26689)), (13, .inr (.inr 26687)), (12, .inr (.inr 26685)), (11, .inr (.inr 26683)), (10, .inr (.inr 26681)), (9, .inr (.inr 26679)), (8, .inr (.inr 26677)), (7, .inr (.inr 26675)), (6, .inr (.inr 26673)), (5, .inr (.inr 26671)), (4, .inr (.inr 26669)), (3, .inr (.inr 26667)), (2, .inr (.inr 26665)), (1, .inr (.inr 26663)), (0, .inr (.inr 26661))])])),
  (13330, .inr (0, 17, .inl 0, [])),
  (13331, .inr (0, 17, .inl 0, [])),
  (13328, .inr (2, 131072, .inl 0, [])),
  (8, .inr (0, 1024, .inl 4294967295, [])),
  (3, .inl (9, [.inr (.inr 9), .inr (.inr 11), .inr (.inr 13), .inr (.inr 15), .inr (.inr 17), .inl 0])),
  (2, .inl (12, [.inr (.inr 7), .inr (.inr 19), .inr (.inr 2069), .inr (.inr 2071), .inr (.inr 2073), .inr (.inr 18459), .inr (.inr 26653), .inr (.inr 26655), .inr (.inr 26657), .inr (.inr 26659), .inr (.inr 26727), .inl 0, .inl 0, .inl 0, .inl 0, .inl 0, .inl 0, .inl 0, .inl 0])),
  (1, .inr (2, 65536, .inl 0, [])),
  (0, .inl (13, [.inr (.inr 3), .inr (.inr 5), .inr (.inr 0), .inr (.inr 0), .inr (.inr 0), .inl 0, .inl 0, .inl 0, .inl 0]))], (13377, 7959))))
set_option maxRecDepth 1000000 in
set_option maxHeartbeats 40000000 in
theorem mc_X3_init_0 : rM1 ev_X3_init me_X3_init_0 = true := by decide +kernel
noncomputable def mev_X3_init : rEv := rMemo [me_X3_init_0]
theorem mok_X3_init (l : Launch) : rMet vwCl rFo rZs rRs rNs rTs l yX3_init cX3_init 1 ((Option.none : Option FieldType)) 5 148 mev_X3_init := met_memo (ok_X3_init l) _ (List.forall_mem_cons.mpr ⟨mc_X3_init_0, fun _ h => absurd h List.not_mem_nil⟩)
