/-! A RUN LAID DOWN: NativeWorks.<init> -/
set_option maxRecDepth 1000000 in
set_option maxHeartbeats 40000000 in
noncomputable def me_X11_init_0 : rMe := (([.inr (.inr 1)], ([(0, .inl (13, [.inr (.inr 0), .inr (.inr 0), .inr (.inr 0), .inr (.inr 0), .inr (.inr 0), .inl 0, .inl 0, .inl 0, .inl 0]))], 1)), (Option.none, ([(13453, .inr (1, 16, .inr (.inl 0), [])),
  (13451, .inr (2, 65536, .inl 0, [])),
  (13450, .inr (1, 16, .inr (.inl 0), [])),
  (13439, .inl (8, [.inr (.inr 26881), .inr (.inr 26883), .inr (.inr 26885), .inl 0, .inr (.inl 0), .inr (.inl 0), .inr (.inl 0), .inr (.inl 0), .inr (.inl 0), .inr (.inl 0), .inr (.inl 4194304), .inr (.inl 4194304)])),
  (13438, .inl (7, [.inr (.inr 26879), .inr (.inr 26887), .inr (.inr 26901), .inr (.inr 26903), .inr (.inr 26905), .inr (.inr 26907), .inr (.inl 0), .inl 0, .inl 0, .inl 0, .inl 0, .inl 0, .inr (.inl 0), .inl 0, .inr (.inl 0), .inr (.inl 0), .inr (.inl 0)])),
  (13436, .inr (0, 1024, .inl 4294967295, [])),
  (13431, .inl (9, [.inr (.inr 26865), .inr (.inr 26867), .inr (.inr 26869), .inr (.inr 26871), .inr (.inr 26873), .inl 0])),
  (13430, .inr (0, 131072, .inl 4294967295, [])),
  (13422, .inl (6, [.inr (.inr 5), .inr (.inr 26847), .inr (.inr 26849), .inr (.inr 26851), .inr (.inr 26853), .inr (.inr 26855), .inr (.inr 26857), .inr (.inr 26859), .inr (.inr 26861), .inr (.inr 26863), .inr (.inr 26875), .inl 0, .inl 0, .inl 0, .inl 0, .inl 0, .inl 0, .inl 0])),
  (13407, .inl (3, [.inr (.inr 26731), .inr (.inr 5), .inr (.inr 26817), .inr (.inr 26819), .inr (.inr 26821), .inr (.inr 26823), .inr (.inr 26825), .inr (.inr 26827), .inl 0, .inl 0, .inl 0])),
  (13400, .inr (0, 21, .inl 0, [])),
  (13399, .inr (0, 21, .inl 0, [])),
  (13398, .inr (0, 21, .inl 0, [])),
  (13397, .inr (0, 21, .inl 0, [])),
  (13396, .inr (0, 21, .inl 0, [])),
  (13395, .inr (0, 21, .inl 0, [])),
  (13384, .inl (9, [.inr (.inr 26771), .inr (.inr 26773), .inr (.inr 26775), .inr (.inr 26777), .inr (.inr 26779), .inl 0])),
  (13383, .inr (0, 65538, .inl 0, [])),
  (13382, .inr (0, 65538, .inl 0, [])),
  (13381, .inr (0, 65538, .inl 0, [])),
  (13379, .inr (0, 65538, .inl 0, [])),
  (13378, .inl (11, [.inr (.inr 3), .inr (.inr 26735), .inr (.inr 26759), .inr (.inr 26761), .inr (.inr 26763), .inr (.inr 26765), .inr (.inr 26767), .inr (.inr 26769), .inr (.inr 26781), .inr (.inr 26783), .inr (.inr 26785), .inr (.inr 26787), .inr (.inr 26789), .inl 0])),
  (13377, .inl (10, [.inr (.inr 26757), .inr (.inr 26731), .inl 0, .inr (.inr 26791), .inr (.inr 26793), .inr (.inr 26795), .inr (.inr 26797), .inr (.inr 26799), .inr (.inr 26801), .inr (.inr 26803), .inr (.inr 26805), .inr (.inr 26807), .inr (.inr 26809), .inr (.inr 26811), .inr (.inr 26813), .inl 0, .inl 0, .inl 0, .inl 0, .inl 0])),
  (13364, .inl (2, [.inr (.inr 26731), .inr (.inr 26755), .inr (.inr 5), .inr (.inr 26815), .inr (.inr 26829), .inr (.inr 26843), .inl 0, .inl 0, .inl 0, .inl 0, .inl 0, .inl 0, .inl 0, .inl 0, .inl 0])),
  (13363, .inr (0, 4, .inl 0, [])),
  (13329, .inr (5, 33, .inr (.inr 0), [(0, [(32, .inr (.inr 26725)), (31, .inr (.inr 26723)), (30, .inr (.inr 26721)), (29, .inr (.inr 26719)), (28, .inr (.inr 26717)), (27, .inr (.inr 26715)), (26, .inr (.inr 26713)), (25, .inr (.inr 26711)), (24, .inr (.inr 26709)), (23, .inr (.inr 26707)), (22, .inr (.inr 26705)), (21, .inr (.inr 26703)), (20, .inr (.inr 26701)), (19, .inr (.inr 26699)), (18, .inr (.inr 26697)), (17, .inr (.inr 26695)), (16, .inr (.inr 26693)), (15, .inr (.inr 26691)), (14, .inr (.inr 26689)), (13, .inr (.inr 26687)), (12, .inr (.inr 26685)), (11, .inr (.inr 26683)), (10, .inr (.inr 26681)), (9, .inr (.inr 26679)), (8, .inr (.inr 26677)), (7, .inr (.inr 26675)), (6, .inr (.inr 26673)), (5, .inr (.inr 26671)), (4, .inr (.inr 26669)), (3, .inr (.inr 26667)), (2, .inr (.inr 26665)), (1, .inr (.inr 26663)), (0, .inr (.inr 26661))])])),
  (13330, .inr (0, 17, .inl 0, [])),
  (13331, .inr (0, 17, .inl 0, [])),
  (13328, .inr (2, 131072, .inl 0, [])),
  (8, .inr (0, 1024, .inl 4294967295, [])),
  (3, .inl (9, [.inr (.inr 9), .inr (.inr 11), .inr (.inr 13), .inr (.inr 15), .inr (.inr 17), .inl 0])),
  (2, .inl (12, [.inr (.inr 7), .inr (.inr 19), .inr (.inr 2069), .inr (.inr 2071), .inr (.inr 2073), .inr (.inr 18459), .inr (.inr 26653), .inr (.inr 26655), .inr (.inr 26657), .inr (.inr 26659), .inr (.inr 26727), .inl 0, .inl 0, .inl 0, .inl 0, .inl 0, .inl 0, .inl 0, .inl 0])),
  (1, .inr (2, 65536, .inl 0, [])),
  (0, .inl (13, [.inr (.inr 3), .inr (.inr 5), .inr (.inr 26729), .inr (.inr 26845), .inr (.inr 26877), .inl 0, .inl 0, .inl 0, .inl 4294967295]))], (13454, 2053960))))
set_option maxRecDepth 1000000 in
set_option maxHeartbeats 40000000 in
theorem mc_X11_init_0 : rM1 ev_X11_init me_X11_init_0 = true := by decide +kernel
noncomputable def mev_X11_init : rEv := rMemo [me_X11_init_0]
theorem mok_X11_init (l : Launch) : rMet vwCl rFo rZs rRs rNs rTs l yX11_init cX11_init 3 ((Option.none : Option FieldType)) 7 191 mev_X11_init := met_memo (ok_X11_init l) _ (List.forall_mem_cons.mpr ⟨mc_X11_init_0, fun _ h => absurd h List.not_mem_nil⟩)
