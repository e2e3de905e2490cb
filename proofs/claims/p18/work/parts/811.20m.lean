/-! METHODS -/
-- NativeWorksModel.<init>()V
noncomputable def bs_X13_init : List rBl := [sq (h_ld isR 0) (sq (h_oinit) (sq (h_ld isR 0) (sq (h_v (.inl 65536)) (sq (h_newa 2 (.inl 0)) (sq (h_put 15 1 isR) (sq (h_ld isR 0) (sq (h_v (.inl 200)) (sq (h_newa 1 (.inr (.inl 0))) (sq (h_put 15 5 isR) (sq (h_ld isR 0) (sq (h_v (.inl 50)) (sq (h_newa 1 (.inr (.inl 0))) (sq (h_put 15 6 isR) (sq (h_ld isR 0) (sq (h_v (.inl 200)) (sq (h_newa 0 (.inl 0)) (sq (h_put 15 7 isR) (sq (h_ld isR 0) (sq (h_v (.inl 50)) (sq (h_newa 0 (.inl 0)) (sq (h_put 15 8 isR) (sq (h_ld isR 0) (sq (h_v (.inl 1025)) (sq (h_newa 0 (.inl 0)) (sq (h_put 15 21 isR) (sq (h_ld isR 0) (sq (h_v (.inl 32)) (sq (h_newa 3 (.inl 0)) (sq (h_put 15 22 isR) (sq (h_ld isR 0) (sq (h_v (.inl 33)) (sq (h_newa 0 (.inl 0)) (sq (h_put 15 23 isR) (sq (h_ld isR 0) (sq (h_v (.inl 33)) (sq (h_newa 0 (.inl 0)) (sq (h_put 15 24 isR) (sq (h_ld isR 0) (sq (h_v (.inl 33)) (sq (h_newa 0 (.inl 0)) (sq (h_put 15 25 isR) (sq (h_ld isR 0) (sq (h_v (.inl 128)) (sq (h_newa 0 (.inl 0)) (sq (h_put 15 26 isR) (sq (h_ld isR 0) (sq (h_v (.inl 128)) (sq (h_newa 3 (.inl 0)) (sq (h_put 15 27 isR) (sq (h_ld isR 0) (sq (h_v (.inl 4294967295)) (sq (h_put 15 30 isI) (sq (h_ld isR 0) (sq (h_v (.inl 129024)) (sq (h_newa 2 (.inl 0)) (sq (h_put 15 33 isR) (sq (h_ld isR 0) (sq (h_v (.inl 1025)) (sq (h_newa 0 (.inl 0)) (t_go 1)))))))))))))))))))))))))))))))))))))))))))))))))))))))))))),
  sq (h_put 15 34 isR) (sq (h_ld isR 0) (sq (h_v (.inl 1025)) (sq (h_newa 0 (.inl 0)) (sq (h_put 15 35 isR) (sq (h_ld isR 0) (sq (h_v (.inl 1025)) (sq (h_newa 1 (.inr (.inl 0))) (sq (h_put 15 36 isR) (sq (h_ld isR 0) (sq (h_v (.inl 1025)) (sq (h_newa 0 (.inl 0)) (sq (h_put 15 37 isR) (sq (h_ld isR 0) (sq (h_v (.inl 1025)) (sq (h_newa 3 (.inl 0)) (sq (h_put 15 38 isR) (sq (h_ld isR 0) (sq (h_v (.inl 1025)) (sq (h_newa 3 (.inl 0)) (sq (h_put 15 39 isR) (sq (h_ld isR 0) (sq (h_v (.inl 1025)) (sq (h_newa 3 (.inl 0)) (sq (h_put 15 40 isR) (sq (h_ld isR 0) (sq (h_v (.inl 1025)) (sq (h_newa 3 (.inl 0)) (sq (h_put 15 41 isR) (sq (h_ld isR 0) (sq (h_v (.inl 1025)) (sq (h_newa 1 (.inr (.inl 0))) (sq (h_put 15 42 isR) (sq (h_ld isR 0) (sq (h_v (.inl 9218)) (sq (h_newa 2 (.inl 0)) (sq (h_put 15 45 isR) (sq (h_ld isR 0) (sq (h_v (.inl 9218)) (sq (h_newa 2 (.inl 0)) (sq (h_put 15 46 isR) (sq (h_ld isR 0) (sq (h_v (.inl 9218)) (sq (h_newa 0 (.inl 0)) (sq (h_put 15 47 isR) (sq (h_ld isR 0) (sq (h_v (.inl 9218)) (sq (h_newa 0 (.inl 0)) (sq (h_put 15 48 isR) (sq (h_ld isR 0) (sq (h_v (.inl 9218)) (sq (h_newa 0 (.inl 0)) (sq (h_put 15 49 isR) (sq (h_ld isR 0) (sq (h_v (.inl 9218)) (sq (h_newa 0 (.inl 0)) (sq (h_put 15 50 isR) (sq (h_ld isR 0) (sq (h_v (.inl 9218)) (sq (h_newa 1 (.inr (.inl 0))) (t_go 2)))))))))))))))))))))))))))))))))))))))))))))))))))))))))))),
  sq (h_put 15 51 isR) (sq (h_ld isR 0) (sq (h_v (.inl 9218)) (sq (h_newa 0 (.inl 0)) (sq (h_put 15 52 isR) (sq (h_ld isR 0) (sq (h_v (.inl 9218)) (sq (h_newa 1 (.inr (.inl 0))) (sq (h_put 15 53 isR) (sq (h_ld isR 0) (sq (h_v (.inl 132172)) (sq (h_newa 2 (.inl 0)) (sq (h_put 15 56 isR) (sq (h_ld isR 0) (sq (h_v (.inl 4104)) (sq (h_newa 0 (.inl 0)) (sq (h_put 15 58 isR) (sq (h_ld isR 0) (sq (h_v (.inl 4104)) (sq (h_newa 0 (.inl 0)) (sq (h_put 15 59 isR) (sq (h_ld isR 0) (sq (h_v (.inl 4104)) (sq (h_newa 0 (.inl 0)) (sq (h_put 15 60 isR) (sq (h_ld isR 0) (sq (h_v (.inl 4104)) (sq (h_newa 0 (.inl 0)) (sq (h_put 15 61 isR) (sq (h_ld isR 0) (sq (h_v (.inl 4104)) (sq (h_newa 2 (.inl 0)) (sq (h_put 15 62 isR) (sq (h_ld isR 0) (sq (h_v (.inl 4104)) (sq (h_newa 2 (.inl 0)) (sq (h_put 15 63 isR) (sq (h_ld isR 0) (sq (h_v (.inl 4104)) (sq (h_newa 1 (.inr (.inl 0))) (sq (h_put 15 64 isR) (sq (h_ld isR 0) (sq (h_v (.inl 1100)) (sq (h_newa 2 (.inl 0)) (sq (h_put 15 78 isR) (sq (h_ld isR 0) (sq (h_v (.inl 24)) (sq (h_newa 0 (.inl 0)) (sq (h_put 15 81 isR) (sq (h_ld isR 0) (sq (h_v (.inl 24)) (sq (h_newa 0 (.inl 0)) (sq (h_put 15 82 isR) (sq (h_ld isR 0) (sq (h_v (.inl 24)) (sq (h_newa 0 (.inl 0)) (sq (h_put 15 83 isR) (sq (h_ld isR 0) (sq (h_v (.inl 24)) (sq (h_newa 0 (.inl 0)) (t_go 3)))))))))))))))))))))))))))))))))))))))))))))))))))))))))))),
  sq (h_put 15 84 isR) (sq (h_ld isR 0) (sq (h_v (.inl 24)) (sq (h_newa 0 (.inl 0)) (sq (h_put 15 85 isR) (sq (h_ld isR 0) (sq (h_v (.inl 24)) (sq (h_newa 0 (.inl 0)) (sq (h_put 15 86 isR) (sq (h_ld isR 0) (sq (h_v (.inl 24)) (sq (h_newa 0 (.inl 0)) (sq (h_put 15 87 isR) (sq (h_ld isR 0) (sq (h_v (.inl 24)) (sq (h_newa 0 (.inl 0)) (sq (h_put 15 88 isR) (sq (h_ld isR 0) (sq (h_v (.inl 24)) (sq (h_newa 0 (.inl 0)) (sq (h_put 15 89 isR) (sq (h_ld isR 0) (sq (h_v (.inl 24)) (sq (h_newa 3 (.inl 0)) (sq (h_put 15 90 isR) (sq (h_ld isR 0) (sq (h_v (.inl 21)) (sq (h_v (.inl 1100)) (sq (h_multi 2 6) (sq (h_put 15 91 isR) (sq (h_ld isR 0) (sq (h_v (.inl 21)) (sq (h_v (.inl 2100)) (sq (h_multi 0 5) (sq (h_put 15 92 isR) (sq (h_ld isR 0) (sq (h_v (.inl 21)) (sq (h_newa 0 (.inl 0)) (sq (h_put 15 93 isR) (sq (h_ld isR 0) (sq (h_v (.inl 5100)) (sq (h_newa 0 (.inl 0)) (sq (h_put 15 95 isR) (sq (h_ld isR 0) (sq (h_v (.inl 5100)) (sq (h_newa 0 (.inl 0)) (sq (h_put 15 96 isR) (sq (h_ld isR 0) (sq (h_v (.inl 5100)) (sq (h_newa 0 (.inl 0)) (sq (h_put 15 97 isR) (sq (h_ld isR 0) (sq (h_v (.inl 5100)) (sq (h_newa 0 (.inl 0)) (sq (h_put 15 98 isR) (sq (h_ld isR 0) (sq (h_v (.inl 5100)) (sq (h_newa 0 (.inl 0)) (sq (h_put 15 99 isR) (sq (h_ld isR 0) (t_go 4)))))))))))))))))))))))))))))))))))))))))))))))))))))))))))),
  sq (h_v (.inl 5100)) (sq (h_newa 0 (.inl 0)) (sq (h_put 15 100 isR) (sq (h_ld isR 0) (sq (h_v (.inl 5100)) (sq (h_newa 0 (.inl 0)) (sq (h_put 15 101 isR) (sq (h_ld isR 0) (sq (h_v (.inl 1110)) (sq (h_newa 0 (.inl 0)) (sq (h_put 15 103 isR) (sq (h_ld isR 0) (sq (h_v (.inl 1110)) (sq (h_newa 0 (.inl 0)) (sq (h_put 15 104 isR) (sq (h_ld isR 0) (sq (h_v (.inl 1110)) (sq (h_newa 0 (.inl 0)) (sq (h_put 15 105 isR) (sq (h_ld isR 0) (sq (h_v (.inl 1110)) (sq (h_newa 1 (.inr (.inl 0))) (sq (h_put 15 106 isR) (sq (h_ld isR 0) (sq (h_v (.inl 140)) (sq (h_newa 2 (.inl 0)) (sq (h_put 15 107 isR) (sq (h_ld isR 0) (sq (h_v (.inl 1110)) (sq (h_newa 1 (.inr (.inl 0))) (sq (h_put 15 111 isR) (sq (h_ld isR 0) (sq (h_v (.inl 1110)) (sq (h_newa 0 (.inl 0)) (sq (h_put 15 112 isR) (sq (h_ld isR 0) (sq (h_v (.inl 1110)) (sq (h_newa 0 (.inl 0)) (sq (h_put 15 113 isR) (sq (h_ld isR 0) (sq (h_v (.inl 1110)) (sq (h_newa 0 (.inl 0)) (sq (h_put 15 114 isR) (sq (h_ld isR 0) (sq (h_v (.inl 1110)) (sq (h_newa 0 (.inl 0)) (sq (h_put 15 116 isR) (sq (h_ld isR 0) (sq (h_v (.inl 4104)) (sq (h_newa 0 (.inl 0)) (sq (h_put 15 119 isR) (sq (h_ld isR 0) (sq (h_v (.inl 4104)) (sq (h_newa 0 (.inl 0)) (sq (h_put 15 120 isR) (sq (h_ld isR 0) (sq (h_v (.inl 4104)) (sq (h_newa 0 (.inl 0)) (sq (h_put 15 121 isR) (sq (h_ld isR 0) (t_go 5)))))))))))))))))))))))))))))))))))))))))))))))))))))))))))),
  sq (h_v (.inl 4)) (sq (h_newa 0 (.inl 0)) (sq (h_put 15 126 isR) (sq (h_ld isR 0) (sq (h_v (.inl 4)) (sq (h_newa 0 (.inl 0)) (sq (h_put 15 127 isR) (sq (h_ld isR 0) (sq (h_v (.inl 4)) (sq (h_newa 0 (.inl 0)) (sq (h_put 15 128 isR) (sq (h_ld isR 0) (sq (h_v (.inl 4)) (sq (h_newa 0 (.inl 0)) (sq (h_put 15 129 isR) (sq (h_ld isR 0) (sq (h_v (.inl 4)) (sq (h_newa 0 (.inl 0)) (sq (h_put 15 130 isR) (sq (h_ld isR 0) (sq (h_v (.inl 160)) (sq (h_newa 0 (.inl 0)) (sq (h_put 15 142 isR) (sq (h_ld isR 0) (sq (h_v (.inl 160)) (sq (h_newa 0 (.inl 0)) (sq (h_put 15 143 isR) (sq (h_ld isR 0) (sq (h_v (.inl 160)) (sq (h_newa 0 (.inl 0)) (sq (h_put 15 144 isR) (sq (h_ld isR 0) (sq (h_v (.inl 160)) (sq (h_newa 0 (.inl 0)) (sq (h_put 15 145 isR) (sq (h_ld isR 0) (sq (h_v (.inl 160)) (sq (h_newa 0 (.inl 0)) (sq (h_put 15 146 isR) (sq (h_ld isR 0) (sq (h_v (.inl 160)) (sq (h_newa 0 (.inl 0)) (sq (h_put 15 147 isR) (sq (h_ld isR 0) (sq (h_v (.inl 160)) (sq (h_newa 0 (.inl 0)) (sq (h_put 15 148 isR) (sq (h_ld isR 0) (sq (h_v (.inl 20)) (sq (h_newa 2 (.inl 0)) (sq (h_put 15 149 isR) (sq (h_ld isR 0) (sq (h_v (.inl 20)) (sq (h_newa 2 (.inl 0)) (sq (h_put 15 150 isR) (sq (h_ld isR 0) (sq (h_v (.inl 600)) (sq (h_newa 0 (.inl 0)) (sq (h_put 15 164 isR) (sq (h_ld isR 0) (t_go 6)))))))))))))))))))))))))))))))))))))))))))))))))))))))))))),
  sq (h_v (.inl 600)) (sq (h_newa 0 (.inl 0)) (sq (h_put 15 165 isR) (sq (h_ld isR 0) (sq (h_new 14 13 [.inl 0, .inl 0, .inl 0, .inl 0, .inl 0, .inl 0, .inl 0, .inr (.inl 0), .inr (.inr 0), .inr (.inr 0), .inr (.inr 0), .inr (.inr 0), .inr (.inr 0)]) (sq (h_dup) (sq (h_call 1 (rRecv rFo 14) ev_X12_init) (sq (h_put 15 166 isR) (sq (h_ld isR 0) (sq (h_new 14 13 [.inl 0, .inl 0, .inl 0, .inl 0, .inl 0, .inl 0, .inl 0, .inr (.inl 0), .inr (.inr 0), .inr (.inr 0), .inr (.inr 0), .inr (.inr 0), .inr (.inr 0)]) (sq (h_dup) (sq (h_call 1 (rRecv rFo 14) ev_X12_init) (sq (h_put 15 167 isR) (sq (h_ld isR 0) (sq (h_v (.inl 131072)) (sq (h_newa 2 (.inl 0)) (sq (h_put 15 169 isR) (sq (h_ld isR 0) (sq (h_v (.inl 32)) (sq (h_newa 3 (.inl 0)) (sq (h_put 15 170 isR) (sq (h_ld isR 0) (sq (h_v (.inl 128)) (sq (h_newa 3 (.inl 0)) (sq (h_put 15 171 isR) (sq (h_ld isR 0) (sq (h_v (.inl 128)) (sq (h_newa 0 (.inl 0)) (sq (h_put 15 172 isR) (sq (h_ld isR 0) (sq (h_v (.inl 129024)) (sq (h_newa 2 (.inl 0)) (sq (h_put 15 175 isR) (sq (h_ld isR 0) (sq (h_v (.inl 1025)) (sq (h_newa 0 (.inl 0)) (sq (h_put 15 176 isR) (sq (h_ld isR 0) (sq (h_v (.inl 1025)) (sq (h_newa 0 (.inl 0)) (sq (h_put 15 177 isR) (sq (h_ld isR 0) (sq (h_v (.inl 1025)) (sq (h_newa 0 (.inl 0)) (sq (h_put 15 178 isR) (sq (h_ld isR 0) (sq (h_v (.inl 131072)) (sq (h_newa 2 (.inl 0)) (sq (h_put 15 180 isR) (sq (h_ld isR 0) (sq (h_v (.inl 65536)) (sq (h_newa 2 (.inl 0)) (sq (h_put 15 181 isR) (sq (h_ld isR 0) (sq (h_v (.inl 65536)) (sq (h_newa 2 (.inl 0)) (sq (h_put 15 182 isR) (sq (h_ld isR 0) (sq (h_v (.inl 65536)) (sq (h_newa 2 (.inl 0)) (t_go 7)))))))))))))))))))))))))))))))))))))))))))))))))))))))))))),
  sq (h_put 15 183 isR) (sq (h_ld isR 0) (sq (h_v (.inl 65536)) (sq (h_newa 2 (.inl 0)) (sq (h_put 15 184 isR) (sq (h_ld isR 0) (sq (h_v (.inl 16)) (sq (h_newa 1 (.inr (.inl 0))) (sq (h_put 15 188 isR) (sq (h_ld isR 0) (sq (h_v (.inl 16)) (sq (h_newa 1 (.inr (.inl 0))) (sq (h_put 15 189 isR) (sq (h_ld isR 0) (sq (h_v (.inl 16)) (sq (h_newa 1 (.inr (.inl 0))) (sq (h_put 15 199 isR) (sq (h_ld isR 0) (sq (h_v (.inr (.inr 268))) (sq (h_v (.inl 0)) (sq (h_call 3 (rRecv rFo 15) mev_X13_wordsOf) (sq (h_ld isR 0) (sq (h_v (.inr (.inr 272))) (sq (h_v (.inl 24)) (sq (h_call 3 (rRecv rFo 15) mev_X13_wordsOf) (sq (h_ld isR 0) (sq (h_v (.inr (.inr 276))) (sq (h_v (.inl 34)) (sq (h_call 3 (rRecv rFo 15) mev_X13_conditions) (sq (h_ld isR 0) (sq (h_v (.inr (.inr 280))) (sq (h_v (.inl 35)) (sq (h_call 3 (rRecv rFo 15) mev_X13_conditions) (sq (h_ld isR 0) (sq (h_v (.inr (.inr 284))) (sq (h_v (.inl 36)) (sq (h_call 3 (rRecv rFo 15) mev_X13_conditions) (sq (h_ld isR 0) (sq (h_v (.inr (.inr 288))) (sq (h_v (.inl 262181)) (sq (h_call 3 (rRecv rFo 15) ev_X13_word) (sq (h_ld isR 0) (sq (h_v (.inr (.inr 292))) (sq (h_v (.inl 524325)) (sq (h_call 3 (rRecv rFo 15) ev_X13_word) (sq (h_ld isR 0) (sq (h_v (.inr (.inr 296))) (sq (h_v (.inl 262182)) (sq (h_call 3 (rRecv rFo 15) ev_X13_word) (sq (h_ld isR 0) (sq (h_v (.inr (.inr 300))) (sq (h_v (.inl 524326)) (sq (h_call 3 (rRecv rFo 15) ev_X13_word) (sq (h_ld isR 0) (sq (h_v (.inr (.inr 304))) (sq (h_v (.inl 39)) (sq (h_call 3 (rRecv rFo 15) mev_X13_wordsOf) (sq (h_ld isR 0) (sq (h_v (.inr (.inr 308))) (sq (h_v (.inl 65586)) (t_go 8)))))))))))))))))))))))))))))))))))))))))))))))))))))))))))),
  sq (h_call 3 (rRecv rFo 15) ev_X13_word) (sq (h_ld isR 0) (sq (h_v (.inr (.inr 312))) (sq (h_v (.inl 262194)) (sq (h_call 3 (rRecv rFo 15) ev_X13_word) (sq (h_ld isR 0) (sq (h_v (.inr (.inr 316))) (sq (h_v (.inl 524338)) (sq (h_call 3 (rRecv rFo 15) ev_X13_word) (sq (h_ld isR 0) (sq (h_v (.inr (.inr 320))) (sq (h_v (.inl 65587)) (sq (h_call 3 (rRecv rFo 15) ev_X13_word) (sq (h_ld isR 0) (sq (h_v (.inr (.inr 324))) (sq (h_v (.inl 262195)) (sq (h_call 3 (rRecv rFo 15) ev_X13_word) (sq (h_ld isR 0) (sq (h_v (.inr (.inr 328))) (sq (h_v (.inl 524339)) (sq (h_call 3 (rRecv rFo 15) ev_X13_word) (sq (h_ld isR 0) (sq (h_v (.inr (.inr 332))) (sq (h_v (.inl 100)) (sq (h_call 3 (rRecv rFo 15) mev_X13_wordsOf) (sq (h_v (.inl 0)) (sq (h_st isI 1) (t_go 9))))))))))))))))))))))))))),
  sq (h_ld isI 1) (sq (h_v (.inl 5)) (t_icmp (fun a b => rNot (rLt a b)) 20 10)),
  sq (h_ld isR 0) (sq (h_ld isI 1) (t_if (fun a => rNot (rEq a 0)) 12 11)),
  sq (h_v (.inr (.inr 336))) (t_go 19),
  sq (h_ld isI 1) (sq (h_v (.inl 1)) (t_icmp (fun a b => rNot (rEq a b)) 14 13)),
  sq (h_v (.inr (.inr 340))) (t_go 19),
  sq (h_ld isI 1) (sq (h_v (.inl 2)) (t_icmp (fun a b => rNot (rEq a b)) 16 15)),
  sq (h_v (.inr (.inr 344))) (t_go 19),
  sq (h_ld isI 1) (sq (h_v (.inl 3)) (t_icmp (fun a b => rNot (rEq a b)) 18 17)),
  sq (h_v (.inr (.inr 348))) (t_go 19),
  sq (h_v (.inr (.inr 352))) (t_go 19),
  sq (h_v (.inl 120)) (sq (h_call 3 (rRecv rFo 15) ev_X13_word) (sq (h_inc 1 1) (t_go 9))),
  sq (h_ld isR 0) (sq (h_call 1 (rRecv rFo 15) mev_X13_registerNames) (sq (h_ld isR 0) (sq (h_v (.inr (.inr 356))) (sq (h_call 1 rAny ev_X13_pack) (sq (h_put 15 9 isJ) (sq (h_ld isR 0) (sq (h_v (.inr (.inr 360))) (sq (h_call 1 rAny ev_X13_pack) (sq (h_put 15 10 isJ) (sq (h_ld isR 0) (sq (h_v (.inr (.inr 364))) (sq (h_call 1 rAny ev_X13_pack) (sq (h_put 15 11 isJ) (sq (h_ld isR 0) (sq (h_v (.inr (.inr 368))) (sq (h_call 1 rAny ev_X13_pack) (sq (h_put 15 12 isJ) (sq (h_ld isR 0) (sq (h_v (.inr (.inr 336))) (sq (h_call 1 rAny ev_X13_pack) (sq (h_put 15 13 isJ) (sq (h_ld isR 0) (sq (h_v (.inr (.inr 340))) (sq (h_call 1 rAny ev_X13_pack) (sq (h_put 15 14 isJ) (sq (h_ld isR 0) (sq (h_v (.inr (.inr 344))) (sq (h_call 1 rAny ev_X13_pack) (sq (h_put 15 15 isJ) (sq (h_ld isR 0) (sq (h_v (.inr (.inr 348))) (sq (h_call 1 rAny ev_X13_pack) (sq (h_put 15 16 isJ) (sq (h_ld isR 0) (sq (h_v (.inr (.inr 352))) (sq (h_call 1 rAny ev_X13_pack) (sq (h_put 15 17 isJ) (sq (h_ld isR 0) (sq (h_v (.inr (.inr 372))) (sq (h_call 1 rAny ev_X13_pack) (sq (h_put 15 18 isJ) (sq (h_ld isR 0) (sq (h_v (.inr (.inr 376))) (sq (h_call 1 rAny ev_X13_pack) (sq (h_put 15 19 isJ) (sq (h_ld isR 0) (sq (h_call 1 (rRecv rFo 15) mev_X13_fillTable) (t_ret))))))))))))))))))))))))))))))))))))))))))))))))]
noncomputable def ev_X13_init : rEv := fun as w n => rIni 2 as (fun ls => rRun bs_X13_init 100000 0 ls [] w n 0)
set_option maxRecDepth 100000 in
set_option maxHeartbeats 4000000 in
theorem ok_X13_init (l : Launch) : rMet vwCl rFo rZs rRs rNs rTs l yX13_init cX13_init 2 ((Option.none : Option FieldType)) 8 256 ev_X13_init := met_of (pcs := [0, 124, 259, 389, 520, 655, 778, 908, 1043, 1107, 1112, 1117, 1123, 1128, 1134, 1139, 1145, 1150, 1156, 1159, 1170]) (by decide +kernel) rfl (fun G n0 =>
  AllB.c (pb := 0) (
    BS.sq (pc' := 1) (s_aload_n (k := 0) 0 rfl dX13_init_0) <|
    BS.sq (pc' := 4) (s_oinit kw449 kw2 kwObj (by decide) (by decide) dX13_init_1) <|
    BS.sq (pc' := 5) (s_aload_n (k := 0) 0 rfl dX13_init_4) <|
    BS.sq (pc' := 7) (s_ldc 65536 kw450 dX13_init_5) <|
    BS.sq (pc' := 9) (s_newa 2 (.inl 0) (by decide) rfl rfl (fun _ _ h => h) (by decide) kw3 dX13_init_7) <|
    BS.sq (pc' := 12) (s_putF tyX13 1 isR inX13 tyX13_ok nmX13 kc15 (by decide) kw451 rfl rfl rfl rfl (okf_A G _) dX13_init_9) <|
    BS.sq (pc' := 13) (s_aload_n (k := 0) 0 rfl dX13_init_12) <|
    BS.sq (pc' := 16) (s_sipush 200 (by decide +kernel) dX13_init_13) <|
    BS.sq (pc' := 18) (s_newa 1 (.inr (.inl 0)) (by decide) rfl rfl (fun _ _ h => h) (by decide) kw26 dX13_init_16) <|
    BS.sq (pc' := 21) (s_putF tyX13 5 isR inX13 tyX13_ok nmX13 kc15 (by decide) kw310 rfl rfl rfl rfl (okf_A G _) dX13_init_18) <|
    BS.sq (pc' := 22) (s_aload_n (k := 0) 0 rfl dX13_init_21) <|
    BS.sq (pc' := 24) (s_bipush 50 (by decide +kernel) dX13_init_22) <|
    BS.sq (pc' := 26) (s_newa 1 (.inr (.inl 0)) (by decide) rfl rfl (fun _ _ h => h) (by decide) kw26 dX13_init_24) <|
    BS.sq (pc' := 29) (s_putF tyX13 6 isR inX13 tyX13_ok nmX13 kc15 (by decide) kw405 rfl rfl rfl rfl (okf_A G _) dX13_init_26) <|
    BS.sq (pc' := 30) (s_aload_n (k := 0) 0 rfl dX13_init_29) <|
    BS.sq (pc' := 33) (s_sipush 200 (by decide +kernel) dX13_init_30) <|
    BS.sq (pc' := 35) (s_newa 0 (.inl 0) (by decide) rfl rfl (fun _ _ h => h) (by decide) kw5 dX13_init_33) <|
    BS.sq (pc' := 38) (s_putF tyX13 7 isR inX13 tyX13_ok nmX13 kc15 (by decide) kw316 rfl rfl rfl rfl (okf_A G _) dX13_init_35) <|
    BS.sq (pc' := 39) (s_aload_n (k := 0) 0 rfl dX13_init_38) <|
    BS.sq (pc' := 41) (s_bipush 50 (by decide +kernel) dX13_init_39) <|
    BS.sq (pc' := 43) (s_newa 0 (.inl 0) (by decide) rfl rfl (fun _ _ h => h) (by decide) kw5 dX13_init_41) <|
    BS.sq (pc' := 46) (s_putF tyX13 8 isR inX13 tyX13_ok nmX13 kc15 (by decide) kw407 rfl rfl rfl rfl (okf_A G _) dX13_init_43) <|
    BS.sq (pc' := 47) (s_aload_n (k := 0) 0 rfl dX13_init_46) <|
    BS.sq (pc' := 50) (s_sipush 1025 (by decide +kernel) dX13_init_47) <|
    BS.sq (pc' := 52) (s_newa 0 (.inl 0) (by decide) rfl rfl (fun _ _ h => h) (by decide) kw5 dX13_init_50) <|
    BS.sq (pc' := 55) (s_putF tyX13 21 isR inX13 tyX13_ok nmX13 kc15 (by decide) kw452 rfl rfl rfl rfl (okf_A G _) dX13_init_52) <|
    BS.sq (pc' := 56) (s_aload_n (k := 0) 0 rfl dX13_init_55) <|
    BS.sq (pc' := 58) (s_bipush 32 (by decide +kernel) dX13_init_56) <|
    BS.sq (pc' := 60) (s_newa 3 (.inl 0) (by decide) rfl rfl (fun _ _ h => h) (by decide) kw126 dX13_init_58) <|
    BS.sq (pc' := 63) (s_putF tyX13 22 isR inX13 tyX13_ok nmX13 kc15 (by decide) kw453 rfl rfl rfl rfl (okf_A G _) dX13_init_60) <|
    BS.sq (pc' := 64) (s_aload_n (k := 0) 0 rfl dX13_init_63) <|
    BS.sq (pc' := 66) (s_bipush 33 (by decide +kernel) dX13_init_64) <|
    BS.sq (pc' := 68) (s_newa 0 (.inl 0) (by decide) rfl rfl (fun _ _ h => h) (by decide) kw5 dX13_init_66) <|
    BS.sq (pc' := 71) (s_putF tyX13 23 isR inX13 tyX13_ok nmX13 kc15 (by decide) kw454 rfl rfl rfl rfl (okf_A G _) dX13_init_68) <|
    BS.sq (pc' := 72) (s_aload_n (k := 0) 0 rfl dX13_init_71) <|
    BS.sq (pc' := 74) (s_bipush 33 (by decide +kernel) dX13_init_72) <|
    BS.sq (pc' := 76) (s_newa 0 (.inl 0) (by decide) rfl rfl (fun _ _ h => h) (by decide) kw5 dX13_init_74) <|
    BS.sq (pc' := 79) (s_putF tyX13 24 isR inX13 tyX13_ok nmX13 kc15 (by decide) kw455 rfl rfl rfl rfl (okf_A G _) dX13_init_76) <|
    BS.sq (pc' := 80) (s_aload_n (k := 0) 0 rfl dX13_init_79) <|
    BS.sq (pc' := 82) (s_bipush 33 (by decide +kernel) dX13_init_80) <|
    BS.sq (pc' := 84) (s_newa 0 (.inl 0) (by decide) rfl rfl (fun _ _ h => h) (by decide) kw5 dX13_init_82) <|
    BS.sq (pc' := 87) (s_putF tyX13 25 isR inX13 tyX13_ok nmX13 kc15 (by decide) kw456 rfl rfl rfl rfl (okf_A G _) dX13_init_84) <|
    BS.sq (pc' := 88) (s_aload_n (k := 0) 0 rfl dX13_init_87) <|
    BS.sq (pc' := 91) (s_sipush 128 (by decide +kernel) dX13_init_88) <|
    BS.sq (pc' := 93) (s_newa 0 (.inl 0) (by decide) rfl rfl (fun _ _ h => h) (by decide) kw5 dX13_init_91) <|
    BS.sq (pc' := 96) (s_putF tyX13 26 isR inX13 tyX13_ok nmX13 kc15 (by decide) kw457 rfl rfl rfl rfl (okf_A G _) dX13_init_93) <|
    BS.sq (pc' := 97) (s_aload_n (k := 0) 0 rfl dX13_init_96) <|
    BS.sq (pc' := 100) (s_sipush 128 (by decide +kernel) dX13_init_97) <|
    BS.sq (pc' := 102) (s_newa 3 (.inl 0) (by decide) rfl rfl (fun _ _ h => h) (by decide) kw126 dX13_init_100) <|
    BS.sq (pc' := 105) (s_putF tyX13 27 isR inX13 tyX13_ok nmX13 kc15 (by decide) kw458 rfl rfl rfl rfl (okf_A G _) dX13_init_102) <|
    BS.sq (pc' := 106) (s_aload_n (k := 0) 0 rfl dX13_init_105) <|
    BS.sq (pc' := 107) (s_iconst 4294967295 (by decide +kernel) dX13_init_106) <|
    BS.sq (pc' := 110) (s_put tyX13 30 isI inX13 tyX13_ok nmX13 kc15 (by decide) kw459 rfl rfl (okf_I G) dX13_init_107) <|
    BS.sq (pc' := 111) (s_aload_n (k := 0) 0 rfl dX13_init_110) <|
    BS.sq (pc' := 113) (s_ldc 129024 kw460 dX13_init_111) <|
    BS.sq (pc' := 115) (s_newa 2 (.inl 0) (by decide) rfl rfl (fun _ _ h => h) (by decide) kw3 dX13_init_113) <|
    BS.sq (pc' := 118) (s_putF tyX13 33 isR inX13 tyX13_ok nmX13 kc15 (by decide) kw461 rfl rfl rfl rfl (okf_A G _) dX13_init_115) <|
    BS.sq (pc' := 119) (s_aload_n (k := 0) 0 rfl dX13_init_118) <|
    BS.sq (pc' := 122) (s_sipush 1025 (by decide +kernel) dX13_init_119) <|
    BS.sq (pc' := 124) (s_newa 0 (.inl 0) (by decide) rfl rfl (fun _ _ h => h) (by decide) kw5 dX13_init_122) <|
    BS.go rfl) <|
  AllB.c (pb := 124) (
    BS.sq (pc' := 127) (s_putF tyX13 34 isR inX13 tyX13_ok nmX13 kc15 (by decide) kw462 rfl rfl rfl rfl (okf_A G _) dX13_init_124) <|
    BS.sq (pc' := 128) (s_aload_n (k := 0) 0 rfl dX13_init_127) <|
    BS.sq (pc' := 131) (s_sipush 1025 (by decide +kernel) dX13_init_128) <|
    BS.sq (pc' := 133) (s_newa 0 (.inl 0) (by decide) rfl rfl (fun _ _ h => h) (by decide) kw5 dX13_init_131) <|
    BS.sq (pc' := 136) (s_putF tyX13 35 isR inX13 tyX13_ok nmX13 kc15 (by decide) kw463 rfl rfl rfl rfl (okf_A G _) dX13_init_133) <|
    BS.sq (pc' := 137) (s_aload_n (k := 0) 0 rfl dX13_init_136) <|
    BS.sq (pc' := 140) (s_sipush 1025 (by decide +kernel) dX13_init_137) <|
    BS.sq (pc' := 142) (s_newa 1 (.inr (.inl 0)) (by decide) rfl rfl (fun _ _ h => h) (by decide) kw26 dX13_init_140) <|
    BS.sq (pc' := 145) (s_putF tyX13 36 isR inX13 tyX13_ok nmX13 kc15 (by decide) kw464 rfl rfl rfl rfl (okf_A G _) dX13_init_142) <|
    BS.sq (pc' := 146) (s_aload_n (k := 0) 0 rfl dX13_init_145) <|
    BS.sq (pc' := 149) (s_sipush 1025 (by decide +kernel) dX13_init_146) <|
    BS.sq (pc' := 151) (s_newa 0 (.inl 0) (by decide) rfl rfl (fun _ _ h => h) (by decide) kw5 dX13_init_149) <|
    BS.sq (pc' := 154) (s_putF tyX13 37 isR inX13 tyX13_ok nmX13 kc15 (by decide) kw465 rfl rfl rfl rfl (okf_A G _) dX13_init_151) <|
    BS.sq (pc' := 155) (s_aload_n (k := 0) 0 rfl dX13_init_154) <|
    BS.sq (pc' := 158) (s_sipush 1025 (by decide +kernel) dX13_init_155) <|
    BS.sq (pc' := 160) (s_newa 3 (.inl 0) (by decide) rfl rfl (fun _ _ h => h) (by decide) kw126 dX13_init_158) <|
    BS.sq (pc' := 163) (s_putF tyX13 38 isR inX13 tyX13_ok nmX13 kc15 (by decide) kw466 rfl rfl rfl rfl (okf_A G _) dX13_init_160) <|
    BS.sq (pc' := 164) (s_aload_n (k := 0) 0 rfl dX13_init_163) <|
    BS.sq (pc' := 167) (s_sipush 1025 (by decide +kernel) dX13_init_164) <|
    BS.sq (pc' := 169) (s_newa 3 (.inl 0) (by decide) rfl rfl (fun _ _ h => h) (by decide) kw126 dX13_init_167) <|
    BS.sq (pc' := 172) (s_putF tyX13 39 isR inX13 tyX13_ok nmX13 kc15 (by decide) kw467 rfl rfl rfl rfl (okf_A G _) dX13_init_169) <|
    BS.sq (pc' := 173) (s_aload_n (k := 0) 0 rfl dX13_init_172) <|
    BS.sq (pc' := 176) (s_sipush 1025 (by decide +kernel) dX13_init_173) <|
    BS.sq (pc' := 178) (s_newa 3 (.inl 0) (by decide) rfl rfl (fun _ _ h => h) (by decide) kw126 dX13_init_176) <|
    BS.sq (pc' := 181) (s_putF tyX13 40 isR inX13 tyX13_ok nmX13 kc15 (by decide) kw468 rfl rfl rfl rfl (okf_A G _) dX13_init_178) <|
    BS.sq (pc' := 182) (s_aload_n (k := 0) 0 rfl dX13_init_181) <|
    BS.sq (pc' := 185) (s_sipush 1025 (by decide +kernel) dX13_init_182) <|
    BS.sq (pc' := 187) (s_newa 3 (.inl 0) (by decide) rfl rfl (fun _ _ h => h) (by decide) kw126 dX13_init_185) <|
    BS.sq (pc' := 190) (s_putF tyX13 41 isR inX13 tyX13_ok nmX13 kc15 (by decide) kw469 rfl rfl rfl rfl (okf_A G _) dX13_init_187) <|
    BS.sq (pc' := 191) (s_aload_n (k := 0) 0 rfl dX13_init_190) <|
    BS.sq (pc' := 194) (s_sipush 1025 (by decide +kernel) dX13_init_191) <|
    BS.sq (pc' := 196) (s_newa 1 (.inr (.inl 0)) (by decide) rfl rfl (fun _ _ h => h) (by decide) kw26 dX13_init_194) <|
    BS.sq (pc' := 199) (s_putF tyX13 42 isR inX13 tyX13_ok nmX13 kc15 (by decide) kw470 rfl rfl rfl rfl (okf_A G _) dX13_init_196) <|
    BS.sq (pc' := 200) (s_aload_n (k := 0) 0 rfl dX13_init_199) <|
    BS.sq (pc' := 203) (s_sipush 9218 (by decide +kernel) dX13_init_200) <|
    BS.sq (pc' := 205) (s_newa 2 (.inl 0) (by decide) rfl rfl (fun _ _ h => h) (by decide) kw3 dX13_init_203) <|
    BS.sq (pc' := 208) (s_putF tyX13 45 isR inX13 tyX13_ok nmX13 kc15 (by decide) kw471 rfl rfl rfl rfl (okf_A G _) dX13_init_205) <|
    BS.sq (pc' := 209) (s_aload_n (k := 0) 0 rfl dX13_init_208) <|
    BS.sq (pc' := 212) (s_sipush 9218 (by decide +kernel) dX13_init_209) <|
    BS.sq (pc' := 214) (s_newa 2 (.inl 0) (by decide) rfl rfl (fun _ _ h => h) (by decide) kw3 dX13_init_212) <|
    BS.sq (pc' := 217) (s_putF tyX13 46 isR inX13 tyX13_ok nmX13 kc15 (by decide) kw472 rfl rfl rfl rfl (okf_A G _) dX13_init_214) <|
    BS.sq (pc' := 218) (s_aload_n (k := 0) 0 rfl dX13_init_217) <|
    BS.sq (pc' := 221) (s_sipush 9218 (by decide +kernel) dX13_init_218) <|
    BS.sq (pc' := 223) (s_newa 0 (.inl 0) (by decide) rfl rfl (fun _ _ h => h) (by decide) kw5 dX13_init_221) <|
    BS.sq (pc' := 226) (s_putF tyX13 47 isR inX13 tyX13_ok nmX13 kc15 (by decide) kw473 rfl rfl rfl rfl (okf_A G _) dX13_init_223) <|
    BS.sq (pc' := 227) (s_aload_n (k := 0) 0 rfl dX13_init_226) <|
    BS.sq (pc' := 230) (s_sipush 9218 (by decide +kernel) dX13_init_227) <|
    BS.sq (pc' := 232) (s_newa 0 (.inl 0) (by decide) rfl rfl (fun _ _ h => h) (by decide) kw5 dX13_init_230) <|
    BS.sq (pc' := 235) (s_putF tyX13 48 isR inX13 tyX13_ok nmX13 kc15 (by decide) kw474 rfl rfl rfl rfl (okf_A G _) dX13_init_232) <|
    BS.sq (pc' := 236) (s_aload_n (k := 0) 0 rfl dX13_init_235) <|
    BS.sq (pc' := 239) (s_sipush 9218 (by decide +kernel) dX13_init_236) <|
    BS.sq (pc' := 241) (s_newa 0 (.inl 0) (by decide) rfl rfl (fun _ _ h => h) (by decide) kw5 dX13_init_239) <|
    BS.sq (pc' := 244) (s_putF tyX13 49 isR inX13 tyX13_ok nmX13 kc15 (by decide) kw475 rfl rfl rfl rfl (okf_A G _) dX13_init_241) <|
    BS.sq (pc' := 245) (s_aload_n (k := 0) 0 rfl dX13_init_244) <|
    BS.sq (pc' := 248) (s_sipush 9218 (by decide +kernel) dX13_init_245) <|
    BS.sq (pc' := 250) (s_newa 0 (.inl 0) (by decide) rfl rfl (fun _ _ h => h) (by decide) kw5 dX13_init_248) <|
    BS.sq (pc' := 253) (s_putF tyX13 50 isR inX13 tyX13_ok nmX13 kc15 (by decide) kw476 rfl rfl rfl rfl (okf_A G _) dX13_init_250) <|
    BS.sq (pc' := 254) (s_aload_n (k := 0) 0 rfl dX13_init_253) <|
    BS.sq (pc' := 257) (s_sipush 9218 (by decide +kernel) dX13_init_254) <|
    BS.sq (pc' := 259) (s_newa 1 (.inr (.inl 0)) (by decide) rfl rfl (fun _ _ h => h) (by decide) kw26 dX13_init_257) <|
    BS.go rfl) <|
  AllB.c (pb := 259) (
    BS.sq (pc' := 262) (s_putF tyX13 51 isR inX13 tyX13_ok nmX13 kc15 (by decide) kw477 rfl rfl rfl rfl (okf_A G _) dX13_init_259) <|
    BS.sq (pc' := 263) (s_aload_n (k := 0) 0 rfl dX13_init_262) <|
    BS.sq (pc' := 266) (s_sipush 9218 (by decide +kernel) dX13_init_263) <|
    BS.sq (pc' := 268) (s_newa 0 (.inl 0) (by decide) rfl rfl (fun _ _ h => h) (by decide) kw5 dX13_init_266) <|
    BS.sq (pc' := 271) (s_putF tyX13 52 isR inX13 tyX13_ok nmX13 kc15 (by decide) kw478 rfl rfl rfl rfl (okf_A G _) dX13_init_268) <|
    BS.sq (pc' := 272) (s_aload_n (k := 0) 0 rfl dX13_init_271) <|
    BS.sq (pc' := 275) (s_sipush 9218 (by decide +kernel) dX13_init_272) <|
    BS.sq (pc' := 277) (s_newa 1 (.inr (.inl 0)) (by decide) rfl rfl (fun _ _ h => h) (by decide) kw26 dX13_init_275) <|
    BS.sq (pc' := 280) (s_putF tyX13 53 isR inX13 tyX13_ok nmX13 kc15 (by decide) kw479 rfl rfl rfl rfl (okf_A G _) dX13_init_277) <|
    BS.sq (pc' := 281) (s_aload_n (k := 0) 0 rfl dX13_init_280) <|
    BS.sq (pc' := 283) (s_ldc 132172 kw480 dX13_init_281) <|
    BS.sq (pc' := 285) (s_newa 2 (.inl 0) (by decide) rfl rfl (fun _ _ h => h) (by decide) kw3 dX13_init_283) <|
    BS.sq (pc' := 288) (s_putF tyX13 56 isR inX13 tyX13_ok nmX13 kc15 (by decide) kw481 rfl rfl rfl rfl (okf_A G _) dX13_init_285) <|
    BS.sq (pc' := 289) (s_aload_n (k := 0) 0 rfl dX13_init_288) <|
    BS.sq (pc' := 292) (s_sipush 4104 (by decide +kernel) dX13_init_289) <|
    BS.sq (pc' := 294) (s_newa 0 (.inl 0) (by decide) rfl rfl (fun _ _ h => h) (by decide) kw5 dX13_init_292) <|
    BS.sq (pc' := 297) (s_putF tyX13 58 isR inX13 tyX13_ok nmX13 kc15 (by decide) kw482 rfl rfl rfl rfl (okf_A G _) dX13_init_294) <|
    BS.sq (pc' := 298) (s_aload_n (k := 0) 0 rfl dX13_init_297) <|
    BS.sq (pc' := 301) (s_sipush 4104 (by decide +kernel) dX13_init_298) <|
    BS.sq (pc' := 303) (s_newa 0 (.inl 0) (by decide) rfl rfl (fun _ _ h => h) (by decide) kw5 dX13_init_301) <|
    BS.sq (pc' := 306) (s_putF tyX13 59 isR inX13 tyX13_ok nmX13 kc15 (by decide) kw483 rfl rfl rfl rfl (okf_A G _) dX13_init_303) <|
    BS.sq (pc' := 307) (s_aload_n (k := 0) 0 rfl dX13_init_306) <|
    BS.sq (pc' := 310) (s_sipush 4104 (by decide +kernel) dX13_init_307) <|
    BS.sq (pc' := 312) (s_newa 0 (.inl 0) (by decide) rfl rfl (fun _ _ h => h) (by decide) kw5 dX13_init_310) <|
    BS.sq (pc' := 315) (s_putF tyX13 60 isR inX13 tyX13_ok nmX13 kc15 (by decide) kw484 rfl rfl rfl rfl (okf_A G _) dX13_init_312) <|
    BS.sq (pc' := 316) (s_aload_n (k := 0) 0 rfl dX13_init_315) <|
    BS.sq (pc' := 319) (s_sipush 4104 (by decide +kernel) dX13_init_316) <|
    BS.sq (pc' := 321) (s_newa 0 (.inl 0) (by decide) rfl rfl (fun _ _ h => h) (by decide) kw5 dX13_init_319) <|
    BS.sq (pc' := 324) (s_putF tyX13 61 isR inX13 tyX13_ok nmX13 kc15 (by decide) kw485 rfl rfl rfl rfl (okf_A G _) dX13_init_321) <|
    BS.sq (pc' := 325) (s_aload_n (k := 0) 0 rfl dX13_init_324) <|
    BS.sq (pc' := 328) (s_sipush 4104 (by decide +kernel) dX13_init_325) <|
    BS.sq (pc' := 330) (s_newa 2 (.inl 0) (by decide) rfl rfl (fun _ _ h => h) (by decide) kw3 dX13_init_328) <|
    BS.sq (pc' := 333) (s_putF tyX13 62 isR inX13 tyX13_ok nmX13 kc15 (by decide) kw486 rfl rfl rfl rfl (okf_A G _) dX13_init_330) <|
    BS.sq (pc' := 334) (s_aload_n (k := 0) 0 rfl dX13_init_333) <|
    BS.sq (pc' := 337) (s_sipush 4104 (by decide +kernel) dX13_init_334) <|
    BS.sq (pc' := 339) (s_newa 2 (.inl 0) (by decide) rfl rfl (fun _ _ h => h) (by decide) kw3 dX13_init_337) <|
    BS.sq (pc' := 342) (s_putF tyX13 63 isR inX13 tyX13_ok nmX13 kc15 (by decide) kw487 rfl rfl rfl rfl (okf_A G _) dX13_init_339) <|
    BS.sq (pc' := 343) (s_aload_n (k := 0) 0 rfl dX13_init_342) <|
    BS.sq (pc' := 346) (s_sipush 4104 (by decide +kernel) dX13_init_343) <|
    BS.sq (pc' := 348) (s_newa 1 (.inr (.inl 0)) (by decide) rfl rfl (fun _ _ h => h) (by decide) kw26 dX13_init_346) <|
    BS.sq (pc' := 351) (s_putF tyX13 64 isR inX13 tyX13_ok nmX13 kc15 (by decide) kw488 rfl rfl rfl rfl (okf_A G _) dX13_init_348) <|
    BS.sq (pc' := 352) (s_aload_n (k := 0) 0 rfl dX13_init_351) <|
    BS.sq (pc' := 355) (s_sipush 1100 (by decide +kernel) dX13_init_352) <|
    BS.sq (pc' := 357) (s_newa 2 (.inl 0) (by decide) rfl rfl (fun _ _ h => h) (by decide) kw3 dX13_init_355) <|
    BS.sq (pc' := 360) (s_putF tyX13 78 isR inX13 tyX13_ok nmX13 kc15 (by decide) kw489 rfl rfl rfl rfl (okf_A G _) dX13_init_357) <|
    BS.sq (pc' := 361) (s_aload_n (k := 0) 0 rfl dX13_init_360) <|
    BS.sq (pc' := 363) (s_bipush 24 (by decide +kernel) dX13_init_361) <|
    BS.sq (pc' := 365) (s_newa 0 (.inl 0) (by decide) rfl rfl (fun _ _ h => h) (by decide) kw5 dX13_init_363) <|
    BS.sq (pc' := 368) (s_putF tyX13 81 isR inX13 tyX13_ok nmX13 kc15 (by decide) kw490 rfl rfl rfl rfl (okf_A G _) dX13_init_365) <|
    BS.sq (pc' := 369) (s_aload_n (k := 0) 0 rfl dX13_init_368) <|
    BS.sq (pc' := 371) (s_bipush 24 (by decide +kernel) dX13_init_369) <|
    BS.sq (pc' := 373) (s_newa 0 (.inl 0) (by decide) rfl rfl (fun _ _ h => h) (by decide) kw5 dX13_init_371) <|
    BS.sq (pc' := 376) (s_putF tyX13 82 isR inX13 tyX13_ok nmX13 kc15 (by decide) kw491 rfl rfl rfl rfl (okf_A G _) dX13_init_373) <|
    BS.sq (pc' := 377) (s_aload_n (k := 0) 0 rfl dX13_init_376) <|
    BS.sq (pc' := 379) (s_bipush 24 (by decide +kernel) dX13_init_377) <|
    BS.sq (pc' := 381) (s_newa 0 (.inl 0) (by decide) rfl rfl (fun _ _ h => h) (by decide) kw5 dX13_init_379) <|
    BS.sq (pc' := 384) (s_putF tyX13 83 isR inX13 tyX13_ok nmX13 kc15 (by decide) kw492 rfl rfl rfl rfl (okf_A G _) dX13_init_381) <|
    BS.sq (pc' := 385) (s_aload_n (k := 0) 0 rfl dX13_init_384) <|
    BS.sq (pc' := 387) (s_bipush 24 (by decide +kernel) dX13_init_385) <|
    BS.sq (pc' := 389) (s_newa 0 (.inl 0) (by decide) rfl rfl (fun _ _ h => h) (by decide) kw5 dX13_init_387) <|
    BS.go rfl) <|
  AllB.c (pb := 389) (
    BS.sq (pc' := 392) (s_putF tyX13 84 isR inX13 tyX13_ok nmX13 kc15 (by decide) kw493 rfl rfl rfl rfl (okf_A G _) dX13_init_389) <|
    BS.sq (pc' := 393) (s_aload_n (k := 0) 0 rfl dX13_init_392) <|
    BS.sq (pc' := 395) (s_bipush 24 (by decide +kernel) dX13_init_393) <|
    BS.sq (pc' := 397) (s_newa 0 (.inl 0) (by decide) rfl rfl (fun _ _ h => h) (by decide) kw5 dX13_init_395) <|
    BS.sq (pc' := 400) (s_putF tyX13 85 isR inX13 tyX13_ok nmX13 kc15 (by decide) kw494 rfl rfl rfl rfl (okf_A G _) dX13_init_397) <|
    BS.sq (pc' := 401) (s_aload_n (k := 0) 0 rfl dX13_init_400) <|
    BS.sq (pc' := 403) (s_bipush 24 (by decide +kernel) dX13_init_401) <|
    BS.sq (pc' := 405) (s_newa 0 (.inl 0) (by decide) rfl rfl (fun _ _ h => h) (by decide) kw5 dX13_init_403) <|
    BS.sq (pc' := 408) (s_putF tyX13 86 isR inX13 tyX13_ok nmX13 kc15 (by decide) kw495 rfl rfl rfl rfl (okf_A G _) dX13_init_405) <|
    BS.sq (pc' := 409) (s_aload_n (k := 0) 0 rfl dX13_init_408) <|
    BS.sq (pc' := 411) (s_bipush 24 (by decide +kernel) dX13_init_409) <|
    BS.sq (pc' := 413) (s_newa 0 (.inl 0) (by decide) rfl rfl (fun _ _ h => h) (by decide) kw5 dX13_init_411) <|
    BS.sq (pc' := 416) (s_putF tyX13 87 isR inX13 tyX13_ok nmX13 kc15 (by decide) kw496 rfl rfl rfl rfl (okf_A G _) dX13_init_413) <|
    BS.sq (pc' := 417) (s_aload_n (k := 0) 0 rfl dX13_init_416) <|
    BS.sq (pc' := 419) (s_bipush 24 (by decide +kernel) dX13_init_417) <|
    BS.sq (pc' := 421) (s_newa 0 (.inl 0) (by decide) rfl rfl (fun _ _ h => h) (by decide) kw5 dX13_init_419) <|
    BS.sq (pc' := 424) (s_putF tyX13 88 isR inX13 tyX13_ok nmX13 kc15 (by decide) kw497 rfl rfl rfl rfl (okf_A G _) dX13_init_421) <|
    BS.sq (pc' := 425) (s_aload_n (k := 0) 0 rfl dX13_init_424) <|
    BS.sq (pc' := 427) (s_bipush 24 (by decide +kernel) dX13_init_425) <|
    BS.sq (pc' := 429) (s_newa 0 (.inl 0) (by decide) rfl rfl (fun _ _ h => h) (by decide) kw5 dX13_init_427) <|
    BS.sq (pc' := 432) (s_putF tyX13 89 isR inX13 tyX13_ok nmX13 kc15 (by decide) kw498 rfl rfl rfl rfl (okf_A G _) dX13_init_429) <|
    BS.sq (pc' := 433) (s_aload_n (k := 0) 0 rfl dX13_init_432) <|
    BS.sq (pc' := 435) (s_bipush 24 (by decide +kernel) dX13_init_433) <|
    BS.sq (pc' := 437) (s_newa 3 (.inl 0) (by decide) rfl rfl (fun _ _ h => h) (by decide) kw126 dX13_init_435) <|
    BS.sq (pc' := 440) (s_putF tyX13 90 isR inX13 tyX13_ok nmX13 kc15 (by decide) kw499 rfl rfl rfl rfl (okf_A G _) dX13_init_437) <|
    BS.sq (pc' := 441) (s_aload_n (k := 0) 0 rfl dX13_init_440) <|
    BS.sq (pc' := 443) (s_bipush 21 (by decide +kernel) dX13_init_441) <|
    BS.sq (pc' := 446) (s_sipush 1100 (by decide +kernel) dX13_init_443) <|
    BS.sq (pc' := 450) (s_multi 2 6 (by decide) (by decide) (by decide) rfl rfl (fun _ _ h => h) (fun _ _ h => h) kw500 kn2 kw3 (by decide) rfl rfl dX13_init_446) <|
    BS.sq (pc' := 453) (s_putF tyX13 91 isR inX13 tyX13_ok nmX13 kc15 (by decide) kw501 rfl rfl rfl rfl (okf_A G _) dX13_init_450) <|
    BS.sq (pc' := 454) (s_aload_n (k := 0) 0 rfl dX13_init_453) <|
    BS.sq (pc' := 456) (s_bipush 21 (by decide +kernel) dX13_init_454) <|
    BS.sq (pc' := 459) (s_sipush 2100 (by decide +kernel) dX13_init_456) <|
    BS.sq (pc' := 463) (s_multi 0 5 (by decide) (by decide) (by decide) rfl rfl (fun _ _ h => h) (fun _ _ h => h) kw502 kn0 kw5 (by decide) rfl rfl dX13_init_459) <|
    BS.sq (pc' := 466) (s_putF tyX13 92 isR inX13 tyX13_ok nmX13 kc15 (by decide) kw503 rfl rfl rfl rfl (okf_A G _) dX13_init_463) <|
    BS.sq (pc' := 467) (s_aload_n (k := 0) 0 rfl dX13_init_466) <|
    BS.sq (pc' := 469) (s_bipush 21 (by decide +kernel) dX13_init_467) <|
    BS.sq (pc' := 471) (s_newa 0 (.inl 0) (by decide) rfl rfl (fun _ _ h => h) (by decide) kw5 dX13_init_469) <|
    BS.sq (pc' := 474) (s_putF tyX13 93 isR inX13 tyX13_ok nmX13 kc15 (by decide) kw504 rfl rfl rfl rfl (okf_A G _) dX13_init_471) <|
    BS.sq (pc' := 475) (s_aload_n (k := 0) 0 rfl dX13_init_474) <|
    BS.sq (pc' := 478) (s_sipush 5100 (by decide +kernel) dX13_init_475) <|
    BS.sq (pc' := 480) (s_newa 0 (.inl 0) (by decide) rfl rfl (fun _ _ h => h) (by decide) kw5 dX13_init_478) <|
    BS.sq (pc' := 483) (s_putF tyX13 95 isR inX13 tyX13_ok nmX13 kc15 (by decide) kw505 rfl rfl rfl rfl (okf_A G _) dX13_init_480) <|
    BS.sq (pc' := 484) (s_aload_n (k := 0) 0 rfl dX13_init_483) <|
    BS.sq (pc' := 487) (s_sipush 5100 (by decide +kernel) dX13_init_484) <|
    BS.sq (pc' := 489) (s_newa 0 (.inl 0) (by decide) rfl rfl (fun _ _ h => h) (by decide) kw5 dX13_init_487) <|
    BS.sq (pc' := 492) (s_putF tyX13 96 isR inX13 tyX13_ok nmX13 kc15 (by decide) kw506 rfl rfl rfl rfl (okf_A G _) dX13_init_489) <|
    BS.sq (pc' := 493) (s_aload_n (k := 0) 0 rfl dX13_init_492) <|
    BS.sq (pc' := 496) (s_sipush 5100 (by decide +kernel) dX13_init_493) <|
    BS.sq (pc' := 498) (s_newa 0 (.inl 0) (by decide) rfl rfl (fun _ _ h => h) (by decide) kw5 dX13_init_496) <|
    BS.sq (pc' := 501) (s_putF tyX13 97 isR inX13 tyX13_ok nmX13 kc15 (by decide) kw507 rfl rfl rfl rfl (okf_A G _) dX13_init_498) <|
    BS.sq (pc' := 502) (s_aload_n (k := 0) 0 rfl dX13_init_501) <|
    BS.sq (pc' := 505) (s_sipush 5100 (by decide +kernel) dX13_init_502) <|
    BS.sq (pc' := 507) (s_newa 0 (.inl 0) (by decide) rfl rfl (fun _ _ h => h) (by decide) kw5 dX13_init_505) <|
    BS.sq (pc' := 510) (s_putF tyX13 98 isR inX13 tyX13_ok nmX13 kc15 (by decide) kw508 rfl rfl rfl rfl (okf_A G _) dX13_init_507) <|
    BS.sq (pc' := 511) (s_aload_n (k := 0) 0 rfl dX13_init_510) <|
    BS.sq (pc' := 514) (s_sipush 5100 (by decide +kernel) dX13_init_511) <|
    BS.sq (pc' := 516) (s_newa 0 (.inl 0) (by decide) rfl rfl (fun _ _ h => h) (by decide) kw5 dX13_init_514) <|
    BS.sq (pc' := 519) (s_putF tyX13 99 isR inX13 tyX13_ok nmX13 kc15 (by decide) kw509 rfl rfl rfl rfl (okf_A G _) dX13_init_516) <|
    BS.sq (pc' := 520) (s_aload_n (k := 0) 0 rfl dX13_init_519) <|
    BS.go rfl) <|
  AllB.c (pb := 520) (
    BS.sq (pc' := 523) (s_sipush 5100 (by decide +kernel) dX13_init_520) <|
    BS.sq (pc' := 525) (s_newa 0 (.inl 0) (by decide) rfl rfl (fun _ _ h => h) (by decide) kw5 dX13_init_523) <|
    BS.sq (pc' := 528) (s_putF tyX13 100 isR inX13 tyX13_ok nmX13 kc15 (by decide) kw510 rfl rfl rfl rfl (okf_A G _) dX13_init_525) <|
    BS.sq (pc' := 529) (s_aload_n (k := 0) 0 rfl dX13_init_528) <|
    BS.sq (pc' := 532) (s_sipush 5100 (by decide +kernel) dX13_init_529) <|
    BS.sq (pc' := 534) (s_newa 0 (.inl 0) (by decide) rfl rfl (fun _ _ h => h) (by decide) kw5 dX13_init_532) <|
    BS.sq (pc' := 537) (s_putF tyX13 101 isR inX13 tyX13_ok nmX13 kc15 (by decide) kw511 rfl rfl rfl rfl (okf_A G _) dX13_init_534) <|
    BS.sq (pc' := 538) (s_aload_n (k := 0) 0 rfl dX13_init_537) <|
    BS.sq (pc' := 541) (s_sipush 1110 (by decide +kernel) dX13_init_538) <|
    BS.sq (pc' := 543) (s_newa 0 (.inl 0) (by decide) rfl rfl (fun _ _ h => h) (by decide) kw5 dX13_init_541) <|
    BS.sq (pc' := 546) (s_putF tyX13 103 isR inX13 tyX13_ok nmX13 kc15 (by decide) kw512 rfl rfl rfl rfl (okf_A G _) dX13_init_543) <|
    BS.sq (pc' := 547) (s_aload_n (k := 0) 0 rfl dX13_init_546) <|
    BS.sq (pc' := 550) (s_sipush 1110 (by decide +kernel) dX13_init_547) <|
    BS.sq (pc' := 552) (s_newa 0 (.inl 0) (by decide) rfl rfl (fun _ _ h => h) (by decide) kw5 dX13_init_550) <|
    BS.sq (pc' := 555) (s_putF tyX13 104 isR inX13 tyX13_ok nmX13 kc15 (by decide) kw513 rfl rfl rfl rfl (okf_A G _) dX13_init_552) <|
    BS.sq (pc' := 556) (s_aload_n (k := 0) 0 rfl dX13_init_555) <|
    BS.sq (pc' := 559) (s_sipush 1110 (by decide +kernel) dX13_init_556) <|
    BS.sq (pc' := 561) (s_newa 0 (.inl 0) (by decide) rfl rfl (fun _ _ h => h) (by decide) kw5 dX13_init_559) <|
    BS.sq (pc' := 564) (s_putF tyX13 105 isR inX13 tyX13_ok nmX13 kc15 (by decide) kw514 rfl rfl rfl rfl (okf_A G _) dX13_init_561) <|
    BS.sq (pc' := 565) (s_aload_n (k := 0) 0 rfl dX13_init_564) <|
    BS.sq (pc' := 568) (s_sipush 1110 (by decide +kernel) dX13_init_565) <|
    BS.sq (pc' := 570) (s_newa 1 (.inr (.inl 0)) (by decide) rfl rfl (fun _ _ h => h) (by decide) kw26 dX13_init_568) <|
    BS.sq (pc' := 573) (s_putF tyX13 106 isR inX13 tyX13_ok nmX13 kc15 (by decide) kw515 rfl rfl rfl rfl (okf_A G _) dX13_init_570) <|
    BS.sq (pc' := 574) (s_aload_n (k := 0) 0 rfl dX13_init_573) <|
    BS.sq (pc' := 577) (s_sipush 140 (by decide +kernel) dX13_init_574) <|
    BS.sq (pc' := 579) (s_newa 2 (.inl 0) (by decide) rfl rfl (fun _ _ h => h) (by decide) kw3 dX13_init_577) <|
    BS.sq (pc' := 582) (s_putF tyX13 107 isR inX13 tyX13_ok nmX13 kc15 (by decide) kw516 rfl rfl rfl rfl (okf_A G _) dX13_init_579) <|
    BS.sq (pc' := 583) (s_aload_n (k := 0) 0 rfl dX13_init_582) <|
    BS.sq (pc' := 586) (s_sipush 1110 (by decide +kernel) dX13_init_583) <|
    BS.sq (pc' := 588) (s_newa 1 (.inr (.inl 0)) (by decide) rfl rfl (fun _ _ h => h) (by decide) kw26 dX13_init_586) <|
    BS.sq (pc' := 591) (s_putF tyX13 111 isR inX13 tyX13_ok nmX13 kc15 (by decide) kw517 rfl rfl rfl rfl (okf_A G _) dX13_init_588) <|
    BS.sq (pc' := 592) (s_aload_n (k := 0) 0 rfl dX13_init_591) <|
    BS.sq (pc' := 595) (s_sipush 1110 (by decide +kernel) dX13_init_592) <|
    BS.sq (pc' := 597) (s_newa 0 (.inl 0) (by decide) rfl rfl (fun _ _ h => h) (by decide) kw5 dX13_init_595) <|
    BS.sq (pc' := 600) (s_putF tyX13 112 isR inX13 tyX13_ok nmX13 kc15 (by decide) kw518 rfl rfl rfl rfl (okf_A G _) dX13_init_597) <|
    BS.sq (pc' := 601) (s_aload_n (k := 0) 0 rfl dX13_init_600) <|
    BS.sq (pc' := 604) (s_sipush 1110 (by decide +kernel) dX13_init_601) <|
    BS.sq (pc' := 606) (s_newa 0 (.inl 0) (by decide) rfl rfl (fun _ _ h => h) (by decide) kw5 dX13_init_604) <|
    BS.sq (pc' := 609) (s_putF tyX13 113 isR inX13 tyX13_ok nmX13 kc15 (by decide) kw519 rfl rfl rfl rfl (okf_A G _) dX13_init_606) <|
    BS.sq (pc' := 610) (s_aload_n (k := 0) 0 rfl dX13_init_609) <|
    BS.sq (pc' := 613) (s_sipush 1110 (by decide +kernel) dX13_init_610) <|
    BS.sq (pc' := 615) (s_newa 0 (.inl 0) (by decide) rfl rfl (fun _ _ h => h) (by decide) kw5 dX13_init_613) <|
    BS.sq (pc' := 618) (s_putF tyX13 114 isR inX13 tyX13_ok nmX13 kc15 (by decide) kw520 rfl rfl rfl rfl (okf_A G _) dX13_init_615) <|
    BS.sq (pc' := 619) (s_aload_n (k := 0) 0 rfl dX13_init_618) <|
    BS.sq (pc' := 622) (s_sipush 1110 (by decide +kernel) dX13_init_619) <|
    BS.sq (pc' := 624) (s_newa 0 (.inl 0) (by decide) rfl rfl (fun _ _ h => h) (by decide) kw5 dX13_init_622) <|
    BS.sq (pc' := 627) (s_putF tyX13 116 isR inX13 tyX13_ok nmX13 kc15 (by decide) kw521 rfl rfl rfl rfl (okf_A G _) dX13_init_624) <|
    BS.sq (pc' := 628) (s_aload_n (k := 0) 0 rfl dX13_init_627) <|
    BS.sq (pc' := 631) (s_sipush 4104 (by decide +kernel) dX13_init_628) <|
    BS.sq (pc' := 633) (s_newa 0 (.inl 0) (by decide) rfl rfl (fun _ _ h => h) (by decide) kw5 dX13_init_631) <|
    BS.sq (pc' := 636) (s_putF tyX13 119 isR inX13 tyX13_ok nmX13 kc15 (by decide) kw522 rfl rfl rfl rfl (okf_A G _) dX13_init_633) <|
    BS.sq (pc' := 637) (s_aload_n (k := 0) 0 rfl dX13_init_636) <|
    BS.sq (pc' := 640) (s_sipush 4104 (by decide +kernel) dX13_init_637) <|
    BS.sq (pc' := 642) (s_newa 0 (.inl 0) (by decide) rfl rfl (fun _ _ h => h) (by decide) kw5 dX13_init_640) <|
    BS.sq (pc' := 645) (s_putF tyX13 120 isR inX13 tyX13_ok nmX13 kc15 (by decide) kw523 rfl rfl rfl rfl (okf_A G _) dX13_init_642) <|
    BS.sq (pc' := 646) (s_aload_n (k := 0) 0 rfl dX13_init_645) <|
    BS.sq (pc' := 649) (s_sipush 4104 (by decide +kernel) dX13_init_646) <|
    BS.sq (pc' := 651) (s_newa 0 (.inl 0) (by decide) rfl rfl (fun _ _ h => h) (by decide) kw5 dX13_init_649) <|
    BS.sq (pc' := 654) (s_putF tyX13 121 isR inX13 tyX13_ok nmX13 kc15 (by decide) kw524 rfl rfl rfl rfl (okf_A G _) dX13_init_651) <|
    BS.sq (pc' := 655) (s_aload_n (k := 0) 0 rfl dX13_init_654) <|
    BS.go rfl) <|
  AllB.c (pb := 655) (
    BS.sq (pc' := 656) (s_iconst 4 (by decide +kernel) dX13_init_655) <|
    BS.sq (pc' := 658) (s_newa 0 (.inl 0) (by decide) rfl rfl (fun _ _ h => h) (by decide) kw5 dX13_init_656) <|
    BS.sq (pc' := 661) (s_putF tyX13 126 isR inX13 tyX13_ok nmX13 kc15 (by decide) kw525 rfl rfl rfl rfl (okf_A G _) dX13_init_658) <|
    BS.sq (pc' := 662) (s_aload_n (k := 0) 0 rfl dX13_init_661) <|
    BS.sq (pc' := 663) (s_iconst 4 (by decide +kernel) dX13_init_662) <|
    BS.sq (pc' := 665) (s_newa 0 (.inl 0) (by decide) rfl rfl (fun _ _ h => h) (by decide) kw5 dX13_init_663) <|
    BS.sq (pc' := 668) (s_putF tyX13 127 isR inX13 tyX13_ok nmX13 kc15 (by decide) kw526 rfl rfl rfl rfl (okf_A G _) dX13_init_665) <|
    BS.sq (pc' := 669) (s_aload_n (k := 0) 0 rfl dX13_init_668) <|
    BS.sq (pc' := 670) (s_iconst 4 (by decide +kernel) dX13_init_669) <|
    BS.sq (pc' := 672) (s_newa 0 (.inl 0) (by decide) rfl rfl (fun _ _ h => h) (by decide) kw5 dX13_init_670) <|
    BS.sq (pc' := 675) (s_putF tyX13 128 isR inX13 tyX13_ok nmX13 kc15 (by decide) kw527 rfl rfl rfl rfl (okf_A G _) dX13_init_672) <|
    BS.sq (pc' := 676) (s_aload_n (k := 0) 0 rfl dX13_init_675) <|
    BS.sq (pc' := 677) (s_iconst 4 (by decide +kernel) dX13_init_676) <|
    BS.sq (pc' := 679) (s_newa 0 (.inl 0) (by decide) rfl rfl (fun _ _ h => h) (by decide) kw5 dX13_init_677) <|
    BS.sq (pc' := 682) (s_putF tyX13 129 isR inX13 tyX13_ok nmX13 kc15 (by decide) kw528 rfl rfl rfl rfl (okf_A G _) dX13_init_679) <|
    BS.sq (pc' := 683) (s_aload_n (k := 0) 0 rfl dX13_init_682) <|
    BS.sq (pc' := 684) (s_iconst 4 (by decide +kernel) dX13_init_683) <|
    BS.sq (pc' := 686) (s_newa 0 (.inl 0) (by decide) rfl rfl (fun _ _ h => h) (by decide) kw5 dX13_init_684) <|
    BS.sq (pc' := 689) (s_putF tyX13 130 isR inX13 tyX13_ok nmX13 kc15 (by decide) kw529 rfl rfl rfl rfl (okf_A G _) dX13_init_686) <|
    BS.sq (pc' := 690) (s_aload_n (k := 0) 0 rfl dX13_init_689) <|
    BS.sq (pc' := 693) (s_sipush 160 (by decide +kernel) dX13_init_690) <|
    BS.sq (pc' := 695) (s_newa 0 (.inl 0) (by decide) rfl rfl (fun _ _ h => h) (by decide) kw5 dX13_init_693) <|
    BS.sq (pc' := 698) (s_putF tyX13 142 isR inX13 tyX13_ok nmX13 kc15 (by decide) kw433 rfl rfl rfl rfl (okf_A G _) dX13_init_695) <|
    BS.sq (pc' := 699) (s_aload_n (k := 0) 0 rfl dX13_init_698) <|
    BS.sq (pc' := 702) (s_sipush 160 (by decide +kernel) dX13_init_699) <|
    BS.sq (pc' := 704) (s_newa 0 (.inl 0) (by decide) rfl rfl (fun _ _ h => h) (by decide) kw5 dX13_init_702) <|
    BS.sq (pc' := 707) (s_putF tyX13 143 isR inX13 tyX13_ok nmX13 kc15 (by decide) kw435 rfl rfl rfl rfl (okf_A G _) dX13_init_704) <|
    BS.sq (pc' := 708) (s_aload_n (k := 0) 0 rfl dX13_init_707) <|
    BS.sq (pc' := 711) (s_sipush 160 (by decide +kernel) dX13_init_708) <|
    BS.sq (pc' := 713) (s_newa 0 (.inl 0) (by decide) rfl rfl (fun _ _ h => h) (by decide) kw5 dX13_init_711) <|
    BS.sq (pc' := 716) (s_putF tyX13 144 isR inX13 tyX13_ok nmX13 kc15 (by decide) kw436 rfl rfl rfl rfl (okf_A G _) dX13_init_713) <|
    BS.sq (pc' := 717) (s_aload_n (k := 0) 0 rfl dX13_init_716) <|
    BS.sq (pc' := 720) (s_sipush 160 (by decide +kernel) dX13_init_717) <|
    BS.sq (pc' := 722) (s_newa 0 (.inl 0) (by decide) rfl rfl (fun _ _ h => h) (by decide) kw5 dX13_init_720) <|
    BS.sq (pc' := 725) (s_putF tyX13 145 isR inX13 tyX13_ok nmX13 kc15 (by decide) kw437 rfl rfl rfl rfl (okf_A G _) dX13_init_722) <|
    BS.sq (pc' := 726) (s_aload_n (k := 0) 0 rfl dX13_init_725) <|
    BS.sq (pc' := 729) (s_sipush 160 (by decide +kernel) dX13_init_726) <|
    BS.sq (pc' := 731) (s_newa 0 (.inl 0) (by decide) rfl rfl (fun _ _ h => h) (by decide) kw5 dX13_init_729) <|
    BS.sq (pc' := 734) (s_putF tyX13 146 isR inX13 tyX13_ok nmX13 kc15 (by decide) kw438 rfl rfl rfl rfl (okf_A G _) dX13_init_731) <|
    BS.sq (pc' := 735) (s_aload_n (k := 0) 0 rfl dX13_init_734) <|
    BS.sq (pc' := 738) (s_sipush 160 (by decide +kernel) dX13_init_735) <|
    BS.sq (pc' := 740) (s_newa 0 (.inl 0) (by decide) rfl rfl (fun _ _ h => h) (by decide) kw5 dX13_init_738) <|
    BS.sq (pc' := 743) (s_putF tyX13 147 isR inX13 tyX13_ok nmX13 kc15 (by decide) kw439 rfl rfl rfl rfl (okf_A G _) dX13_init_740) <|
    BS.sq (pc' := 744) (s_aload_n (k := 0) 0 rfl dX13_init_743) <|
    BS.sq (pc' := 747) (s_sipush 160 (by decide +kernel) dX13_init_744) <|
    BS.sq (pc' := 749) (s_newa 0 (.inl 0) (by decide) rfl rfl (fun _ _ h => h) (by decide) kw5 dX13_init_747) <|
    BS.sq (pc' := 752) (s_putF tyX13 148 isR inX13 tyX13_ok nmX13 kc15 (by decide) kw440 rfl rfl rfl rfl (okf_A G _) dX13_init_749) <|
    BS.sq (pc' := 753) (s_aload_n (k := 0) 0 rfl dX13_init_752) <|
    BS.sq (pc' := 755) (s_bipush 20 (by decide +kernel) dX13_init_753) <|
    BS.sq (pc' := 757) (s_newa 2 (.inl 0) (by decide) rfl rfl (fun _ _ h => h) (by decide) kw3 dX13_init_755) <|
    BS.sq (pc' := 760) (s_putF tyX13 149 isR inX13 tyX13_ok nmX13 kc15 (by decide) kw530 rfl rfl rfl rfl (okf_A G _) dX13_init_757) <|
    BS.sq (pc' := 761) (s_aload_n (k := 0) 0 rfl dX13_init_760) <|
    BS.sq (pc' := 763) (s_bipush 20 (by decide +kernel) dX13_init_761) <|
    BS.sq (pc' := 765) (s_newa 2 (.inl 0) (by decide) rfl rfl (fun _ _ h => h) (by decide) kw3 dX13_init_763) <|
    BS.sq (pc' := 768) (s_putF tyX13 150 isR inX13 tyX13_ok nmX13 kc15 (by decide) kw531 rfl rfl rfl rfl (okf_A G _) dX13_init_765) <|
    BS.sq (pc' := 769) (s_aload_n (k := 0) 0 rfl dX13_init_768) <|
    BS.sq (pc' := 772) (s_sipush 600 (by decide +kernel) dX13_init_769) <|
    BS.sq (pc' := 774) (s_newa 0 (.inl 0) (by decide) rfl rfl (fun _ _ h => h) (by decide) kw5 dX13_init_772) <|
    BS.sq (pc' := 777) (s_putF tyX13 164 isR inX13 tyX13_ok nmX13 kc15 (by decide) kw532 rfl rfl rfl rfl (okf_A G _) dX13_init_774) <|
    BS.sq (pc' := 778) (s_aload_n (k := 0) 0 rfl dX13_init_777) <|
    BS.go rfl) <|
  AllB.c (pb := 778) (
    BS.sq (pc' := 781) (s_sipush 600 (by decide +kernel) dX13_init_778) <|
    BS.sq (pc' := 783) (s_newa 0 (.inl 0) (by decide) rfl rfl (fun _ _ h => h) (by decide) kw5 dX13_init_781) <|
    BS.sq (pc' := 786) (s_putF tyX13 165 isR inX13 tyX13_ok nmX13 kc15 (by decide) kw533 rfl rfl rfl rfl (okf_A G _) dX13_init_783) <|
    BS.sq (pc' := 787) (s_aload_n (k := 0) 0 rfl dX13_init_786) <|
    BS.sq (pc' := 790) (s_new tyX12 inX12 tyX12_ok kc14 kw534 kw535 kw536 rfl rfl dX13_init_787) <|
    BS.sq (pc' := 791) (s_dup dX13_init_790) <|
    BS.sq (pc' := 794) (s_callIN 0 14 kc14 (ok_X12_init l) kGood kn3 kw538 kw536 kw537 rfl (by decide +kernel) (by decide) (by decide) dX13_init_791) <|
    BS.sq (pc' := 797) (s_putF tyX13 166 isR inX13 tyX13_ok nmX13 kc15 (by decide) kw539 rfl rfl rfl rfl (okf_O G _) dX13_init_794) <|
    BS.sq (pc' := 798) (s_aload_n (k := 0) 0 rfl dX13_init_797) <|
    BS.sq (pc' := 801) (s_new tyX12 inX12 tyX12_ok kc14 kw534 kw535 kw536 rfl rfl dX13_init_798) <|
    BS.sq (pc' := 802) (s_dup dX13_init_801) <|
    BS.sq (pc' := 805) (s_callIN 0 14 kc14 (ok_X12_init l) kGood kn3 kw538 kw536 kw537 rfl (by decide +kernel) (by decide) (by decide) dX13_init_802) <|
    BS.sq (pc' := 808) (s_putF tyX13 167 isR inX13 tyX13_ok nmX13 kc15 (by decide) kw540 rfl rfl rfl rfl (okf_O G _) dX13_init_805) <|
    BS.sq (pc' := 809) (s_aload_n (k := 0) 0 rfl dX13_init_808) <|
    BS.sq (pc' := 812) (s_ldcw 131072 kw541 dX13_init_809) <|
    BS.sq (pc' := 814) (s_newa 2 (.inl 0) (by decide) rfl rfl (fun _ _ h => h) (by decide) kw3 dX13_init_812) <|
    BS.sq (pc' := 817) (s_putF tyX13 169 isR inX13 tyX13_ok nmX13 kc15 (by decide) kw542 rfl rfl rfl rfl (okf_A G _) dX13_init_814) <|
    BS.sq (pc' := 818) (s_aload_n (k := 0) 0 rfl dX13_init_817) <|
    BS.sq (pc' := 820) (s_bipush 32 (by decide +kernel) dX13_init_818) <|
    BS.sq (pc' := 822) (s_newa 3 (.inl 0) (by decide) rfl rfl (fun _ _ h => h) (by decide) kw126 dX13_init_820) <|
    BS.sq (pc' := 825) (s_putF tyX13 170 isR inX13 tyX13_ok nmX13 kc15 (by decide) kw543 rfl rfl rfl rfl (okf_A G _) dX13_init_822) <|
    BS.sq (pc' := 826) (s_aload_n (k := 0) 0 rfl dX13_init_825) <|
    BS.sq (pc' := 829) (s_sipush 128 (by decide +kernel) dX13_init_826) <|
    BS.sq (pc' := 831) (s_newa 3 (.inl 0) (by decide) rfl rfl (fun _ _ h => h) (by decide) kw126 dX13_init_829) <|
    BS.sq (pc' := 834) (s_putF tyX13 171 isR inX13 tyX13_ok nmX13 kc15 (by decide) kw544 rfl rfl rfl rfl (okf_A G _) dX13_init_831) <|
    BS.sq (pc' := 835) (s_aload_n (k := 0) 0 rfl dX13_init_834) <|
    BS.sq (pc' := 838) (s_sipush 128 (by decide +kernel) dX13_init_835) <|
    BS.sq (pc' := 840) (s_newa 0 (.inl 0) (by decide) rfl rfl (fun _ _ h => h) (by decide) kw5 dX13_init_838) <|
    BS.sq (pc' := 843) (s_putF tyX13 172 isR inX13 tyX13_ok nmX13 kc15 (by decide) kw545 rfl rfl rfl rfl (okf_A G _) dX13_init_840) <|
    BS.sq (pc' := 844) (s_aload_n (k := 0) 0 rfl dX13_init_843) <|
    BS.sq (pc' := 846) (s_ldc 129024 kw460 dX13_init_844) <|
    BS.sq (pc' := 848) (s_newa 2 (.inl 0) (by decide) rfl rfl (fun _ _ h => h) (by decide) kw3 dX13_init_846) <|
    BS.sq (pc' := 851) (s_putF tyX13 175 isR inX13 tyX13_ok nmX13 kc15 (by decide) kw546 rfl rfl rfl rfl (okf_A G _) dX13_init_848) <|
    BS.sq (pc' := 852) (s_aload_n (k := 0) 0 rfl dX13_init_851) <|
    BS.sq (pc' := 855) (s_sipush 1025 (by decide +kernel) dX13_init_852) <|
    BS.sq (pc' := 857) (s_newa 0 (.inl 0) (by decide) rfl rfl (fun _ _ h => h) (by decide) kw5 dX13_init_855) <|
    BS.sq (pc' := 860) (s_putF tyX13 176 isR inX13 tyX13_ok nmX13 kc15 (by decide) kw547 rfl rfl rfl rfl (okf_A G _) dX13_init_857) <|
    BS.sq (pc' := 861) (s_aload_n (k := 0) 0 rfl dX13_init_860) <|
    BS.sq (pc' := 864) (s_sipush 1025 (by decide +kernel) dX13_init_861) <|
    BS.sq (pc' := 866) (s_newa 0 (.inl 0) (by decide) rfl rfl (fun _ _ h => h) (by decide) kw5 dX13_init_864) <|
    BS.sq (pc' := 869) (s_putF tyX13 177 isR inX13 tyX13_ok nmX13 kc15 (by decide) kw548 rfl rfl rfl rfl (okf_A G _) dX13_init_866) <|
    BS.sq (pc' := 870) (s_aload_n (k := 0) 0 rfl dX13_init_869) <|
    BS.sq (pc' := 873) (s_sipush 1025 (by decide +kernel) dX13_init_870) <|
    BS.sq (pc' := 875) (s_newa 0 (.inl 0) (by decide) rfl rfl (fun _ _ h => h) (by decide) kw5 dX13_init_873) <|
    BS.sq (pc' := 878) (s_putF tyX13 178 isR inX13 tyX13_ok nmX13 kc15 (by decide) kw549 rfl rfl rfl rfl (okf_A G _) dX13_init_875) <|
    BS.sq (pc' := 879) (s_aload_n (k := 0) 0 rfl dX13_init_878) <|
    BS.sq (pc' := 882) (s_ldcw 131072 kw541 dX13_init_879) <|
    BS.sq (pc' := 884) (s_newa 2 (.inl 0) (by decide) rfl rfl (fun _ _ h => h) (by decide) kw3 dX13_init_882) <|
    BS.sq (pc' := 887) (s_putF tyX13 180 isR inX13 tyX13_ok nmX13 kc15 (by decide) kw550 rfl rfl rfl rfl (okf_A G _) dX13_init_884) <|
    BS.sq (pc' := 888) (s_aload_n (k := 0) 0 rfl dX13_init_887) <|
    BS.sq (pc' := 890) (s_ldc 65536 kw450 dX13_init_888) <|
    BS.sq (pc' := 892) (s_newa 2 (.inl 0) (by decide) rfl rfl (fun _ _ h => h) (by decide) kw3 dX13_init_890) <|
    BS.sq (pc' := 895) (s_putF tyX13 181 isR inX13 tyX13_ok nmX13 kc15 (by decide) kw551 rfl rfl rfl rfl (okf_A G _) dX13_init_892) <|
    BS.sq (pc' := 896) (s_aload_n (k := 0) 0 rfl dX13_init_895) <|
    BS.sq (pc' := 898) (s_ldc 65536 kw450 dX13_init_896) <|
    BS.sq (pc' := 900) (s_newa 2 (.inl 0) (by decide) rfl rfl (fun _ _ h => h) (by decide) kw3 dX13_init_898) <|
    BS.sq (pc' := 903) (s_putF tyX13 182 isR inX13 tyX13_ok nmX13 kc15 (by decide) kw552 rfl rfl rfl rfl (okf_A G _) dX13_init_900) <|
    BS.sq (pc' := 904) (s_aload_n (k := 0) 0 rfl dX13_init_903) <|
    BS.sq (pc' := 906) (s_ldc 65536 kw450 dX13_init_904) <|
    BS.sq (pc' := 908) (s_newa 2 (.inl 0) (by decide) rfl rfl (fun _ _ h => h) (by decide) kw3 dX13_init_906) <|
    BS.go rfl) <|
  AllB.c (pb := 908) (
    BS.sq (pc' := 911) (s_putF tyX13 183 isR inX13 tyX13_ok nmX13 kc15 (by decide) kw553 rfl rfl rfl rfl (okf_A G _) dX13_init_908) <|
    BS.sq (pc' := 912) (s_aload_n (k := 0) 0 rfl dX13_init_911) <|
    BS.sq (pc' := 914) (s_ldc 65536 kw450 dX13_init_912) <|
    BS.sq (pc' := 916) (s_newa 2 (.inl 0) (by decide) rfl rfl (fun _ _ h => h) (by decide) kw3 dX13_init_914) <|
    BS.sq (pc' := 919) (s_putF tyX13 184 isR inX13 tyX13_ok nmX13 kc15 (by decide) kw554 rfl rfl rfl rfl (okf_A G _) dX13_init_916) <|
    BS.sq (pc' := 920) (s_aload_n (k := 0) 0 rfl dX13_init_919) <|
    BS.sq (pc' := 922) (s_bipush 16 (by decide +kernel) dX13_init_920) <|
    BS.sq (pc' := 924) (s_newa 1 (.inr (.inl 0)) (by decide) rfl rfl (fun _ _ h => h) (by decide) kw26 dX13_init_922) <|
    BS.sq (pc' := 927) (s_putF tyX13 188 isR inX13 tyX13_ok nmX13 kc15 (by decide) kw555 rfl rfl rfl rfl (okf_A G _) dX13_init_924) <|
    BS.sq (pc' := 928) (s_aload_n (k := 0) 0 rfl dX13_init_927) <|
    BS.sq (pc' := 930) (s_bipush 16 (by decide +kernel) dX13_init_928) <|
    BS.sq (pc' := 932) (s_newa 1 (.inr (.inl 0)) (by decide) rfl rfl (fun _ _ h => h) (by decide) kw26 dX13_init_930) <|
    BS.sq (pc' := 935) (s_putF tyX13 189 isR inX13 tyX13_ok nmX13 kc15 (by decide) kw556 rfl rfl rfl rfl (okf_A G _) dX13_init_932) <|
    BS.sq (pc' := 936) (s_aload_n (k := 0) 0 rfl dX13_init_935) <|
    BS.sq (pc' := 938) (s_bipush 16 (by decide +kernel) dX13_init_936) <|
    BS.sq (pc' := 940) (s_newa 1 (.inr (.inl 0)) (by decide) rfl rfl (fun _ _ h => h) (by decide) kw26 dX13_init_938) <|
    BS.sq (pc' := 943) (s_putF tyX13 199 isR inX13 tyX13_ok nmX13 kc15 (by decide) kw557 rfl rfl rfl rfl (okf_A G _) dX13_init_940) <|
    BS.sq (pc' := 944) (s_aload_n (k := 0) 0 rfl dX13_init_943) <|
    BS.sq (pc' := 947) (s_ldcSw 133 kr64 dX13_init_944) <|
    BS.sq (pc' := 948) (s_iconst 0 (by decide +kernel) dX13_init_947) <|
    BS.sq (pc' := 951) (s_callV 2 15 kc15 (mok_X13_wordsOf l) kGood kw559 kw560 kw561 kw315 kw558 (by decide +kernel) (by decide) (by decide) dX13_init_948) <|
    BS.sq (pc' := 952) (s_aload_n (k := 0) 0 rfl dX13_init_951) <|
    BS.sq (pc' := 955) (s_ldcSw 135 kr65 dX13_init_952) <|
    BS.sq (pc' := 957) (s_bipush 24 (by decide +kernel) dX13_init_955) <|
    BS.sq (pc' := 960) (s_callV 2 15 kc15 (mok_X13_wordsOf l) kGood kw559 kw560 kw561 kw315 kw558 (by decide +kernel) (by decide) (by decide) dX13_init_957) <|
    BS.sq (pc' := 961) (s_aload_n (k := 0) 0 rfl dX13_init_960) <|
    BS.sq (pc' := 964) (s_ldcSw 137 kr66 dX13_init_961) <|
    BS.sq (pc' := 966) (s_bipush 34 (by decide +kernel) dX13_init_964) <|
    BS.sq (pc' := 969) (s_callV 2 15 kc15 (mok_X13_conditions l) kGood kw563 kw564 kw565 kw315 kw562 (by decide +kernel) (by decide) (by decide) dX13_init_966) <|
    BS.sq (pc' := 970) (s_aload_n (k := 0) 0 rfl dX13_init_969) <|
    BS.sq (pc' := 973) (s_ldcSw 139 kr67 dX13_init_970) <|
    BS.sq (pc' := 975) (s_bipush 35 (by decide +kernel) dX13_init_973) <|
    BS.sq (pc' := 978) (s_callV 2 15 kc15 (mok_X13_conditions l) kGood kw563 kw564 kw565 kw315 kw562 (by decide +kernel) (by decide) (by decide) dX13_init_975) <|
    BS.sq (pc' := 979) (s_aload_n (k := 0) 0 rfl dX13_init_978) <|
    BS.sq (pc' := 982) (s_ldcSw 141 kr68 dX13_init_979) <|
    BS.sq (pc' := 984) (s_bipush 36 (by decide +kernel) dX13_init_982) <|
    BS.sq (pc' := 987) (s_callV 2 15 kc15 (mok_X13_conditions l) kGood kw563 kw564 kw565 kw315 kw562 (by decide +kernel) (by decide) (by decide) dX13_init_984) <|
    BS.sq (pc' := 988) (s_aload_n (k := 0) 0 rfl dX13_init_987) <|
    BS.sq (pc' := 991) (s_ldcSw 143 kr69 dX13_init_988) <|
    BS.sq (pc' := 994) (s_ldcw 262181 kw566 dX13_init_991) <|
    BS.sq (pc' := 997) (s_callV 2 15 kc15 (ok_X13_word l) kGood kw322 kw323 kw324 kw315 kw321 (by decide +kernel) (by decide) (by decide) dX13_init_994) <|
    BS.sq (pc' := 998) (s_aload_n (k := 0) 0 rfl dX13_init_997) <|
    BS.sq (pc' := 1001) (s_ldcSw 145 kr70 dX13_init_998) <|
    BS.sq (pc' := 1004) (s_ldcw 524325 kw567 dX13_init_1001) <|
    BS.sq (pc' := 1007) (s_callV 2 15 kc15 (ok_X13_word l) kGood kw322 kw323 kw324 kw315 kw321 (by decide +kernel) (by decide) (by decide) dX13_init_1004) <|
    BS.sq (pc' := 1008) (s_aload_n (k := 0) 0 rfl dX13_init_1007) <|
    BS.sq (pc' := 1011) (s_ldcSw 147 kr71 dX13_init_1008) <|
    BS.sq (pc' := 1014) (s_ldcw 262182 kw568 dX13_init_1011) <|
    BS.sq (pc' := 1017) (s_callV 2 15 kc15 (ok_X13_word l) kGood kw322 kw323 kw324 kw315 kw321 (by decide +kernel) (by decide) (by decide) dX13_init_1014) <|
    BS.sq (pc' := 1018) (s_aload_n (k := 0) 0 rfl dX13_init_1017) <|
    BS.sq (pc' := 1021) (s_ldcSw 149 kr72 dX13_init_1018) <|
    BS.sq (pc' := 1024) (s_ldcw 524326 kw569 dX13_init_1021) <|
    BS.sq (pc' := 1027) (s_callV 2 15 kc15 (ok_X13_word l) kGood kw322 kw323 kw324 kw315 kw321 (by decide +kernel) (by decide) (by decide) dX13_init_1024) <|
    BS.sq (pc' := 1028) (s_aload_n (k := 0) 0 rfl dX13_init_1027) <|
    BS.sq (pc' := 1031) (s_ldcSw 151 kr73 dX13_init_1028) <|
    BS.sq (pc' := 1033) (s_bipush 39 (by decide +kernel) dX13_init_1031) <|
    BS.sq (pc' := 1036) (s_callV 2 15 kc15 (mok_X13_wordsOf l) kGood kw559 kw560 kw561 kw315 kw558 (by decide +kernel) (by decide) (by decide) dX13_init_1033) <|
    BS.sq (pc' := 1037) (s_aload_n (k := 0) 0 rfl dX13_init_1036) <|
    BS.sq (pc' := 1040) (s_ldcSw 153 kr74 dX13_init_1037) <|
    BS.sq (pc' := 1043) (s_ldcw 65586 kw570 dX13_init_1040) <|
    BS.go rfl) <|
  AllB.c (pb := 1043) (
    BS.sq (pc' := 1046) (s_callV 2 15 kc15 (ok_X13_word l) kGood kw322 kw323 kw324 kw315 kw321 (by decide +kernel) (by decide) (by decide) dX13_init_1043) <|
    BS.sq (pc' := 1047) (s_aload_n (k := 0) 0 rfl dX13_init_1046) <|
    BS.sq (pc' := 1050) (s_ldcSw 155 kr75 dX13_init_1047) <|
    BS.sq (pc' := 1053) (s_ldcw 262194 kw571 dX13_init_1050) <|
    BS.sq (pc' := 1056) (s_callV 2 15 kc15 (ok_X13_word l) kGood kw322 kw323 kw324 kw315 kw321 (by decide +kernel) (by decide) (by decide) dX13_init_1053) <|
    BS.sq (pc' := 1057) (s_aload_n (k := 0) 0 rfl dX13_init_1056) <|
    BS.sq (pc' := 1060) (s_ldcSw 157 kr76 dX13_init_1057) <|
    BS.sq (pc' := 1063) (s_ldcw 524338 kw572 dX13_init_1060) <|
    BS.sq (pc' := 1066) (s_callV 2 15 kc15 (ok_X13_word l) kGood kw322 kw323 kw324 kw315 kw321 (by decide +kernel) (by decide) (by decide) dX13_init_1063) <|
    BS.sq (pc' := 1067) (s_aload_n (k := 0) 0 rfl dX13_init_1066) <|
    BS.sq (pc' := 1070) (s_ldcSw 159 kr77 dX13_init_1067) <|
    BS.sq (pc' := 1073) (s_ldcw 65587 kw573 dX13_init_1070) <|
    BS.sq (pc' := 1076) (s_callV 2 15 kc15 (ok_X13_word l) kGood kw322 kw323 kw324 kw315 kw321 (by decide +kernel) (by decide) (by decide) dX13_init_1073) <|
    BS.sq (pc' := 1077) (s_aload_n (k := 0) 0 rfl dX13_init_1076) <|
    BS.sq (pc' := 1080) (s_ldcSw 161 kr78 dX13_init_1077) <|
    BS.sq (pc' := 1083) (s_ldcw 262195 kw574 dX13_init_1080) <|
    BS.sq (pc' := 1086) (s_callV 2 15 kc15 (ok_X13_word l) kGood kw322 kw323 kw324 kw315 kw321 (by decide +kernel) (by decide) (by decide) dX13_init_1083) <|
    BS.sq (pc' := 1087) (s_aload_n (k := 0) 0 rfl dX13_init_1086) <|
    BS.sq (pc' := 1090) (s_ldcSw 163 kr79 dX13_init_1087) <|
    BS.sq (pc' := 1093) (s_ldcw 524339 kw575 dX13_init_1090) <|
    BS.sq (pc' := 1096) (s_callV 2 15 kc15 (ok_X13_word l) kGood kw322 kw323 kw324 kw315 kw321 (by decide +kernel) (by decide) (by decide) dX13_init_1093) <|
    BS.sq (pc' := 1097) (s_aload_n (k := 0) 0 rfl dX13_init_1096) <|
    BS.sq (pc' := 1100) (s_ldcSw 165 kr80 dX13_init_1097) <|
    BS.sq (pc' := 1102) (s_bipush 100 (by decide +kernel) dX13_init_1100) <|
    BS.sq (pc' := 1105) (s_callV 2 15 kc15 (mok_X13_wordsOf l) kGood kw559 kw560 kw561 kw315 kw558 (by decide +kernel) (by decide) (by decide) dX13_init_1102) <|
    BS.sq (pc' := 1106) (s_iconst 0 (by decide +kernel) dX13_init_1105) <|
    BS.sq (pc' := 1107) (s_istore_n (k := 1) 1 rfl (by decide) dX13_init_1106) <|
    BS.go rfl) <|
  AllB.c (pb := 1107) (
    BS.sq (pc' := 1108) (s_iload_n (k := 1) 1 rfl dX13_init_1107) <|
    BS.sq (pc' := 1109) (s_iconst 5 (by decide +kernel) dX13_init_1108) <|
    s_icmp_ge rfl rfl (by decide) dX13_init_1109) <|
  AllB.c (pb := 1112) (
    BS.sq (pc' := 1113) (s_aload_n (k := 0) 0 rfl dX13_init_1112) <|
    BS.sq (pc' := 1114) (s_iload_n (k := 1) 1 rfl dX13_init_1113) <|
    s_if_ne rfl rfl (by decide) dX13_init_1114) <|
  AllB.c (pb := 1117) (
    BS.sq (pc' := 1120) (s_ldcSw 167 kr81 dX13_init_1117) <|
    s_goto rfl (by decide) dX13_init_1120) <|
  AllB.c (pb := 1123) (
    BS.sq (pc' := 1124) (s_iload_n (k := 1) 1 rfl dX13_init_1123) <|
    BS.sq (pc' := 1125) (s_iconst 1 (by decide +kernel) dX13_init_1124) <|
    s_icmp_ne rfl rfl (by decide) dX13_init_1125) <|
  AllB.c (pb := 1128) (
    BS.sq (pc' := 1131) (s_ldcSw 169 kr82 dX13_init_1128) <|
    s_goto rfl (by decide) dX13_init_1131) <|
  AllB.c (pb := 1134) (
    BS.sq (pc' := 1135) (s_iload_n (k := 1) 1 rfl dX13_init_1134) <|
    BS.sq (pc' := 1136) (s_iconst 2 (by decide +kernel) dX13_init_1135) <|
    s_icmp_ne rfl rfl (by decide) dX13_init_1136) <|
  AllB.c (pb := 1139) (
    BS.sq (pc' := 1142) (s_ldcSw 171 kr83 dX13_init_1139) <|
    s_goto rfl (by decide) dX13_init_1142) <|
  AllB.c (pb := 1145) (
    BS.sq (pc' := 1146) (s_iload_n (k := 1) 1 rfl dX13_init_1145) <|
    BS.sq (pc' := 1147) (s_iconst 3 (by decide +kernel) dX13_init_1146) <|
    s_icmp_ne rfl rfl (by decide) dX13_init_1147) <|
  AllB.c (pb := 1150) (
    BS.sq (pc' := 1153) (s_ldcSw 173 kr84 dX13_init_1150) <|
    s_goto rfl (by decide) dX13_init_1153) <|
  AllB.c (pb := 1156) (
    BS.sq (pc' := 1159) (s_ldcSw 175 kr85 dX13_init_1156) <|
    BS.go rfl) <|
  AllB.c (pb := 1159) (
    BS.sq (pc' := 1161) (s_bipush 120 (by decide +kernel) dX13_init_1159) <|
    BS.sq (pc' := 1164) (s_callV 2 15 kc15 (ok_X13_word l) kGood kw322 kw323 kw324 kw315 kw321 (by decide +kernel) (by decide) (by decide) dX13_init_1161) <|
    BS.sq (pc' := 1167) (s_iinc 1 1 (1) (by decide +kernel) (by decide) dX13_init_1164) <|
    s_goto rfl (by decide) dX13_init_1167) <|
  AllB.c (pb := 1170) (
    BS.sq (pc' := 1171) (s_aload_n (k := 0) 0 rfl dX13_init_1170) <|
    BS.sq (pc' := 1174) (s_callV 0 15 kc15 (mok_X13_registerNames l) kGood kw577 kw578 kw579 kw315 kw576 (by decide +kernel) (by decide) (by decide) dX13_init_1171) <|
    BS.sq (pc' := 1175) (s_aload_n (k := 0) 0 rfl dX13_init_1174) <|
    BS.sq (pc' := 1178) (s_ldcSw 177 kr86 dX13_init_1175) <|
    BS.sq (pc' := 1181) (s_callS 1 (ok_X13_pack l) kGood kw313 kw314 kw315 kw312 (by decide +kernel) (by decide) (by decide) dX13_init_1178) <|
    BS.sq (pc' := 1184) (s_putF tyX13 9 isJ inX13 tyX13_ok nmX13 kc15 (by decide) kw580 rfl rfl rfl rfl (okf_J G) dX13_init_1181) <|
    BS.sq (pc' := 1185) (s_aload_n (k := 0) 0 rfl dX13_init_1184) <|
    BS.sq (pc' := 1188) (s_ldcSw 179 kr87 dX13_init_1185) <|
    BS.sq (pc' := 1191) (s_callS 1 (ok_X13_pack l) kGood kw313 kw314 kw315 kw312 (by decide +kernel) (by decide) (by decide) dX13_init_1188) <|
    BS.sq (pc' := 1194) (s_putF tyX13 10 isJ inX13 tyX13_ok nmX13 kc15 (by decide) kw581 rfl rfl rfl rfl (okf_J G) dX13_init_1191) <|
    BS.sq (pc' := 1195) (s_aload_n (k := 0) 0 rfl dX13_init_1194) <|
    BS.sq (pc' := 1198) (s_ldcSw 181 kr88 dX13_init_1195) <|
    BS.sq (pc' := 1201) (s_callS 1 (ok_X13_pack l) kGood kw313 kw314 kw315 kw312 (by decide +kernel) (by decide) (by decide) dX13_init_1198) <|
    BS.sq (pc' := 1204) (s_putF tyX13 11 isJ inX13 tyX13_ok nmX13 kc15 (by decide) kw582 rfl rfl rfl rfl (okf_J G) dX13_init_1201) <|
    BS.sq (pc' := 1205) (s_aload_n (k := 0) 0 rfl dX13_init_1204) <|
    BS.sq (pc' := 1208) (s_ldcSw 183 kr89 dX13_init_1205) <|
    BS.sq (pc' := 1211) (s_callS 1 (ok_X13_pack l) kGood kw313 kw314 kw315 kw312 (by decide +kernel) (by decide) (by decide) dX13_init_1208) <|
    BS.sq (pc' := 1214) (s_putF tyX13 12 isJ inX13 tyX13_ok nmX13 kc15 (by decide) kw583 rfl rfl rfl rfl (okf_J G) dX13_init_1211) <|
    BS.sq (pc' := 1215) (s_aload_n (k := 0) 0 rfl dX13_init_1214) <|
    BS.sq (pc' := 1218) (s_ldcSw 167 kr81 dX13_init_1215) <|
    BS.sq (pc' := 1221) (s_callS 1 (ok_X13_pack l) kGood kw313 kw314 kw315 kw312 (by decide +kernel) (by decide) (by decide) dX13_init_1218) <|
    BS.sq (pc' := 1224) (s_putF tyX13 13 isJ inX13 tyX13_ok nmX13 kc15 (by decide) kw584 rfl rfl rfl rfl (okf_J G) dX13_init_1221) <|
    BS.sq (pc' := 1225) (s_aload_n (k := 0) 0 rfl dX13_init_1224) <|
    BS.sq (pc' := 1228) (s_ldcSw 169 kr82 dX13_init_1225) <|
    BS.sq (pc' := 1231) (s_callS 1 (ok_X13_pack l) kGood kw313 kw314 kw315 kw312 (by decide +kernel) (by decide) (by decide) dX13_init_1228) <|
    BS.sq (pc' := 1234) (s_putF tyX13 14 isJ inX13 tyX13_ok nmX13 kc15 (by decide) kw585 rfl rfl rfl rfl (okf_J G) dX13_init_1231) <|
    BS.sq (pc' := 1235) (s_aload_n (k := 0) 0 rfl dX13_init_1234) <|
    BS.sq (pc' := 1238) (s_ldcSw 171 kr83 dX13_init_1235) <|
    BS.sq (pc' := 1241) (s_callS 1 (ok_X13_pack l) kGood kw313 kw314 kw315 kw312 (by decide +kernel) (by decide) (by decide) dX13_init_1238) <|
    BS.sq (pc' := 1244) (s_putF tyX13 15 isJ inX13 tyX13_ok nmX13 kc15 (by decide) kw586 rfl rfl rfl rfl (okf_J G) dX13_init_1241) <|
    BS.sq (pc' := 1245) (s_aload_n (k := 0) 0 rfl dX13_init_1244) <|
    BS.sq (pc' := 1248) (s_ldcSw 173 kr84 dX13_init_1245) <|
    BS.sq (pc' := 1251) (s_callS 1 (ok_X13_pack l) kGood kw313 kw314 kw315 kw312 (by decide +kernel) (by decide) (by decide) dX13_init_1248) <|
    BS.sq (pc' := 1254) (s_putF tyX13 16 isJ inX13 tyX13_ok nmX13 kc15 (by decide) kw587 rfl rfl rfl rfl (okf_J G) dX13_init_1251) <|
    BS.sq (pc' := 1255) (s_aload_n (k := 0) 0 rfl dX13_init_1254) <|
    BS.sq (pc' := 1258) (s_ldcSw 175 kr85 dX13_init_1255) <|
    BS.sq (pc' := 1261) (s_callS 1 (ok_X13_pack l) kGood kw313 kw314 kw315 kw312 (by decide +kernel) (by decide) (by decide) dX13_init_1258) <|
    BS.sq (pc' := 1264) (s_putF tyX13 17 isJ inX13 tyX13_ok nmX13 kc15 (by decide) kw588 rfl rfl rfl rfl (okf_J G) dX13_init_1261) <|
    BS.sq (pc' := 1265) (s_aload_n (k := 0) 0 rfl dX13_init_1264) <|
    BS.sq (pc' := 1268) (s_ldcSw 185 kr90 dX13_init_1265) <|
    BS.sq (pc' := 1271) (s_callS 1 (ok_X13_pack l) kGood kw313 kw314 kw315 kw312 (by decide +kernel) (by decide) (by decide) dX13_init_1268) <|
    BS.sq (pc' := 1274) (s_putF tyX13 18 isJ inX13 tyX13_ok nmX13 kc15 (by decide) kw589 rfl rfl rfl rfl (okf_J G) dX13_init_1271) <|
    BS.sq (pc' := 1275) (s_aload_n (k := 0) 0 rfl dX13_init_1274) <|
    BS.sq (pc' := 1278) (s_ldcSw 187 kr91 dX13_init_1275) <|
    BS.sq (pc' := 1281) (s_callS 1 (ok_X13_pack l) kGood kw313 kw314 kw315 kw312 (by decide +kernel) (by decide) (by decide) dX13_init_1278) <|
    BS.sq (pc' := 1284) (s_putF tyX13 19 isJ inX13 tyX13_ok nmX13 kc15 (by decide) kw590 rfl rfl rfl rfl (okf_J G) dX13_init_1281) <|
    BS.sq (pc' := 1285) (s_aload_n (k := 0) 0 rfl dX13_init_1284) <|
    BS.sq (pc' := 1288) (s_callV 0 15 kc15 (mok_X13_fillTable l) kGood kw592 kw593 kw594 kw315 kw591 (by decide +kernel) (by decide) (by decide) dX13_init_1285) <|
    s_ret rfl dX13_init_1288) <|
  AllB.n)
