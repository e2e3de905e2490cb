/-! THE LAW'S WALK (written by wip/p2/genwalk.py) -/
theorem hdV_X11_feed : yX11_feed.cls = RX11 ∧ yX11_feed.cls ≠ "java/lang/invoke/MethodHandle" ∧ yX11_feed.cls ≠ "java/lang/invoke/VarHandle" ∧ (parseMethodDescriptor yX11_feed.desc).map (fun d => d.parameters.length) = some 5 := by decide +kernel
theorem sl0 (l : Launch) {G : rGm} {cc : ByteArray} {nL n fr lo : Nat} {ret : Option FieldType} {Qf : kQf} (hf : 2 ≤ fr) (hlo : 47 ≤ lo) : ySite gAll LAll vwCl rFo rZs rRs rNs rTs G l cc nL RL ret fr lo n Qf 182 39 cq259 := ys_V 5 0 13 rc259 lo_0 kc13 (m259 l) kGood kw991 kw992 kw994 kw599 kw993 hdV_X11_feed hf hlo
theorem hdV_X13_feed : yX13_feed.cls = RX13 ∧ yX13_feed.cls ≠ "java/lang/invoke/MethodHandle" ∧ yX13_feed.cls ≠ "java/lang/invoke/VarHandle" ∧ (parseMethodDescriptor yX13_feed.desc).map (fun d => d.parameters.length) = some 5 := by decide +kernel
theorem sl1 (l : Launch) {G : rGm} {cc : ByteArray} {nL n fr lo : Nat} {ret : Option FieldType} {Qf : kQf} (hf : 1 ≤ fr) (hlo : 27 ≤ lo) : ySite gAll LAll vwCl rFo rZs rRs rNs rTs G l cc nL RL ret fr lo n Qf 182 43 cq416 := ys_V 5 13454 15 rc416 lo_13454 kc15 (m416 l) kGood kw995 kw996 kw998 kw315 kw997 hdV_X13_feed hf hlo
theorem hdV_X13_unit : yX13_unit.cls = RX13 ∧ yX13_unit.cls ≠ "java/lang/invoke/MethodHandle" ∧ yX13_unit.cls ≠ "java/lang/invoke/VarHandle" ∧ (parseMethodDescriptor yX13_unit.desc).map (fun d => d.parameters.length) = some 2 := by decide +kernel
theorem sl2 (l : Launch) {G : rGm} {cc : ByteArray} {nL n fr lo : Nat} {ret : Option FieldType} {Qf : kQf} (hf : 11 ≤ fr) (hlo : 280 ≤ lo) : ySite gAll LAll vwCl rFo rZs rRs rNs rTs G l cc nL RL ret fr lo n Qf 182 49 cq481 := ys_V 2 13454 15 rc481 lo_13454 kc15 (m481 l) kGood kw1003 kw1004 kw1006 kw315 kw1005 hdV_X13_unit hf hlo
theorem hdV_X11_clear : yX11_clear.cls = RX11 ∧ yX11_clear.cls ≠ "java/lang/invoke/MethodHandle" ∧ yX11_clear.cls ≠ "java/lang/invoke/VarHandle" ∧ (parseMethodDescriptor yX11_clear.desc).map (fun d => d.parameters.length) = some 0 := by decide +kernel
theorem sl3 (l : Launch) {G : rGm} {cc : ByteArray} {nL n fr lo : Nat} {ret : Option FieldType} {Qf : kQf} (hf : 3 ≤ fr) (hlo : 61 ≤ lo) : ySite gAll LAll vwCl rFo rZs rRs rNs rTs G l cc nL RL ret fr lo n Qf 182 50 cq256 := ys_V 0 0 13 rc256 lo_0 kc13 (m256 l) kGood kw1007 kw1008 kw1010 kw599 kw1009 hdV_X11_clear hf hlo
theorem hdV_X13_clear : yX13_clear.cls = RX13 ∧ yX13_clear.cls ≠ "java/lang/invoke/MethodHandle" ∧ yX13_clear.cls ≠ "java/lang/invoke/VarHandle" ∧ (parseMethodDescriptor yX13_clear.desc).map (fun d => d.parameters.length) = some 0 := by decide +kernel
theorem sl4 (l : Launch) {G : rGm} {cc : ByteArray} {nL n fr lo : Nat} {ret : Option FieldType} {Qf : kQf} (hf : 1 ≤ fr) (hlo : 20 ≤ lo) : ySite gAll LAll vwCl rFo rZs rRs rNs rTs G l cc nL RL ret fr lo n Qf 182 53 cq403 := ys_V 0 13454 15 rc403 lo_13454 kc15 (m403 l) kGood kw1011 kw1012 kw1014 kw315 kw1013 hdV_X13_clear hf hlo
theorem hdV_X11_fault : yX11_fault.cls = RX11 ∧ yX11_fault.cls ≠ "java/lang/invoke/MethodHandle" ∧ yX11_fault.cls ≠ "java/lang/invoke/VarHandle" ∧ (parseMethodDescriptor yX11_fault.desc).map (fun d => d.parameters.length) = some 1 := by decide +kernel
theorem sl5 (l : Launch) {G : rGm} {cc : ByteArray} {nL n fr lo : Nat} {ret : Option FieldType} {Qf : kQf} (hf : 1 ≤ fr) (hlo : 21 ≤ lo) : ySite gAll LAll vwCl rFo rZs rRs rNs rTs G l cc nL RL ret fr lo n Qf 182 54 cq258 := ys_V 1 0 13 rc258 lo_0 kc13 (m258 l) kGood kw1015 kw1016 kw1018 kw599 kw1017 hdV_X11_fault hf hlo
theorem hdV_X13_fault : yX13_fault.cls = RX13 ∧ yX13_fault.cls ≠ "java/lang/invoke/MethodHandle" ∧ yX13_fault.cls ≠ "java/lang/invoke/VarHandle" ∧ (parseMethodDescriptor yX13_fault.desc).map (fun d => d.parameters.length) = some 1 := by decide +kernel
theorem sl6 (l : Launch) {G : rGm} {cc : ByteArray} {nL n fr lo : Nat} {ret : Option FieldType} {Qf : kQf} (hf : 2 ≤ fr) (hlo : 43 ≤ lo) : ySite gAll LAll vwCl rFo rZs rRs rNs rTs G l cc nL RL ret fr lo n Qf 182 57 cq415 := ys_V 1 13454 15 rc415 lo_13454 kc15 (m415 l) kGood kw1019 kw1020 kw1022 kw315 kw1021 hdV_X13_fault hf hlo
theorem hdV_X11_size : yX11_size.cls = RX11 ∧ yX11_size.cls ≠ "java/lang/invoke/MethodHandle" ∧ yX11_size.cls ≠ "java/lang/invoke/VarHandle" ∧ (parseMethodDescriptor yX11_size.desc).map (fun d => d.parameters.length) = some 2 := by decide +kernel
theorem sl7 (l : Launch) {G : rGm} {cc : ByteArray} {nL n fr lo : Nat} {ret : Option FieldType} {Qf : kQf} (hf : 2 ≤ fr) (hlo : 44 ≤ lo) : ySite gAll LAll vwCl rFo rZs rRs rNs rTs G l cc nL RL ret fr lo n Qf 182 58 cq271 := ys_V 2 0 13 rc271 lo_0 kc13 (m271 l) kGood kw1023 kw1024 kw1026 kw599 kw1025 hdV_X11_size hf hlo
theorem hdV_X13_size : yX13_size.cls = RX13 ∧ yX13_size.cls ≠ "java/lang/invoke/MethodHandle" ∧ yX13_size.cls ≠ "java/lang/invoke/VarHandle" ∧ (parseMethodDescriptor yX13_size.desc).map (fun d => d.parameters.length) = some 2 := by decide +kernel
theorem sl8 (l : Launch) {G : rGm} {cc : ByteArray} {nL n fr lo : Nat} {ret : Option FieldType} {Qf : kQf} (hf : 2 ≤ fr) (hlo : 44 ≤ lo) : ySite gAll LAll vwCl rFo rZs rRs rNs rTs G l cc nL RL ret fr lo n Qf 182 62 cq477 := ys_V 2 13454 15 rc477 lo_13454 kc15 (m477 l) kGood kw1027 kw1028 kw1030 kw315 kw1029 hdV_X13_size hf hlo
theorem hdV_X11_octet : yX11_octet.cls = RX11 ∧ yX11_octet.cls ≠ "java/lang/invoke/MethodHandle" ∧ yX11_octet.cls ≠ "java/lang/invoke/VarHandle" ∧ (parseMethodDescriptor yX11_octet.desc).map (fun d => d.parameters.length) = some 3 := by decide +kernel
theorem sl9 (l : Launch) {G : rGm} {cc : ByteArray} {nL n fr lo : Nat} {ret : Option FieldType} {Qf : kQf} (hf : 2 ≤ fr) (hlo : 45 ≤ lo) : ySite gAll LAll vwCl rFo rZs rRs rNs rTs G l cc nL RL ret fr lo n Qf 182 63 cq264 := ys_V 3 0 13 rc264 lo_0 kc13 (m264 l) kGood kw1031 kw1032 kw1034 kw599 kw1033 hdV_X11_octet hf hlo
theorem hdV_X13_octet : yX13_octet.cls = RX13 ∧ yX13_octet.cls ≠ "java/lang/invoke/MethodHandle" ∧ yX13_octet.cls ≠ "java/lang/invoke/VarHandle" ∧ (parseMethodDescriptor yX13_octet.desc).map (fun d => d.parameters.length) = some 3 := by decide +kernel
theorem sl10 (l : Launch) {G : rGm} {cc : ByteArray} {nL n fr lo : Nat} {ret : Option FieldType} {Qf : kQf} (hf : 3 ≤ fr) (hlo : 69 ≤ lo) : ySite gAll LAll vwCl rFo rZs rRs rNs rTs G l cc nL RL ret fr lo n Qf 182 67 cq456 := ys_V 3 13454 15 rc456 lo_13454 kc15 (m456 l) kGood kw1035 kw1036 kw1038 kw315 kw1037 hdV_X13_octet hf hlo
theorem hdV_X13_link : yX13_link.cls = RX13 ∧ yX13_link.cls ≠ "java/lang/invoke/MethodHandle" ∧ yX13_link.cls ≠ "java/lang/invoke/VarHandle" ∧ (parseMethodDescriptor yX13_link.desc).map (fun d => d.parameters.length) = some 0 := by decide +kernel
theorem sl11 (l : Launch) {G : rGm} {cc : ByteArray} {nL n fr lo : Nat} {ret : Option FieldType} {Qf : kQf} (hf : 7 ≤ fr) (hlo : 177 ≤ lo) : ySite gAll LAll vwCl rFo rZs rRs rNs rTs G l cc nL RL ret fr lo n Qf 182 71 cq444 := ys_V 0 13454 15 rc444 lo_13454 kc15 (m444 l) kGood kw1042 kw1043 kw1045 kw315 kw1044 hdV_X13_link hf hlo
theorem hdV_X13_symbol : yX13_symbol.cls = RX13 ∧ yX13_symbol.cls ≠ "java/lang/invoke/MethodHandle" ∧ yX13_symbol.cls ≠ "java/lang/invoke/VarHandle" ∧ (parseMethodDescriptor yX13_symbol.desc).map (fun d => d.parameters.length) = some 1 := by decide +kernel
theorem sl12 (l : Launch) {G : rGm} {cc : ByteArray} {nL n fr lo : Nat} {ret : Option FieldType} {Qf : kQf} (hf : 2 ≤ fr) (hlo : 46 ≤ lo) : ySite gAll LAll vwCl rFo rZs rRs rNs rTs G l cc nL RL ret fr lo n Qf 182 75 cq480 := ys_V 1 13454 15 rc480 lo_13454 kc15 (m480 l) kGood kw1049 kw1050 kw1052 kw315 kw1051 hdV_X13_symbol hf hlo
theorem hdV_X13_load : yX13_load.cls = RX13 ∧ yX13_load.cls ≠ "java/lang/invoke/MethodHandle" ∧ yX13_load.cls ≠ "java/lang/invoke/VarHandle" ∧ (parseMethodDescriptor yX13_load.desc).map (fun d => d.parameters.length) = some 0 := by decide +kernel
theorem sl13 (l : Launch) {G : rGm} {cc : ByteArray} {nL n fr lo : Nat} {ret : Option FieldType} {Qf : kQf} (hf : 2 ≤ fr) (hlo : 43 ≤ lo) : ySite gAll LAll vwCl rFo rZs rRs rNs rTs G l cc nL RL ret fr lo n Qf 182 78 cq446 := ys_V 0 13454 15 rc446 lo_13454 kc15 (m446 l) kGood kw1056 kw1057 kw1059 kw315 kw1058 hdV_X13_load hf hlo
theorem hdV_X11_input : yX11_input.cls = RX11 ∧ yX11_input.cls ≠ "java/lang/invoke/MethodHandle" ∧ yX11_input.cls ≠ "java/lang/invoke/VarHandle" ∧ (parseMethodDescriptor yX11_input.desc).map (fun d => d.parameters.length) = some 1 := by decide +kernel
theorem sl14 (l : Launch) {G : rGm} {cc : ByteArray} {nL n fr lo : Nat} {ret : Option FieldType} {Qf : kQf} (hf : 3 ≤ fr) (hlo : 70 ≤ lo) : ySite gAll LAll vwCl rFo rZs rRs rNs rTs G l cc nL RL ret fr lo n Qf 182 79 cq260 := ys_V 1 0 13 rc260 lo_0 kc13 (m260 l) kGood kw1060 kw1061 kw1063 kw599 kw1062 hdV_X11_input hf hlo
theorem hdV_X13_input : yX13_input.cls = RX13 ∧ yX13_input.cls ≠ "java/lang/invoke/MethodHandle" ∧ yX13_input.cls ≠ "java/lang/invoke/VarHandle" ∧ (parseMethodDescriptor yX13_input.desc).map (fun d => d.parameters.length) = some 1 := by decide +kernel
theorem sl15 (l : Launch) {G : rGm} {cc : ByteArray} {nL n fr lo : Nat} {ret : Option FieldType} {Qf : kQf} (hf : 2 ≤ fr) (hlo : 44 ≤ lo) : ySite gAll LAll vwCl rFo rZs rRs rNs rTs G l cc nL RL ret fr lo n Qf 182 82 cq432 := ys_V 1 13454 15 rc432 lo_13454 kc15 (m432 l) kGood kw1064 kw1065 kw1067 kw315 kw1066 hdV_X13_input hf hlo
theorem hdV_X13_run : yX13_run.cls = RX13 ∧ yX13_run.cls ≠ "java/lang/invoke/MethodHandle" ∧ yX13_run.cls ≠ "java/lang/invoke/VarHandle" ∧ (parseMethodDescriptor yX13_run.desc).map (fun d => d.parameters.length) = some 1 := by decide +kernel
theorem sl16 (l : Launch) {G : rGm} {cc : ByteArray} {nL n fr lo : Nat} {ret : Option FieldType} {Qf : kQf} (hf : 8 ≤ fr) (hlo : 207 ≤ lo) : ySite gAll LAll vwCl rFo rZs rRs rNs rTs G l cc nL RL ret fr lo n Qf 182 85 cq475 := ys_V 1 13454 15 rc475 lo_13454 kc15 (m475 l) kGood kw1071 kw1072 kw1074 kw315 kw1073 hdV_X13_run hf hlo
theorem hdV_X11_stop : yX11_stop.cls = RX11 ∧ yX11_stop.cls ≠ "java/lang/invoke/MethodHandle" ∧ yX11_stop.cls ≠ "java/lang/invoke/VarHandle" ∧ (parseMethodDescriptor yX11_stop.desc).map (fun d => d.parameters.length) = some 1 := by decide +kernel
theorem sl17 (l : Launch) {G : rGm} {cc : ByteArray} {nL n fr lo : Nat} {ret : Option FieldType} {Qf : kQf} (hf : 1 ≤ fr) (hlo : 21 ≤ lo) : ySite gAll LAll vwCl rFo rZs rRs rNs rTs G l cc nL RL ret fr lo n Qf 182 86 cq272 := ys_V 1 0 13 rc272 lo_0 kc13 (m272 l) kGood kw1075 kw1076 kw1078 kw599 kw1077 hdV_X11_stop hf hlo
theorem hdV_X13_stop : yX13_stop.cls = RX13 ∧ yX13_stop.cls ≠ "java/lang/invoke/MethodHandle" ∧ yX13_stop.cls ≠ "java/lang/invoke/VarHandle" ∧ (parseMethodDescriptor yX13_stop.desc).map (fun d => d.parameters.length) = some 1 := by decide +kernel
theorem sl18 (l : Launch) {G : rGm} {cc : ByteArray} {nL n fr lo : Nat} {ret : Option FieldType} {Qf : kQf} (hf : 1 ≤ fr) (hlo : 21 ≤ lo) : ySite gAll LAll vwCl rFo rZs rRs rNs rTs G l cc nL RL ret fr lo n Qf 182 89 cq478 := ys_V 1 13454 15 rc478 lo_13454 kc15 (m478 l) kGood kw1079 kw1080 kw1082 kw315 kw1081 hdV_X13_stop hf hlo
theorem hdV_X11_register : yX11_register.cls = RX11 ∧ yX11_register.cls ≠ "java/lang/invoke/MethodHandle" ∧ yX11_register.cls ≠ "java/lang/invoke/VarHandle" ∧ (parseMethodDescriptor yX11_register.desc).map (fun d => d.parameters.length) = some 1 := by decide +kernel
theorem sl19 (l : Launch) {G : rGm} {cc : ByteArray} {nL n fr lo : Nat} {ret : Option FieldType} {Qf : kQf} (hf : 2 ≤ fr) (hlo : 41 ≤ lo) : ySite gAll LAll vwCl rFo rZs rRs rNs rTs G l cc nL RL ret fr lo n Qf 182 90 cq268 := ys_V 1 0 13 rc268 lo_0 kc13 (m268 l) kGood kw1083 kw1084 kw1086 kw599 kw1085 hdV_X11_register hf hlo
theorem hdV_X13_register : yX13_register.cls = RX13 ∧ yX13_register.cls ≠ "java/lang/invoke/MethodHandle" ∧ yX13_register.cls ≠ "java/lang/invoke/VarHandle" ∧ (parseMethodDescriptor yX13_register.desc).map (fun d => d.parameters.length) = some 1 := by decide +kernel
theorem sl20 (l : Launch) {G : rGm} {cc : ByteArray} {nL n fr lo : Nat} {ret : Option FieldType} {Qf : kQf} (hf : 2 ≤ fr) (hlo : 41 ≤ lo) : ySite gAll LAll vwCl rFo rZs rRs rNs rTs G l cc nL RL ret fr lo n Qf 182 93 cq473 := ys_V 1 13454 15 rc473 lo_13454 kc15 (m473 l) kGood kw1087 kw1088 kw1090 kw315 kw1089 hdV_X13_register hf hlo
theorem hdV_X11_set : yX11_set.cls = RX11 ∧ yX11_set.cls ≠ "java/lang/invoke/MethodHandle" ∧ yX11_set.cls ≠ "java/lang/invoke/VarHandle" ∧ (parseMethodDescriptor yX11_set.desc).map (fun d => d.parameters.length) = some 2 := by decide +kernel
theorem sl21 (l : Launch) {G : rGm} {cc : ByteArray} {nL n fr lo : Nat} {ret : Option FieldType} {Qf : kQf} (hf : 1 ≤ fr) (hlo : 23 ≤ lo) : ySite gAll LAll vwCl rFo rZs rRs rNs rTs G l cc nL RL ret fr lo n Qf 182 96 cq270 := ys_V 2 0 13 rc270 lo_0 kc13 (m270 l) kGood kw1092 kw1093 kw1095 kw599 kw1094 hdV_X11_set hf hlo
theorem hdV_X13_set : yX13_set.cls = RX13 ∧ yX13_set.cls ≠ "java/lang/invoke/MethodHandle" ∧ yX13_set.cls ≠ "java/lang/invoke/VarHandle" ∧ (parseMethodDescriptor yX13_set.desc).map (fun d => d.parameters.length) = some 2 := by decide +kernel
theorem sl22 (l : Launch) {G : rGm} {cc : ByteArray} {nL n fr lo : Nat} {ret : Option FieldType} {Qf : kQf} (hf : 1 ≤ fr) (hlo : 23 ≤ lo) : ySite gAll LAll vwCl rFo rZs rRs rNs rTs G l cc nL RL ret fr lo n Qf 182 100 cq476 := ys_V 2 13454 15 rc476 lo_13454 kc15 (m476 l) kGood kw1096 kw1097 kw1099 kw315 kw1098 hdV_X13_set hf hlo
theorem hdV_X11_peek : yX11_peek.cls = RX11 ∧ yX11_peek.cls ≠ "java/lang/invoke/MethodHandle" ∧ yX11_peek.cls ≠ "java/lang/invoke/VarHandle" ∧ (parseMethodDescriptor yX11_peek.desc).map (fun d => d.parameters.length) = some 1 := by decide +kernel
theorem sl23 (l : Launch) {G : rGm} {cc : ByteArray} {nL n fr lo : Nat} {ret : Option FieldType} {Qf : kQf} (hf : 2 ≤ fr) (hlo : 54 ≤ lo) : ySite gAll LAll vwCl rFo rZs rRs rNs rTs G l cc nL RL ret fr lo n Qf 182 101 cq266 := ys_V 1 0 13 rc266 lo_0 kc13 (m266 l) kGood kw1100 kw1101 kw1103 kw599 kw1102 hdV_X11_peek hf hlo
theorem hdV_X13_peek : yX13_peek.cls = RX13 ∧ yX13_peek.cls ≠ "java/lang/invoke/MethodHandle" ∧ yX13_peek.cls ≠ "java/lang/invoke/VarHandle" ∧ (parseMethodDescriptor yX13_peek.desc).map (fun d => d.parameters.length) = some 1 := by decide +kernel
theorem sl24 (l : Launch) {G : rGm} {cc : ByteArray} {nL n fr lo : Nat} {ret : Option FieldType} {Qf : kQf} (hf : 3 ≤ fr) (hlo : 72 ≤ lo) : ySite gAll LAll vwCl rFo rZs rRs rNs rTs G l cc nL RL ret fr lo n Qf 182 105 cq459 := ys_V 1 13454 15 rc459 lo_13454 kc15 (m459 l) kGood kw1104 kw1105 kw1107 kw315 kw1106 hdV_X13_peek hf hlo
theorem hdV_X11_poke : yX11_poke.cls = RX11 ∧ yX11_poke.cls ≠ "java/lang/invoke/MethodHandle" ∧ yX11_poke.cls ≠ "java/lang/invoke/VarHandle" ∧ (parseMethodDescriptor yX11_poke.desc).map (fun d => d.parameters.length) = some 2 := by decide +kernel
theorem sl25 (l : Launch) {G : rGm} {cc : ByteArray} {nL n fr lo : Nat} {ret : Option FieldType} {Qf : kQf} (hf : 2 ≤ fr) (hlo : 55 ≤ lo) : ySite gAll LAll vwCl rFo rZs rRs rNs rTs G l cc nL RL ret fr lo n Qf 182 106 cq267 := ys_V 2 0 13 rc267 lo_0 kc13 (m267 l) kGood kw1108 kw1109 kw1111 kw599 kw1110 hdV_X11_poke hf hlo
theorem hdV_X13_poke : yX13_poke.cls = RX13 ∧ yX13_poke.cls ≠ "java/lang/invoke/MethodHandle" ∧ yX13_poke.cls ≠ "java/lang/invoke/VarHandle" ∧ (parseMethodDescriptor yX13_poke.desc).map (fun d => d.parameters.length) = some 2 := by decide +kernel
theorem sl26 (l : Launch) {G : rGm} {cc : ByteArray} {nL n fr lo : Nat} {ret : Option FieldType} {Qf : kQf} (hf : 3 ≤ fr) (hlo : 73 ≤ lo) : ySite gAll LAll vwCl rFo rZs rRs rNs rTs G l cc nL RL ret fr lo n Qf 182 110 cq468 := ys_V 2 13454 15 rc468 lo_13454 kc15 (m468 l) kGood kw1112 kw1113 kw1115 kw315 kw1114 hdV_X13_poke hf hlo
theorem hdV_X11_stopAt : yX11_stopAt.cls = RX11 ∧ yX11_stopAt.cls ≠ "java/lang/invoke/MethodHandle" ∧ yX11_stopAt.cls ≠ "java/lang/invoke/VarHandle" ∧ (parseMethodDescriptor yX11_stopAt.desc).map (fun d => d.parameters.length) = some 2 := by decide +kernel
theorem sl27 (l : Launch) {G : rGm} {cc : ByteArray} {nL n fr lo : Nat} {ret : Option FieldType} {Qf : kQf} (hf : 3 ≤ fr) (hlo : 69 ≤ lo) : ySite gAll LAll vwCl rFo rZs rRs rNs rTs G l cc nL RL ret fr lo n Qf 182 111 cq273 := ys_V 2 0 13 rc273 lo_0 kc13 (m273 l) kGood kw1116 kw1117 kw1119 kw599 kw1118 hdV_X11_stopAt hf hlo
theorem hdV_X13_stopAt : yX13_stopAt.cls = RX13 ∧ yX13_stopAt.cls ≠ "java/lang/invoke/MethodHandle" ∧ yX13_stopAt.cls ≠ "java/lang/invoke/VarHandle" ∧ (parseMethodDescriptor yX13_stopAt.desc).map (fun d => d.parameters.length) = some 2 := by decide +kernel
theorem sl28 (l : Launch) {G : rGm} {cc : ByteArray} {nL n fr lo : Nat} {ret : Option FieldType} {Qf : kQf} (hf : 2 ≤ fr) (hlo : 47 ≤ lo) : ySite gAll LAll vwCl rFo rZs rRs rNs rTs G l cc nL RL ret fr lo n Qf 182 115 cq479 := ys_V 2 13454 15 rc479 lo_13454 kc15 (m479 l) kGood kw1120 kw1121 kw1123 kw315 kw1122 hdV_X13_stopAt hf hlo
theorem hdV_X11_output : yX11_output.cls = RX11 ∧ yX11_output.cls ≠ "java/lang/invoke/MethodHandle" ∧ yX11_output.cls ≠ "java/lang/invoke/VarHandle" ∧ (parseMethodDescriptor yX11_output.desc).map (fun d => d.parameters.length) = some 1 := by decide +kernel
theorem sl29 (l : Launch) {G : rGm} {cc : ByteArray} {nL n fr lo : Nat} {ret : Option FieldType} {Qf : kQf} (hf : 1 ≤ fr) (hlo : 21 ≤ lo) : ySite gAll LAll vwCl rFo rZs rRs rNs rTs G l cc nL RL ret fr lo n Qf 182 116 cq265 := ys_V 1 0 13 rc265 lo_0 kc13 (m265 l) kGood kw1124 kw1125 kw1127 kw599 kw1126 hdV_X11_output hf hlo
theorem hdV_X13_output : yX13_output.cls = RX13 ∧ yX13_output.cls ≠ "java/lang/invoke/MethodHandle" ∧ yX13_output.cls ≠ "java/lang/invoke/VarHandle" ∧ (parseMethodDescriptor yX13_output.desc).map (fun d => d.parameters.length) = some 1 := by decide +kernel
theorem sl30 (l : Launch) {G : rGm} {cc : ByteArray} {nL n fr lo : Nat} {ret : Option FieldType} {Qf : kQf} (hf : 1 ≤ fr) (hlo : 21 ≤ lo) : ySite gAll LAll vwCl rFo rZs rRs rNs rTs G l cc nL RL ret fr lo n Qf 182 119 cq457 := ys_V 1 13454 15 rc457 lo_13454 kc15 (m457 l) kGood kw1128 kw1129 kw1131 kw315 kw1130 hdV_X13_output hf hlo
theorem hdV_X11_where : yX11_where.cls = RX11 ∧ yX11_where.cls ≠ "java/lang/invoke/MethodHandle" ∧ yX11_where.cls ≠ "java/lang/invoke/VarHandle" ∧ (parseMethodDescriptor yX11_where.desc).map (fun d => d.parameters.length) = some 1 := by decide +kernel
theorem sl31 (l : Launch) {G : rGm} {cc : ByteArray} {nL n fr lo : Nat} {ret : Option FieldType} {Qf : kQf} (hf : 1 ≤ fr) (hlo : 24 ≤ lo) : ySite gAll LAll vwCl rFo rZs rRs rNs rTs G l cc nL RL ret fr lo n Qf 182 120 cq276 := ys_V 1 0 13 rc276 lo_0 kc13 (m276 l) kGood kw1132 kw1133 kw1135 kw599 kw1134 hdV_X11_where hf hlo
theorem hdV_X13_where : yX13_where.cls = RX13 ∧ yX13_where.cls ≠ "java/lang/invoke/MethodHandle" ∧ yX13_where.cls ≠ "java/lang/invoke/VarHandle" ∧ (parseMethodDescriptor yX13_where.desc).map (fun d => d.parameters.length) = some 1 := by decide +kernel
theorem sl32 (l : Launch) {G : rGm} {cc : ByteArray} {nL n fr lo : Nat} {ret : Option FieldType} {Qf : kQf} (hf : 2 ≤ fr) (hlo : 48 ≤ lo) : ySite gAll LAll vwCl rFo rZs rRs rNs rTs G l cc nL RL ret fr lo n Qf 182 123 cq482 := ys_V 1 13454 15 rc482 lo_13454 kc15 (m482 l) kGood kw1136 kw1137 kw1139 kw315 kw1138 hdV_X13_where hf hlo
set_option maxRecDepth 100000 in
set_option maxHeartbeats 4000000 in
/-- feed -/
theorem wt_0 {Z : List Frame → Array Value → State → State → Prop} {G : rGm} {l : Launch} {b L n : Nat} {xs : Nat → Int32} {kc ks i : Nat} {c : Int} {s : qSg} (hl : l.stackTraces = false) (hb : G.2.2.2.1 30000 = .ref b) (hL6 : L ≤ 60000000) (hi : i + 6 ≤ L) (hc0 : 0 ≤ c) (hc : c ≤ 47) (hkc : kc + 1 ≤ lwC) (hks : ks + 6 ≤ lwS) (hI : tI c s) (hV : ∀ s', tI (c + 1) s' → kL Z G l b L n xs (kc + 1) (ks + 6) 908 (kLs i) [] s') : kL Z G l b L n xs kc ks 132 (kLs i) [] s := by
  obtain ⟨r1, a1, hB1, hE1⟩ := turn_0 (c := c) (v1 := (xs (i + 1)).toInt) (v2 := (xs (i + 2)).toInt) (v3 := (xs (i + 3)).toInt) (v4 := (xs (i + 4)).toInt) (v5 := (xs (i + 5)).toInt) hc0 hc (in32_x _) (in32_x _) (in32_x _) (in32_x _) (in32_x _) hI
  have hT := hI.1
  refine k_aload_n 1 rfl dL_law_132 _ _ _ ⟨_, (List.mem_cons_of_mem _ (List.mem_cons_self)), rfl, ?_⟩
  refine kl_rd hb hL6 (i := i) (k := 1) (z := 1) (List.mem_cons_self) (List.mem_cons_of_mem _ (List.mem_cons_of_mem _ (List.mem_cons_of_mem _ (List.mem_cons_of_mem _ (List.mem_cons_self))))) rfl (by omega) dL_law_133 dL_law_134 dL_law_136 dL_law_137 dL_law_138 ?_
  refine kl_rd hb hL6 (i := i) (k := 2) (z := 2) (List.mem_cons_self) (List.mem_cons_of_mem _ (List.mem_cons_of_mem _ (List.mem_cons_of_mem _ (List.mem_cons_of_mem _ (List.mem_cons_self))))) rfl (by omega) dL_law_139 dL_law_140 dL_law_142 dL_law_143 dL_law_144 ?_
  refine kl_rd hb hL6 (i := i) (k := 3) (z := 3) (List.mem_cons_self) (List.mem_cons_of_mem _ (List.mem_cons_of_mem _ (List.mem_cons_of_mem _ (List.mem_cons_of_mem _ (List.mem_cons_self))))) rfl (by omega) dL_law_145 dL_law_146 dL_law_148 dL_law_149 dL_law_150 ?_
  refine kl_rd hb hL6 (i := i) (k := 4) (z := 4) (List.mem_cons_self) (List.mem_cons_of_mem _ (List.mem_cons_of_mem _ (List.mem_cons_of_mem _ (List.mem_cons_of_mem _ (List.mem_cons_self))))) rfl (by omega) dL_law_151 dL_law_152 dL_law_154 dL_law_155 dL_law_156 ?_
  refine kl_rd hb hL6 (i := i) (k := 5) (z := 5) (List.mem_cons_self) (List.mem_cons_of_mem _ (List.mem_cons_of_mem _ (List.mem_cons_of_mem _ (List.mem_cons_of_mem _ (List.mem_cons_self))))) rfl (by omega) dL_law_157 dL_law_158 dL_law_160 dL_law_161 dL_law_162 ?_
  refine sl0 l (by decide) (by decide) _ dL_law_163 _ _ _ ⟨[(2, 1), (0, (xs (i + 1)).toInt), (0, (xs (i + 2)).toInt), (0, (xs (i + 3)).toInt), (0, (xs (i + 4)).toInt), (0, (xs (i + 5)).toInt)], [], r1, a1, rfl, hB1, Nat.le_of_ble_eq_true rfl, hT, fun res s1 hEx => ?_⟩
  obtain ⟨⟨z1, rfl⟩, r2, a2, hB2, hT2, hE2⟩ := hE1 res s1 hEx
  refine k_pop dL_law_166 _ _ _ ⟨_, _, rfl, (show (0 : Nat) ≠ 1 by decide), ?_⟩
  refine k_aload_n 2 rfl dL_law_167 _ _ _ ⟨_, (List.mem_cons_of_mem _ (List.mem_cons_of_mem _ (List.mem_cons_self))), rfl, ?_⟩
  refine kl_rd hb hL6 (i := i) (k := 1) (z := 1) (List.mem_cons_self) (List.mem_cons_of_mem _ (List.mem_cons_of_mem _ (List.mem_cons_of_mem _ (List.mem_cons_of_mem _ (List.mem_cons_self))))) rfl (by omega) dL_law_168 dL_law_169 dL_law_171 dL_law_172 dL_law_173 ?_
  refine kl_rd hb hL6 (i := i) (k := 2) (z := 2) (List.mem_cons_self) (List.mem_cons_of_mem _ (List.mem_cons_of_mem _ (List.mem_cons_of_mem _ (List.mem_cons_of_mem _ (List.mem_cons_self))))) rfl (by omega) dL_law_174 dL_law_175 dL_law_177 dL_law_178 dL_law_179 ?_
  refine kl_rd hb hL6 (i := i) (k := 3) (z := 3) (List.mem_cons_self) (List.mem_cons_of_mem _ (List.mem_cons_of_mem _ (List.mem_cons_of_mem _ (List.mem_cons_of_mem _ (List.mem_cons_self))))) rfl (by omega) dL_law_180 dL_law_181 dL_law_183 dL_law_184 dL_law_185 ?_
  refine kl_rd hb hL6 (i := i) (k := 4) (z := 4) (List.mem_cons_self) (List.mem_cons_of_mem _ (List.mem_cons_of_mem _ (List.mem_cons_of_mem _ (List.mem_cons_of_mem _ (List.mem_cons_self))))) rfl (by omega) dL_law_186 dL_law_187 dL_law_189 dL_law_190 dL_law_191 ?_
  refine kl_rd hb hL6 (i := i) (k := 5) (z := 5) (List.mem_cons_self) (List.mem_cons_of_mem _ (List.mem_cons_of_mem _ (List.mem_cons_of_mem _ (List.mem_cons_of_mem _ (List.mem_cons_self))))) rfl (by omega) dL_law_192 dL_law_193 dL_law_195 dL_law_196 dL_law_197 ?_
  refine sl1 l (by decide) (by decide) _ dL_law_198 _ _ _ ⟨[(2, 26909), (0, (xs (i + 1)).toInt), (0, (xs (i + 2)).toInt), (0, (xs (i + 3)).toInt), (0, (xs (i + 4)).toInt), (0, (xs (i + 5)).toInt)], [], r2, a2, rfl, hB2, Nat.le_of_ble_eq_true rfl, hT2, fun res2 s2 hEm => ?_⟩
  obtain ⟨⟨z2, rfl⟩, hI2⟩ := hE2 res2 s2 hEm
  refine k_pop dL_law_201 _ _ _ ⟨_, _, rfl, (show (0 : Nat) ≠ 1 by decide), ?_⟩
  exact k_goto (tgt := 908) (by decide) dL_law_202 _ _ _ (kL_wide (Nat.le_succ _) (Nat.le_add_right _ 6) (by omega) (by omega) (hV _ hI2))
set_option maxRecDepth 100000 in
set_option maxHeartbeats 4000000 in
/-- unit -/
theorem wt_1 {Z : List Frame → Array Value → State → State → Prop} {G : rGm} {l : Launch} {b L n : Nat} {xs : Nat → Int32} {kc ks i : Nat} {c : Int} {s : qSg} (hl : l.stackTraces = false) (hb : G.2.2.2.1 30000 = .ref b) (hL6 : L ≤ 60000000) (hi : i + 6 ≤ L) (hc0 : 0 ≤ c) (hc : c ≤ 47) (hkc : kc + 1 ≤ lwC) (hks : ks + 6 ≤ lwS) (hI : tI c s) (hV : ∀ s', tI (c + 1) s' → kL Z G l b L n xs (kc + 1) (ks + 6) 908 (kLs i) [] s') : kL Z G l b L n xs kc ks 205 (kLs i) [] s := by
  obtain ⟨r1, a1, hB1, hE1⟩ := turn_1 (c := c) (v1 := (xs (i + 1)).toInt) (b := (b01 (xs (i + 2)).toInt)) hc0 hc (in32_x _) (b01_01 _) hI
  have hT := hI.1
  refine k_aload_n 1 rfl dL_law_205 _ _ _ ⟨_, (List.mem_cons_of_mem _ (List.mem_cons_self)), rfl, ?_⟩
  refine kl_rd hb hL6 (i := i) (k := 1) (z := 1) (List.mem_cons_self) (List.mem_cons_of_mem _ (List.mem_cons_of_mem _ (List.mem_cons_of_mem _ (List.mem_cons_of_mem _ (List.mem_cons_self))))) rfl (by omega) dL_law_206 dL_law_207 dL_law_209 dL_law_210 dL_law_211 ?_
  refine kl_rd hb hL6 (i := i) (k := 2) (z := 2) (List.mem_cons_self) (List.mem_cons_of_mem _ (List.mem_cons_of_mem _ (List.mem_cons_of_mem _ (List.mem_cons_of_mem _ (List.mem_cons_self))))) rfl (by omega) dL_law_212 dL_law_213 dL_law_215 dL_law_216 dL_law_217 ?_
  refine kl_bool (in32_x _) (by decide) (by decide) dL_law_218 dL_law_221 dL_law_222 dL_law_225 ?_
  refine k_aload_n 3 rfl dL_law_226 _ _ _ ⟨_, (List.mem_cons_of_mem _ (List.mem_cons_of_mem _ (List.mem_cons_of_mem _ (List.mem_cons_self)))), rfl, ?_⟩
  refine kl_callH (as := [(2, 1), (0, (xs (i + 1)).toInt), (0, (b01 (xs (i + 2)).toInt)), (2, 28161)]) (st := []) 4 (kH_unit l hl (xs (i + 1)).toInt (b01 (xs (i + 2)).toInt)) kw999 kw1000 kw1001 kw1002 (by decide +kernel) (by decide) (by decide) rfl dL_law_227 hT hB1 (by decide) (by omega) (by omega) (fun res s1 hEx => ?_)
  obtain ⟨⟨z1, rfl⟩, r2, a2, hB2, hT2, hE2⟩ := hE1 res s1 hEx
  refine k_istore 5 (by decide) dL_law_230 _ _ _ ⟨_, _, rfl, rfl, ?_⟩
  refine kL_sub (ls' := kLs i) kls_5 ?_
  refine k_aload_n 2 rfl dL_law_232 _ _ _ ⟨_, (List.mem_cons_of_mem _ (List.mem_cons_of_mem _ (List.mem_cons_self))), rfl, ?_⟩
  refine kl_rd hb hL6 (i := i) (k := 1) (z := 1) (List.mem_cons_self) (List.mem_cons_of_mem _ (List.mem_cons_of_mem _ (List.mem_cons_of_mem _ (List.mem_cons_of_mem _ (List.mem_cons_self))))) rfl (by omega) dL_law_233 dL_law_234 dL_law_236 dL_law_237 dL_law_238 ?_
  refine kl_rd hb hL6 (i := i) (k := 2) (z := 2) (List.mem_cons_self) (List.mem_cons_of_mem _ (List.mem_cons_of_mem _ (List.mem_cons_of_mem _ (List.mem_cons_of_mem _ (List.mem_cons_self))))) rfl (by omega) dL_law_239 dL_law_240 dL_law_242 dL_law_243 dL_law_244 ?_
  refine kl_bool (in32_x _) (by decide) (by decide) dL_law_245 dL_law_248 dL_law_249 dL_law_252 ?_
  refine sl2 l (by decide) (by decide) _ dL_law_253 _ _ _ ⟨[(2, 26909), (0, (xs (i + 1)).toInt), (0, (b01 (xs (i + 2)).toInt))], [], r2, a2, rfl, hB2, Nat.le_of_ble_eq_true rfl, hT2, fun res2 s2 hEm => ?_⟩
  obtain ⟨⟨z2, rfl⟩, hI2⟩ := hE2 res2 s2 hEm
  refine k_istore 6 (by decide) dL_law_256 _ _ _ ⟨_, _, rfl, rfl, ?_⟩
  refine kL_sub (ls' := kLs i) kls_6 ?_
  exact k_goto (tgt := 908) (by decide) dL_law_258 _ _ _ (hV _ hI2)
set_option maxRecDepth 100000 in
set_option maxHeartbeats 4000000 in
/-- clear -/
theorem wt_2 {Z : List Frame → Array Value → State → State → Prop} {G : rGm} {l : Launch} {b L n : Nat} {xs : Nat → Int32} {kc ks i : Nat} {c : Int} {s : qSg} (hl : l.stackTraces = false) (hb : G.2.2.2.1 30000 = .ref b) (hL6 : L ≤ 60000000) (hi : i + 6 ≤ L) (hc0 : 0 ≤ c) (hc : c ≤ 47) (hkc : kc + 1 ≤ lwC) (hks : ks + 6 ≤ lwS) (hI : tI c s) (hV : ∀ s', tI (c + 1) s' → kL Z G l b L n xs (kc + 1) (ks + 6) 908 (kLs i) [] s') : kL Z G l b L n xs kc ks 261 (kLs i) [] s := by
  obtain ⟨r1, a1, hB1, hE1⟩ := turn_2 (c := c)  hc0 hc  hI
  have hT := hI.1
  refine k_aload_n 1 rfl dL_law_261 _ _ _ ⟨_, (List.mem_cons_of_mem _ (List.mem_cons_self)), rfl, ?_⟩
  refine sl3 l (by decide) (by decide) _ dL_law_262 _ _ _ ⟨[(2, 1)], [], r1, a1, rfl, hB1, Nat.le_of_ble_eq_true rfl, hT, fun res s1 hEx => ?_⟩
  obtain ⟨rfl, r2, a2, hB2, hT2, hE2⟩ := hE1 res s1 hEx
  refine k_aload_n 2 rfl dL_law_265 _ _ _ ⟨_, (List.mem_cons_of_mem _ (List.mem_cons_of_mem _ (List.mem_cons_self))), rfl, ?_⟩
  refine sl4 l (by decide) (by decide) _ dL_law_266 _ _ _ ⟨[(2, 26909)], [], r2, a2, rfl, hB2, Nat.le_of_ble_eq_true rfl, hT2, fun res2 s2 hEm => ?_⟩
  obtain ⟨rfl, hI2⟩ := hE2 res2 s2 hEm
  exact k_goto (tgt := 908) (by decide) dL_law_269 _ _ _ (kL_wide (Nat.le_succ _) (Nat.le_add_right _ 6) (by omega) (by omega) (hV _ hI2))
set_option maxRecDepth 100000 in
set_option maxHeartbeats 4000000 in
/-- fault -/
theorem wt_3 {Z : List Frame → Array Value → State → State → Prop} {G : rGm} {l : Launch} {b L n : Nat} {xs : Nat → Int32} {kc ks i : Nat} {c : Int} {s : qSg} (hl : l.stackTraces = false) (hb : G.2.2.2.1 30000 = .ref b) (hL6 : L ≤ 60000000) (hi : i + 6 ≤ L) (hc0 : 0 ≤ c) (hc : c ≤ 47) (hkc : kc + 1 ≤ lwC) (hks : ks + 6 ≤ lwS) (hI : tI c s) (hV : ∀ s', tI (c + 1) s' → kL Z G l b L n xs (kc + 1) (ks + 6) 908 (kLs i) [] s') : kL Z G l b L n xs kc ks 272 (kLs i) [] s := by
  obtain ⟨r1, a1, hB1, hE1⟩ := turn_3 (c := c) (v1 := (xs (i + 1)).toInt) hc0 hc (in32_x _) hI
  have hT := hI.1
  refine k_aload_n 1 rfl dL_law_272 _ _ _ ⟨_, (List.mem_cons_of_mem _ (List.mem_cons_self)), rfl, ?_⟩
  refine kl_rd hb hL6 (i := i) (k := 1) (z := 1) (List.mem_cons_self) (List.mem_cons_of_mem _ (List.mem_cons_of_mem _ (List.mem_cons_of_mem _ (List.mem_cons_of_mem _ (List.mem_cons_self))))) rfl (by omega) dL_law_273 dL_law_274 dL_law_276 dL_law_277 dL_law_278 ?_
  refine sl5 l (by decide) (by decide) _ dL_law_279 _ _ _ ⟨[(2, 1), (0, (xs (i + 1)).toInt)], [], r1, a1, rfl, hB1, Nat.le_of_ble_eq_true rfl, hT, fun res s1 hEx => ?_⟩
  obtain ⟨⟨z1, rfl⟩, r2, a2, hB2, hT2, hE2⟩ := hE1 res s1 hEx
  refine k_pop dL_law_282 _ _ _ ⟨_, _, rfl, (show (0 : Nat) ≠ 1 by decide), ?_⟩
  refine k_aload_n 2 rfl dL_law_283 _ _ _ ⟨_, (List.mem_cons_of_mem _ (List.mem_cons_of_mem _ (List.mem_cons_self))), rfl, ?_⟩
  refine kl_rd hb hL6 (i := i) (k := 1) (z := 1) (List.mem_cons_self) (List.mem_cons_of_mem _ (List.mem_cons_of_mem _ (List.mem_cons_of_mem _ (List.mem_cons_of_mem _ (List.mem_cons_self))))) rfl (by omega) dL_law_284 dL_law_285 dL_law_287 dL_law_288 dL_law_289 ?_
  refine sl6 l (by decide) (by decide) _ dL_law_290 _ _ _ ⟨[(2, 26909), (0, (xs (i + 1)).toInt)], [], r2, a2, rfl, hB2, Nat.le_of_ble_eq_true rfl, hT2, fun res2 s2 hEm => ?_⟩
  obtain ⟨⟨z2, rfl⟩, hI2⟩ := hE2 res2 s2 hEm
  refine k_pop dL_law_293 _ _ _ ⟨_, _, rfl, (show (0 : Nat) ≠ 1 by decide), ?_⟩
  exact k_goto (tgt := 908) (by decide) dL_law_294 _ _ _ (kL_wide (Nat.le_succ _) (Nat.le_add_right _ 6) (by omega) (by omega) (hV _ hI2))
set_option maxRecDepth 100000 in
set_option maxHeartbeats 4000000 in
/-- size -/
theorem wt_4 {Z : List Frame → Array Value → State → State → Prop} {G : rGm} {l : Launch} {b L n : Nat} {xs : Nat → Int32} {kc ks i : Nat} {c : Int} {s : qSg} (hl : l.stackTraces = false) (hb : G.2.2.2.1 30000 = .ref b) (hL6 : L ≤ 60000000) (hi : i + 6 ≤ L) (hc0 : 0 ≤ c) (hc : c ≤ 47) (hkc : kc + 1 ≤ lwC) (hks : ks + 6 ≤ lwS) (hI : tI c s) (hV : ∀ s', tI (c + 1) s' → kL Z G l b L n xs (kc + 1) (ks + 6) 908 (kLs i) [] s') : kL Z G l b L n xs kc ks 297 (kLs i) [] s := by
  obtain ⟨r1, a1, hB1, hE1⟩ := turn_4 (c := c) (v1 := (xs (i + 1)).toInt) (v2 := (xs (i + 2)).toInt) hc0 hc (in32_x _) (in32_x _) hI
  have hT := hI.1
  refine k_aload_n 1 rfl dL_law_297 _ _ _ ⟨_, (List.mem_cons_of_mem _ (List.mem_cons_self)), rfl, ?_⟩
  refine kl_rd hb hL6 (i := i) (k := 1) (z := 1) (List.mem_cons_self) (List.mem_cons_of_mem _ (List.mem_cons_of_mem _ (List.mem_cons_of_mem _ (List.mem_cons_of_mem _ (List.mem_cons_self))))) rfl (by omega) dL_law_298 dL_law_299 dL_law_301 dL_law_302 dL_law_303 ?_
  refine kl_rd hb hL6 (i := i) (k := 2) (z := 2) (List.mem_cons_self) (List.mem_cons_of_mem _ (List.mem_cons_of_mem _ (List.mem_cons_of_mem _ (List.mem_cons_of_mem _ (List.mem_cons_self))))) rfl (by omega) dL_law_304 dL_law_305 dL_law_307 dL_law_308 dL_law_309 ?_
  refine sl7 l (by decide) (by decide) _ dL_law_310 _ _ _ ⟨[(2, 1), (0, (xs (i + 1)).toInt), (0, (xs (i + 2)).toInt)], [], r1, a1, rfl, hB1, Nat.le_of_ble_eq_true rfl, hT, fun res s1 hEx => ?_⟩
  obtain ⟨⟨z1, rfl⟩, r2, a2, hB2, hT2, hE2⟩ := hE1 res s1 hEx
  refine k_pop dL_law_313 _ _ _ ⟨_, _, rfl, (show (0 : Nat) ≠ 1 by decide), ?_⟩
  refine k_aload_n 2 rfl dL_law_314 _ _ _ ⟨_, (List.mem_cons_of_mem _ (List.mem_cons_of_mem _ (List.mem_cons_self))), rfl, ?_⟩
  refine kl_rd hb hL6 (i := i) (k := 1) (z := 1) (List.mem_cons_self) (List.mem_cons_of_mem _ (List.mem_cons_of_mem _ (List.mem_cons_of_mem _ (List.mem_cons_of_mem _ (List.mem_cons_self))))) rfl (by omega) dL_law_315 dL_law_316 dL_law_318 dL_law_319 dL_law_320 ?_
  refine kl_rd hb hL6 (i := i) (k := 2) (z := 2) (List.mem_cons_self) (List.mem_cons_of_mem _ (List.mem_cons_of_mem _ (List.mem_cons_of_mem _ (List.mem_cons_of_mem _ (List.mem_cons_self))))) rfl (by omega) dL_law_321 dL_law_322 dL_law_324 dL_law_325 dL_law_326 ?_
  refine sl8 l (by decide) (by decide) _ dL_law_327 _ _ _ ⟨[(2, 26909), (0, (xs (i + 1)).toInt), (0, (xs (i + 2)).toInt)], [], r2, a2, rfl, hB2, Nat.le_of_ble_eq_true rfl, hT2, fun res2 s2 hEm => ?_⟩
  obtain ⟨⟨z2, rfl⟩, hI2⟩ := hE2 res2 s2 hEm
  refine k_pop dL_law_330 _ _ _ ⟨_, _, rfl, (show (0 : Nat) ≠ 1 by decide), ?_⟩
  exact k_goto (tgt := 908) (by decide) dL_law_331 _ _ _ (kL_wide (Nat.le_succ _) (Nat.le_add_right _ 6) (by omega) (by omega) (hV _ hI2))
set_option maxRecDepth 100000 in
set_option maxHeartbeats 4000000 in
/-- octet -/
theorem wt_5 {Z : List Frame → Array Value → State → State → Prop} {G : rGm} {l : Launch} {b L n : Nat} {xs : Nat → Int32} {kc ks i : Nat} {c : Int} {s : qSg} (hl : l.stackTraces = false) (hb : G.2.2.2.1 30000 = .ref b) (hL6 : L ≤ 60000000) (hi : i + 6 ≤ L) (hc0 : 0 ≤ c) (hc : c ≤ 47) (hkc : kc + 1 ≤ lwC) (hks : ks + 6 ≤ lwS) (hI : tI c s) (hV : ∀ s', tI (c + 1) s' → kL Z G l b L n xs (kc + 1) (ks + 6) 908 (kLs i) [] s') : kL Z G l b L n xs kc ks 334 (kLs i) [] s := by
  obtain ⟨r1, a1, hB1, hE1⟩ := turn_5 (c := c) (v1 := (xs (i + 1)).toInt) (v2 := (xs (i + 2)).toInt) (v3 := (xs (i + 3)).toInt) hc0 hc (in32_x _) (in32_x _) (in32_x _) hI
  have hT := hI.1
  refine k_aload_n 1 rfl dL_law_334 _ _ _ ⟨_, (List.mem_cons_of_mem _ (List.mem_cons_self)), rfl, ?_⟩
  refine kl_rd hb hL6 (i := i) (k := 1) (z := 1) (List.mem_cons_self) (List.mem_cons_of_mem _ (List.mem_cons_of_mem _ (List.mem_cons_of_mem _ (List.mem_cons_of_mem _ (List.mem_cons_self))))) rfl (by omega) dL_law_335 dL_law_336 dL_law_338 dL_law_339 dL_law_340 ?_
  refine kl_rd hb hL6 (i := i) (k := 2) (z := 2) (List.mem_cons_self) (List.mem_cons_of_mem _ (List.mem_cons_of_mem _ (List.mem_cons_of_mem _ (List.mem_cons_of_mem _ (List.mem_cons_self))))) rfl (by omega) dL_law_341 dL_law_342 dL_law_344 dL_law_345 dL_law_346 ?_
  refine kl_rd hb hL6 (i := i) (k := 3) (z := 3) (List.mem_cons_self) (List.mem_cons_of_mem _ (List.mem_cons_of_mem _ (List.mem_cons_of_mem _ (List.mem_cons_of_mem _ (List.mem_cons_self))))) rfl (by omega) dL_law_347 dL_law_348 dL_law_350 dL_law_351 dL_law_352 ?_
  refine sl9 l (by decide) (by decide) _ dL_law_353 _ _ _ ⟨[(2, 1), (0, (xs (i + 1)).toInt), (0, (xs (i + 2)).toInt), (0, (xs (i + 3)).toInt)], [], r1, a1, rfl, hB1, Nat.le_of_ble_eq_true rfl, hT, fun res s1 hEx => ?_⟩
  obtain ⟨⟨z1, rfl⟩, r2, a2, hB2, hT2, hE2⟩ := hE1 res s1 hEx
  refine k_pop dL_law_356 _ _ _ ⟨_, _, rfl, (show (0 : Nat) ≠ 1 by decide), ?_⟩
  refine k_aload_n 2 rfl dL_law_357 _ _ _ ⟨_, (List.mem_cons_of_mem _ (List.mem_cons_of_mem _ (List.mem_cons_self))), rfl, ?_⟩
  refine kl_rd hb hL6 (i := i) (k := 1) (z := 1) (List.mem_cons_self) (List.mem_cons_of_mem _ (List.mem_cons_of_mem _ (List.mem_cons_of_mem _ (List.mem_cons_of_mem _ (List.mem_cons_self))))) rfl (by omega) dL_law_358 dL_law_359 dL_law_361 dL_law_362 dL_law_363 ?_
  refine kl_rd hb hL6 (i := i) (k := 2) (z := 2) (List.mem_cons_self) (List.mem_cons_of_mem _ (List.mem_cons_of_mem _ (List.mem_cons_of_mem _ (List.mem_cons_of_mem _ (List.mem_cons_self))))) rfl (by omega) dL_law_364 dL_law_365 dL_law_367 dL_law_368 dL_law_369 ?_
  refine kl_rd hb hL6 (i := i) (k := 3) (z := 3) (List.mem_cons_self) (List.mem_cons_of_mem _ (List.mem_cons_of_mem _ (List.mem_cons_of_mem _ (List.mem_cons_of_mem _ (List.mem_cons_self))))) rfl (by omega) dL_law_370 dL_law_371 dL_law_373 dL_law_374 dL_law_375 ?_
  refine sl10 l (by decide) (by decide) _ dL_law_376 _ _ _ ⟨[(2, 26909), (0, (xs (i + 1)).toInt), (0, (xs (i + 2)).toInt), (0, (xs (i + 3)).toInt)], [], r2, a2, rfl, hB2, Nat.le_of_ble_eq_true rfl, hT2, fun res2 s2 hEm => ?_⟩
  obtain ⟨⟨z2, rfl⟩, hI2⟩ := hE2 res2 s2 hEm
  refine k_pop dL_law_379 _ _ _ ⟨_, _, rfl, (show (0 : Nat) ≠ 1 by decide), ?_⟩
  exact k_goto (tgt := 908) (by decide) dL_law_380 _ _ _ (kL_wide (Nat.le_succ _) (Nat.le_add_right _ 6) (by omega) (by omega) (hV _ hI2))
set_option maxRecDepth 100000 in
set_option maxHeartbeats 4000000 in
/-- link -/
theorem wt_6 {Z : List Frame → Array Value → State → State → Prop} {G : rGm} {l : Launch} {b L n : Nat} {xs : Nat → Int32} {kc ks i : Nat} {c : Int} {s : qSg} (hl : l.stackTraces = false) (hb : G.2.2.2.1 30000 = .ref b) (hL6 : L ≤ 60000000) (hi : i + 6 ≤ L) (hc0 : 0 ≤ c) (hc : c ≤ 47) (hkc : kc + 1 ≤ lwC) (hks : ks + 6 ≤ lwS) (hI : tI c s) (hV : ∀ s', tI (c + 1) s' → kL Z G l b L n xs (kc + 1) (ks + 6) 908 (kLs i) [] s') : kL Z G l b L n xs kc ks 383 (kLs i) [] s := by
  obtain ⟨r1, a1, hB1, hE1⟩ := turn_6 (c := c)  hc0 hc  hI
  have hT := hI.1
  refine k_aload_n 1 rfl dL_law_383 _ _ _ ⟨_, (List.mem_cons_of_mem _ (List.mem_cons_self)), rfl, ?_⟩
  refine k_aload_n 3 rfl dL_law_384 _ _ _ ⟨_, (List.mem_cons_of_mem _ (List.mem_cons_of_mem _ (List.mem_cons_of_mem _ (List.mem_cons_self)))), rfl, ?_⟩
  refine kl_callH (as := [(2, 1), (2, 28161)]) (st := []) 2 (kH_link l hl ) kw1039 kw1040 kw1001 kw1041 (by decide +kernel) (by decide) (by decide) rfl dL_law_385 hT hB1 (by decide) (by omega) (by omega) (fun res s1 hEx => ?_)
  obtain ⟨⟨z1, rfl⟩, r2, a2, hB2, hT2, hE2⟩ := hE1 res s1 hEx
  refine k_istore 5 (by decide) dL_law_388 _ _ _ ⟨_, _, rfl, rfl, ?_⟩
  refine kL_sub (ls' := kLs i) kls_5 ?_
  refine k_aload_n 2 rfl dL_law_390 _ _ _ ⟨_, (List.mem_cons_of_mem _ (List.mem_cons_of_mem _ (List.mem_cons_self))), rfl, ?_⟩
  refine sl11 l (by decide) (by decide) _ dL_law_391 _ _ _ ⟨[(2, 26909)], [], r2, a2, rfl, hB2, Nat.le_of_ble_eq_true rfl, hT2, fun res2 s2 hEm => ?_⟩
  obtain ⟨⟨z2, rfl⟩, hI2⟩ := hE2 res2 s2 hEm
  refine k_istore 6 (by decide) dL_law_394 _ _ _ ⟨_, _, rfl, rfl, ?_⟩
  refine kL_sub (ls' := kLs i) kls_6 ?_
  exact k_goto (tgt := 908) (by decide) dL_law_396 _ _ _ (hV _ hI2)
set_option maxRecDepth 100000 in
set_option maxHeartbeats 4000000 in
/-- symbol -/
theorem wt_7 {Z : List Frame → Array Value → State → State → Prop} {G : rGm} {l : Launch} {b L n : Nat} {xs : Nat → Int32} {kc ks i : Nat} {c : Int} {s : qSg} (hl : l.stackTraces = false) (hb : G.2.2.2.1 30000 = .ref b) (hL6 : L ≤ 60000000) (hi : i + 6 ≤ L) (hc0 : 0 ≤ c) (hc : c ≤ 47) (hkc : kc + 1 ≤ lwC) (hks : ks + 6 ≤ lwS) (hI : tI c s) (hV : ∀ s', tI (c + 1) s' → kL Z G l b L n xs (kc + 1) (ks + 6) 908 (kLs i) [] s') : kL Z G l b L n xs kc ks 399 (kLs i) [] s := by
  obtain ⟨r1, a1, hB1, hE1⟩ := turn_7 (c := c) (v1 := (xs (i + 1)).toInt) hc0 hc (in32_x _) hI
  have hT := hI.1
  refine k_aload_n 1 rfl dL_law_399 _ _ _ ⟨_, (List.mem_cons_of_mem _ (List.mem_cons_self)), rfl, ?_⟩
  refine kl_rd hb hL6 (i := i) (k := 1) (z := 1) (List.mem_cons_self) (List.mem_cons_of_mem _ (List.mem_cons_of_mem _ (List.mem_cons_of_mem _ (List.mem_cons_of_mem _ (List.mem_cons_self))))) rfl (by omega) dL_law_400 dL_law_401 dL_law_403 dL_law_404 dL_law_405 ?_
  refine k_aload_n 3 rfl dL_law_406 _ _ _ ⟨_, (List.mem_cons_of_mem _ (List.mem_cons_of_mem _ (List.mem_cons_of_mem _ (List.mem_cons_self)))), rfl, ?_⟩
  refine kl_callH (as := [(2, 1), (0, (xs (i + 1)).toInt), (2, 28161)]) (st := []) 3 (kH_symbol l hl (xs (i + 1)).toInt) kw1046 kw1047 kw1001 kw1048 (by decide +kernel) (by decide) (by decide) rfl dL_law_407 hT hB1 (by decide) (by omega) (by omega) (fun res s1 hEx => ?_)
  obtain ⟨⟨z1, rfl⟩, r2, a2, hB2, hT2, hE2⟩ := hE1 res s1 hEx
  refine k_istore 5 (by decide) dL_law_410 _ _ _ ⟨_, _, rfl, rfl, ?_⟩
  refine kL_sub (ls' := kLs i) kls_5 ?_
  refine k_aload_n 2 rfl dL_law_412 _ _ _ ⟨_, (List.mem_cons_of_mem _ (List.mem_cons_of_mem _ (List.mem_cons_self))), rfl, ?_⟩
  refine kl_rd hb hL6 (i := i) (k := 1) (z := 1) (List.mem_cons_self) (List.mem_cons_of_mem _ (List.mem_cons_of_mem _ (List.mem_cons_of_mem _ (List.mem_cons_of_mem _ (List.mem_cons_self))))) rfl (by omega) dL_law_413 dL_law_414 dL_law_416 dL_law_417 dL_law_418 ?_
  refine sl12 l (by decide) (by decide) _ dL_law_419 _ _ _ ⟨[(2, 26909), (0, (xs (i + 1)).toInt)], [], r2, a2, rfl, hB2, Nat.le_of_ble_eq_true rfl, hT2, fun res2 s2 hEm => ?_⟩
  obtain ⟨⟨z2, rfl⟩, hI2⟩ := hE2 res2 s2 hEm
  refine k_lstore 6 (by decide) dL_law_422 _ _ _ ⟨_, _, rfl, rfl, ?_⟩
  refine kL_sub (ls' := kLs i) kls_6 ?_
  exact k_goto (tgt := 908) (by decide) dL_law_424 _ _ _ (hV _ hI2)
set_option maxRecDepth 100000 in
set_option maxHeartbeats 4000000 in
/-- load -/
theorem wt_8 {Z : List Frame → Array Value → State → State → Prop} {G : rGm} {l : Launch} {b L n : Nat} {xs : Nat → Int32} {kc ks i : Nat} {c : Int} {s : qSg} (hl : l.stackTraces = false) (hb : G.2.2.2.1 30000 = .ref b) (hL6 : L ≤ 60000000) (hi : i + 6 ≤ L) (hc0 : 0 ≤ c) (hc : c ≤ 47) (hkc : kc + 1 ≤ lwC) (hks : ks + 6 ≤ lwS) (hI : tI c s) (hV : ∀ s', tI (c + 1) s' → kL Z G l b L n xs (kc + 1) (ks + 6) 908 (kLs i) [] s') : kL Z G l b L n xs kc ks 427 (kLs i) [] s := by
  obtain ⟨r1, a1, hB1, hE1⟩ := turn_8 (c := c)  hc0 hc  hI
  have hT := hI.1
  refine k_aload_n 1 rfl dL_law_427 _ _ _ ⟨_, (List.mem_cons_of_mem _ (List.mem_cons_self)), rfl, ?_⟩
  refine k_aload_n 3 rfl dL_law_428 _ _ _ ⟨_, (List.mem_cons_of_mem _ (List.mem_cons_of_mem _ (List.mem_cons_of_mem _ (List.mem_cons_self)))), rfl, ?_⟩
  refine kl_callH (as := [(2, 1), (2, 28161)]) (st := []) 2 (kH_load l hl ) kw1053 kw1054 kw1001 kw1055 (by decide +kernel) (by decide) (by decide) rfl dL_law_429 hT hB1 (by decide) (by omega) (by omega) (fun res s1 hEx => ?_)
  obtain ⟨⟨z1, rfl⟩, r2, a2, hB2, hT2, hE2⟩ := hE1 res s1 hEx
  refine k_istore 5 (by decide) dL_law_432 _ _ _ ⟨_, _, rfl, rfl, ?_⟩
  refine kL_sub (ls' := kLs i) kls_5 ?_
  refine k_aload_n 2 rfl dL_law_434 _ _ _ ⟨_, (List.mem_cons_of_mem _ (List.mem_cons_of_mem _ (List.mem_cons_self))), rfl, ?_⟩
  refine sl13 l (by decide) (by decide) _ dL_law_435 _ _ _ ⟨[(2, 26909)], [], r2, a2, rfl, hB2, Nat.le_of_ble_eq_true rfl, hT2, fun res2 s2 hEm => ?_⟩
  obtain ⟨⟨z2, rfl⟩, hI2⟩ := hE2 res2 s2 hEm
  refine k_lstore 6 (by decide) dL_law_438 _ _ _ ⟨_, _, rfl, rfl, ?_⟩
  refine kL_sub (ls' := kLs i) kls_6 ?_
  exact k_goto (tgt := 908) (by decide) dL_law_440 _ _ _ (hV _ hI2)
set_option maxRecDepth 100000 in
set_option maxHeartbeats 4000000 in
/-- input -/
theorem wt_9 {Z : List Frame → Array Value → State → State → Prop} {G : rGm} {l : Launch} {b L n : Nat} {xs : Nat → Int32} {kc ks i : Nat} {c : Int} {s : qSg} (hl : l.stackTraces = false) (hb : G.2.2.2.1 30000 = .ref b) (hL6 : L ≤ 60000000) (hi : i + 6 ≤ L) (hc0 : 0 ≤ c) (hc : c ≤ 47) (hkc : kc + 1 ≤ lwC) (hks : ks + 6 ≤ lwS) (hI : tI c s) (hV : ∀ s', tI (c + 1) s' → kL Z G l b L n xs (kc + 1) (ks + 6) 908 (kLs i) [] s') : kL Z G l b L n xs kc ks 443 (kLs i) [] s := by
  obtain ⟨r1, a1, hB1, hE1⟩ := turn_9 (c := c) (v1 := (xs (i + 1)).toInt) hc0 hc (in32_x _) hI
  have hT := hI.1
  refine k_aload_n 1 rfl dL_law_443 _ _ _ ⟨_, (List.mem_cons_of_mem _ (List.mem_cons_self)), rfl, ?_⟩
  refine kl_rd hb hL6 (i := i) (k := 1) (z := 1) (List.mem_cons_self) (List.mem_cons_of_mem _ (List.mem_cons_of_mem _ (List.mem_cons_of_mem _ (List.mem_cons_of_mem _ (List.mem_cons_self))))) rfl (by omega) dL_law_444 dL_law_445 dL_law_447 dL_law_448 dL_law_449 ?_
  refine sl14 l (by decide) (by decide) _ dL_law_450 _ _ _ ⟨[(2, 1), (0, (xs (i + 1)).toInt)], [], r1, a1, rfl, hB1, Nat.le_of_ble_eq_true rfl, hT, fun res s1 hEx => ?_⟩
  obtain ⟨⟨z1, rfl⟩, r2, a2, hB2, hT2, hE2⟩ := hE1 res s1 hEx
  refine k_pop dL_law_453 _ _ _ ⟨_, _, rfl, (show (0 : Nat) ≠ 1 by decide), ?_⟩
  refine k_aload_n 2 rfl dL_law_454 _ _ _ ⟨_, (List.mem_cons_of_mem _ (List.mem_cons_of_mem _ (List.mem_cons_self))), rfl, ?_⟩
  refine kl_rd hb hL6 (i := i) (k := 1) (z := 1) (List.mem_cons_self) (List.mem_cons_of_mem _ (List.mem_cons_of_mem _ (List.mem_cons_of_mem _ (List.mem_cons_of_mem _ (List.mem_cons_self))))) rfl (by omega) dL_law_455 dL_law_456 dL_law_458 dL_law_459 dL_law_460 ?_
  refine sl15 l (by decide) (by decide) _ dL_law_461 _ _ _ ⟨[(2, 26909), (0, (xs (i + 1)).toInt)], [], r2, a2, rfl, hB2, Nat.le_of_ble_eq_true rfl, hT2, fun res2 s2 hEm => ?_⟩
  obtain ⟨⟨z2, rfl⟩, hI2⟩ := hE2 res2 s2 hEm
  refine k_pop dL_law_464 _ _ _ ⟨_, _, rfl, (show (0 : Nat) ≠ 1 by decide), ?_⟩
  exact k_goto (tgt := 908) (by decide) dL_law_465 _ _ _ (kL_wide (Nat.le_succ _) (Nat.le_add_right _ 6) (by omega) (by omega) (hV _ hI2))
set_option maxRecDepth 100000 in
set_option maxHeartbeats 4000000 in
/-- run -/
theorem wt_10 {Z : List Frame → Array Value → State → State → Prop} {G : rGm} {l : Launch} {b L n : Nat} {xs : Nat → Int32} {kc ks i : Nat} {c : Int} {s : qSg} (hl : l.stackTraces = false) (hb : G.2.2.2.1 30000 = .ref b) (hL6 : L ≤ 60000000) (hi : i + 6 ≤ L) (hc0 : 0 ≤ c) (hc : c ≤ 47) (hkc : kc + 1 ≤ lwC) (hks : ks + 6 ≤ lwS) (hI : tI c s) (hV : ∀ s', tI (c + 1) s' → kL Z G l b L n xs (kc + 1) (ks + 6) 908 (kLs i) [] s') : kL Z G l b L n xs kc ks 468 (kLs i) [] s := by
  obtain ⟨r1, a1, hB1, hE1⟩ := turn_10 (c := c) (v1 := (xs (i + 1)).toInt) hc0 hc (in32_x _) hI
  have hT := hI.1
  refine k_aload_n 1 rfl dL_law_468 _ _ _ ⟨_, (List.mem_cons_of_mem _ (List.mem_cons_self)), rfl, ?_⟩
  refine kl_rd hb hL6 (i := i) (k := 1) (z := 1) (List.mem_cons_self) (List.mem_cons_of_mem _ (List.mem_cons_of_mem _ (List.mem_cons_of_mem _ (List.mem_cons_of_mem _ (List.mem_cons_self))))) rfl (by omega) dL_law_469 dL_law_470 dL_law_472 dL_law_473 dL_law_474 ?_
  refine k_aload_n 3 rfl dL_law_475 _ _ _ ⟨_, (List.mem_cons_of_mem _ (List.mem_cons_of_mem _ (List.mem_cons_of_mem _ (List.mem_cons_self)))), rfl, ?_⟩
  refine kl_callH (as := [(2, 1), (0, (xs (i + 1)).toInt), (2, 28161)]) (st := []) 3 (kH_run l hl (xs (i + 1)).toInt) kw1068 kw1069 kw1001 kw1070 (by decide +kernel) (by decide) (by decide) rfl dL_law_476 hT hB1 (by decide) (by omega) (by omega) (fun res s1 hEx => ?_)
  obtain ⟨⟨z1, rfl⟩, r2, a2, hB2, hT2, hE2⟩ := hE1 res s1 hEx
  refine k_istore 5 (by decide) dL_law_479 _ _ _ ⟨_, _, rfl, rfl, ?_⟩
  refine kL_sub (ls' := kLs i) kls_5 ?_
  refine k_aload_n 2 rfl dL_law_481 _ _ _ ⟨_, (List.mem_cons_of_mem _ (List.mem_cons_of_mem _ (List.mem_cons_self))), rfl, ?_⟩
  refine kl_rd hb hL6 (i := i) (k := 1) (z := 1) (List.mem_cons_self) (List.mem_cons_of_mem _ (List.mem_cons_of_mem _ (List.mem_cons_of_mem _ (List.mem_cons_of_mem _ (List.mem_cons_self))))) rfl (by omega) dL_law_482 dL_law_483 dL_law_485 dL_law_486 dL_law_487 ?_
  refine sl16 l (by decide) (by decide) _ dL_law_488 _ _ _ ⟨[(2, 26909), (0, (xs (i + 1)).toInt)], [], r2, a2, rfl, hB2, Nat.le_of_ble_eq_true rfl, hT2, fun res2 s2 hEm => ?_⟩
  obtain ⟨⟨z2, rfl⟩, hI2⟩ := hE2 res2 s2 hEm
  refine k_istore 6 (by decide) dL_law_491 _ _ _ ⟨_, _, rfl, rfl, ?_⟩
  refine kL_sub (ls' := kLs i) kls_6 ?_
  exact k_goto (tgt := 908) (by decide) dL_law_493 _ _ _ (hV _ hI2)
set_option maxRecDepth 100000 in
set_option maxHeartbeats 4000000 in
/-- stop -/
theorem wt_11 {Z : List Frame → Array Value → State → State → Prop} {G : rGm} {l : Launch} {b L n : Nat} {xs : Nat → Int32} {kc ks i : Nat} {c : Int} {s : qSg} (hl : l.stackTraces = false) (hb : G.2.2.2.1 30000 = .ref b) (hL6 : L ≤ 60000000) (hi : i + 6 ≤ L) (hc0 : 0 ≤ c) (hc : c ≤ 47) (hkc : kc + 1 ≤ lwC) (hks : ks + 6 ≤ lwS) (hI : tI c s) (hV : ∀ s', tI (c + 1) s' → kL Z G l b L n xs (kc + 1) (ks + 6) 908 (kLs i) [] s') : kL Z G l b L n xs kc ks 496 (kLs i) [] s := by
  obtain ⟨r1, a1, hB1, hE1⟩ := turn_11 (c := c) (v1 := (xs (i + 1)).toInt) hc0 hc (in32_x _) hI
  have hT := hI.1
  refine k_aload_n 1 rfl dL_law_496 _ _ _ ⟨_, (List.mem_cons_of_mem _ (List.mem_cons_self)), rfl, ?_⟩
  refine kl_rd hb hL6 (i := i) (k := 1) (z := 1) (List.mem_cons_self) (List.mem_cons_of_mem _ (List.mem_cons_of_mem _ (List.mem_cons_of_mem _ (List.mem_cons_of_mem _ (List.mem_cons_self))))) rfl (by omega) dL_law_497 dL_law_498 dL_law_500 dL_law_501 dL_law_502 ?_
  refine sl17 l (by decide) (by decide) _ dL_law_503 _ _ _ ⟨[(2, 1), (0, (xs (i + 1)).toInt)], [], r1, a1, rfl, hB1, Nat.le_of_ble_eq_true rfl, hT, fun res s1 hEx => ?_⟩
  obtain ⟨⟨z1, rfl⟩, r2, a2, hB2, hT2, hE2⟩ := hE1 res s1 hEx
  refine k_pop2 dL_law_506 _ _ _ ⟨_, _, rfl, rfl, ?_⟩
  refine k_aload_n 2 rfl dL_law_507 _ _ _ ⟨_, (List.mem_cons_of_mem _ (List.mem_cons_of_mem _ (List.mem_cons_self))), rfl, ?_⟩
  refine kl_rd hb hL6 (i := i) (k := 1) (z := 1) (List.mem_cons_self) (List.mem_cons_of_mem _ (List.mem_cons_of_mem _ (List.mem_cons_of_mem _ (List.mem_cons_of_mem _ (List.mem_cons_self))))) rfl (by omega) dL_law_508 dL_law_509 dL_law_511 dL_law_512 dL_law_513 ?_
  refine sl18 l (by decide) (by decide) _ dL_law_514 _ _ _ ⟨[(2, 26909), (0, (xs (i + 1)).toInt)], [], r2, a2, rfl, hB2, Nat.le_of_ble_eq_true rfl, hT2, fun res2 s2 hEm => ?_⟩
  obtain ⟨⟨z2, rfl⟩, hI2⟩ := hE2 res2 s2 hEm
  refine k_pop2 dL_law_517 _ _ _ ⟨_, _, rfl, rfl, ?_⟩
  exact k_goto (tgt := 908) (by decide) dL_law_518 _ _ _ (kL_wide (Nat.le_succ _) (Nat.le_add_right _ 6) (by omega) (by omega) (hV _ hI2))
set_option maxRecDepth 100000 in
set_option maxHeartbeats 4000000 in
/-- register -/
theorem wt_12 {Z : List Frame → Array Value → State → State → Prop} {G : rGm} {l : Launch} {b L n : Nat} {xs : Nat → Int32} {kc ks i : Nat} {c : Int} {s : qSg} (hl : l.stackTraces = false) (hb : G.2.2.2.1 30000 = .ref b) (hL6 : L ≤ 60000000) (hi : i + 6 ≤ L) (hc0 : 0 ≤ c) (hc : c ≤ 47) (hkc : kc + 1 ≤ lwC) (hks : ks + 6 ≤ lwS) (hI : tI c s) (hV : ∀ s', tI (c + 1) s' → kL Z G l b L n xs (kc + 1) (ks + 6) 908 (kLs i) [] s') : kL Z G l b L n xs kc ks 521 (kLs i) [] s := by
  obtain ⟨r1, a1, hB1, hE1⟩ := turn_12 (c := c) (v1 := (xs (i + 1)).toInt) hc0 hc (in32_x _) hI
  have hT := hI.1
  refine k_aload_n 1 rfl dL_law_521 _ _ _ ⟨_, (List.mem_cons_of_mem _ (List.mem_cons_self)), rfl, ?_⟩
  refine kl_rd hb hL6 (i := i) (k := 1) (z := 1) (List.mem_cons_self) (List.mem_cons_of_mem _ (List.mem_cons_of_mem _ (List.mem_cons_of_mem _ (List.mem_cons_of_mem _ (List.mem_cons_self))))) rfl (by omega) dL_law_522 dL_law_523 dL_law_525 dL_law_526 dL_law_527 ?_
  refine sl19 l (by decide) (by decide) _ dL_law_528 _ _ _ ⟨[(2, 1), (0, (xs (i + 1)).toInt)], [], r1, a1, rfl, hB1, Nat.le_of_ble_eq_true rfl, hT, fun res s1 hEx => ?_⟩
  obtain ⟨⟨z1, rfl⟩, r2, a2, hB2, hT2, hE2⟩ := hE1 res s1 hEx
  refine k_pop2 dL_law_531 _ _ _ ⟨_, _, rfl, rfl, ?_⟩
  refine k_aload_n 2 rfl dL_law_532 _ _ _ ⟨_, (List.mem_cons_of_mem _ (List.mem_cons_of_mem _ (List.mem_cons_self))), rfl, ?_⟩
  refine kl_rd hb hL6 (i := i) (k := 1) (z := 1) (List.mem_cons_self) (List.mem_cons_of_mem _ (List.mem_cons_of_mem _ (List.mem_cons_of_mem _ (List.mem_cons_of_mem _ (List.mem_cons_self))))) rfl (by omega) dL_law_533 dL_law_534 dL_law_536 dL_law_537 dL_law_538 ?_
  refine sl20 l (by decide) (by decide) _ dL_law_539 _ _ _ ⟨[(2, 26909), (0, (xs (i + 1)).toInt)], [], r2, a2, rfl, hB2, Nat.le_of_ble_eq_true rfl, hT2, fun res2 s2 hEm => ?_⟩
  obtain ⟨⟨z2, rfl⟩, hI2⟩ := hE2 res2 s2 hEm
  refine k_pop2 dL_law_542 _ _ _ ⟨_, _, rfl, rfl, ?_⟩
  exact k_goto (tgt := 908) (by decide) dL_law_543 _ _ _ (kL_wide (Nat.le_succ _) (Nat.le_add_right _ 6) (by omega) (by omega) (hV _ hI2))
set_option maxRecDepth 100000 in
set_option maxHeartbeats 4000000 in
/-- set -/
theorem wt_13 {Z : List Frame → Array Value → State → State → Prop} {G : rGm} {l : Launch} {b L n : Nat} {xs : Nat → Int32} {kc ks i : Nat} {c : Int} {s : qSg} (hl : l.stackTraces = false) (hb : G.2.2.2.1 30000 = .ref b) (hL6 : L ≤ 60000000) (hi : i + 6 ≤ L) (hc0 : 0 ≤ c) (hc : c ≤ 47) (hkc : kc + 1 ≤ lwC) (hks : ks + 6 ≤ lwS) (hI : tI c s) (hV : ∀ s', tI (c + 1) s' → kL Z G l b L n xs (kc + 1) (ks + 6) 908 (kLs i) [] s') : kL Z G l b L n xs kc ks 546 (kLs i) [] s := by
  obtain ⟨r1, a1, hB1, hE1⟩ := turn_13 (c := c) (v1 := (xs (i + 1)).toInt) (L := (lgL (xs (i + 2)).toInt (xs (i + 3)).toInt)) hc0 hc (in32_x _) (lgL_64 _ _) hI
  have hT := hI.1
  refine k_aload_n 1 rfl dL_law_546 _ _ _ ⟨_, (List.mem_cons_of_mem _ (List.mem_cons_self)), rfl, ?_⟩
  refine kl_rd hb hL6 (i := i) (k := 1) (z := 1) (List.mem_cons_self) (List.mem_cons_of_mem _ (List.mem_cons_of_mem _ (List.mem_cons_of_mem _ (List.mem_cons_of_mem _ (List.mem_cons_self))))) rfl (by omega) dL_law_547 dL_law_548 dL_law_550 dL_law_551 dL_law_552 ?_
  refine kl_rd hb hL6 (i := i) (k := 2) (z := 2) (List.mem_cons_self) (List.mem_cons_of_mem _ (List.mem_cons_of_mem _ (List.mem_cons_of_mem _ (List.mem_cons_of_mem _ (List.mem_cons_self))))) rfl (by omega) dL_law_553 dL_law_554 dL_law_556 dL_law_557 dL_law_558 ?_
  refine k_i2l dL_law_559 _ _ _ ⟨_, _, rfl, in32_x _, ?_⟩
  refine k_bipush (z := 32) (by decide) dL_law_560 _ _ _ ?_
  refine k_lshl dL_law_562 _ _ _ ⟨_, _, _, rfl, in64_i (in32_x _), (show in64 32 from ⟨by decide, by decide⟩), (fun q => by rcases q with q | q <;> cases q), ?_⟩
  refine kl_rd hb hL6 (i := i) (k := 3) (z := 3) (List.mem_cons_self) (List.mem_cons_of_mem _ (List.mem_cons_of_mem _ (List.mem_cons_of_mem _ (List.mem_cons_of_mem _ (List.mem_cons_self))))) rfl (by omega) dL_law_563 dL_law_564 dL_law_566 dL_law_567 dL_law_568 ?_
  refine k_i2l dL_law_569 _ _ _ ⟨_, _, rfl, in32_x _, ?_⟩
  refine k_ldc2 (z := 4294967295) kw1091 dL_law_570 _ _ _ ?_
  refine k_land dL_law_573 _ _ _ ⟨_, _, _, rfl, in64_i (in32_x _), (show in64 4294967295 from ⟨by decide, by decide⟩), (fun q => by rcases q with q | q <;> cases q), ?_⟩
  refine k_lor dL_law_574 _ _ _ ⟨_, _, _, rfl, in64_x _, in64_x _, (fun q => by rcases q with q | q <;> cases q), ?_⟩
  refine sl21 l (by decide) (by decide) _ dL_law_575 _ _ _ ⟨[(2, 1), (0, (xs (i + 1)).toInt), (1, (lgL (xs (i + 2)).toInt (xs (i + 3)).toInt))], [], r1, a1, rfl, hB1, Nat.le_of_ble_eq_true rfl, hT, fun res s1 hEx => ?_⟩
  obtain ⟨⟨z1, rfl⟩, r2, a2, hB2, hT2, hE2⟩ := hE1 res s1 hEx
  refine k_pop dL_law_578 _ _ _ ⟨_, _, rfl, (show (0 : Nat) ≠ 1 by decide), ?_⟩
  refine k_aload_n 2 rfl dL_law_579 _ _ _ ⟨_, (List.mem_cons_of_mem _ (List.mem_cons_of_mem _ (List.mem_cons_self))), rfl, ?_⟩
  refine kl_rd hb hL6 (i := i) (k := 1) (z := 1) (List.mem_cons_self) (List.mem_cons_of_mem _ (List.mem_cons_of_mem _ (List.mem_cons_of_mem _ (List.mem_cons_of_mem _ (List.mem_cons_self))))) rfl (by omega) dL_law_580 dL_law_581 dL_law_583 dL_law_584 dL_law_585 ?_
  refine kl_rd hb hL6 (i := i) (k := 2) (z := 2) (List.mem_cons_self) (List.mem_cons_of_mem _ (List.mem_cons_of_mem _ (List.mem_cons_of_mem _ (List.mem_cons_of_mem _ (List.mem_cons_self))))) rfl (by omega) dL_law_586 dL_law_587 dL_law_589 dL_law_590 dL_law_591 ?_
  refine k_i2l dL_law_592 _ _ _ ⟨_, _, rfl, in32_x _, ?_⟩
  refine k_bipush (z := 32) (by decide) dL_law_593 _ _ _ ?_
  refine k_lshl dL_law_595 _ _ _ ⟨_, _, _, rfl, in64_i (in32_x _), (show in64 32 from ⟨by decide, by decide⟩), (fun q => by rcases q with q | q <;> cases q), ?_⟩
  refine kl_rd hb hL6 (i := i) (k := 3) (z := 3) (List.mem_cons_self) (List.mem_cons_of_mem _ (List.mem_cons_of_mem _ (List.mem_cons_of_mem _ (List.mem_cons_of_mem _ (List.mem_cons_self))))) rfl (by omega) dL_law_596 dL_law_597 dL_law_599 dL_law_600 dL_law_601 ?_
  refine k_i2l dL_law_602 _ _ _ ⟨_, _, rfl, in32_x _, ?_⟩
  refine k_ldc2 (z := 4294967295) kw1091 dL_law_603 _ _ _ ?_
  refine k_land dL_law_606 _ _ _ ⟨_, _, _, rfl, in64_i (in32_x _), (show in64 4294967295 from ⟨by decide, by decide⟩), (fun q => by rcases q with q | q <;> cases q), ?_⟩
  refine k_lor dL_law_607 _ _ _ ⟨_, _, _, rfl, in64_x _, in64_x _, (fun q => by rcases q with q | q <;> cases q), ?_⟩
  refine sl22 l (by decide) (by decide) _ dL_law_608 _ _ _ ⟨[(2, 26909), (0, (xs (i + 1)).toInt), (1, (lgL (xs (i + 2)).toInt (xs (i + 3)).toInt))], [], r2, a2, rfl, hB2, Nat.le_of_ble_eq_true rfl, hT2, fun res2 s2 hEm => ?_⟩
  obtain ⟨⟨z2, rfl⟩, hI2⟩ := hE2 res2 s2 hEm
  refine k_pop dL_law_611 _ _ _ ⟨_, _, rfl, (show (0 : Nat) ≠ 1 by decide), ?_⟩
  exact k_goto (tgt := 908) (by decide) dL_law_612 _ _ _ (kL_wide (Nat.le_succ _) (Nat.le_add_right _ 6) (by omega) (by omega) (hV _ hI2))
set_option maxRecDepth 100000 in
set_option maxHeartbeats 4000000 in
/-- peek -/
theorem wt_14 {Z : List Frame → Array Value → State → State → Prop} {G : rGm} {l : Launch} {b L n : Nat} {xs : Nat → Int32} {kc ks i : Nat} {c : Int} {s : qSg} (hl : l.stackTraces = false) (hb : G.2.2.2.1 30000 = .ref b) (hL6 : L ≤ 60000000) (hi : i + 6 ≤ L) (hc0 : 0 ≤ c) (hc : c ≤ 47) (hkc : kc + 1 ≤ lwC) (hks : ks + 6 ≤ lwS) (hI : tI c s) (hV : ∀ s', tI (c + 1) s' → kL Z G l b L n xs (kc + 1) (ks + 6) 908 (kLs i) [] s') : kL Z G l b L n xs kc ks 615 (kLs i) [] s := by
  obtain ⟨r1, a1, hB1, hE1⟩ := turn_14 (c := c) (L := (lgL (xs (i + 1)).toInt (xs (i + 2)).toInt)) hc0 hc (lgL_64 _ _) hI
  have hT := hI.1
  refine k_aload_n 1 rfl dL_law_615 _ _ _ ⟨_, (List.mem_cons_of_mem _ (List.mem_cons_self)), rfl, ?_⟩
  refine kl_rd hb hL6 (i := i) (k := 1) (z := 1) (List.mem_cons_self) (List.mem_cons_of_mem _ (List.mem_cons_of_mem _ (List.mem_cons_of_mem _ (List.mem_cons_of_mem _ (List.mem_cons_self))))) rfl (by omega) dL_law_616 dL_law_617 dL_law_619 dL_law_620 dL_law_621 ?_
  refine k_i2l dL_law_622 _ _ _ ⟨_, _, rfl, in32_x _, ?_⟩
  refine k_bipush (z := 32) (by decide) dL_law_623 _ _ _ ?_
  refine k_lshl dL_law_625 _ _ _ ⟨_, _, _, rfl, in64_i (in32_x _), (show in64 32 from ⟨by decide, by decide⟩), (fun q => by rcases q with q | q <;> cases q), ?_⟩
  refine kl_rd hb hL6 (i := i) (k := 2) (z := 2) (List.mem_cons_self) (List.mem_cons_of_mem _ (List.mem_cons_of_mem _ (List.mem_cons_of_mem _ (List.mem_cons_of_mem _ (List.mem_cons_self))))) rfl (by omega) dL_law_626 dL_law_627 dL_law_629 dL_law_630 dL_law_631 ?_
  refine k_i2l dL_law_632 _ _ _ ⟨_, _, rfl, in32_x _, ?_⟩
  refine k_ldc2 (z := 4294967295) kw1091 dL_law_633 _ _ _ ?_
  refine k_land dL_law_636 _ _ _ ⟨_, _, _, rfl, in64_i (in32_x _), (show in64 4294967295 from ⟨by decide, by decide⟩), (fun q => by rcases q with q | q <;> cases q), ?_⟩
  refine k_lor dL_law_637 _ _ _ ⟨_, _, _, rfl, in64_x _, in64_x _, (fun q => by rcases q with q | q <;> cases q), ?_⟩
  refine sl23 l (by decide) (by decide) _ dL_law_638 _ _ _ ⟨[(2, 1), (1, (lgL (xs (i + 1)).toInt (xs (i + 2)).toInt))], [], r1, a1, rfl, hB1, Nat.le_of_ble_eq_true rfl, hT, fun res s1 hEx => ?_⟩
  obtain ⟨⟨z1, rfl⟩, r2, a2, hB2, hT2, hE2⟩ := hE1 res s1 hEx
  refine k_pop dL_law_641 _ _ _ ⟨_, _, rfl, (show (0 : Nat) ≠ 1 by decide), ?_⟩
  refine k_aload_n 2 rfl dL_law_642 _ _ _ ⟨_, (List.mem_cons_of_mem _ (List.mem_cons_of_mem _ (List.mem_cons_self))), rfl, ?_⟩
  refine kl_rd hb hL6 (i := i) (k := 1) (z := 1) (List.mem_cons_self) (List.mem_cons_of_mem _ (List.mem_cons_of_mem _ (List.mem_cons_of_mem _ (List.mem_cons_of_mem _ (List.mem_cons_self))))) rfl (by omega) dL_law_643 dL_law_644 dL_law_646 dL_law_647 dL_law_648 ?_
  refine k_i2l dL_law_649 _ _ _ ⟨_, _, rfl, in32_x _, ?_⟩
  refine k_bipush (z := 32) (by decide) dL_law_650 _ _ _ ?_
  refine k_lshl dL_law_652 _ _ _ ⟨_, _, _, rfl, in64_i (in32_x _), (show in64 32 from ⟨by decide, by decide⟩), (fun q => by rcases q with q | q <;> cases q), ?_⟩
  refine kl_rd hb hL6 (i := i) (k := 2) (z := 2) (List.mem_cons_self) (List.mem_cons_of_mem _ (List.mem_cons_of_mem _ (List.mem_cons_of_mem _ (List.mem_cons_of_mem _ (List.mem_cons_self))))) rfl (by omega) dL_law_653 dL_law_654 dL_law_656 dL_law_657 dL_law_658 ?_
  refine k_i2l dL_law_659 _ _ _ ⟨_, _, rfl, in32_x _, ?_⟩
  refine k_ldc2 (z := 4294967295) kw1091 dL_law_660 _ _ _ ?_
  refine k_land dL_law_663 _ _ _ ⟨_, _, _, rfl, in64_i (in32_x _), (show in64 4294967295 from ⟨by decide, by decide⟩), (fun q => by rcases q with q | q <;> cases q), ?_⟩
  refine k_lor dL_law_664 _ _ _ ⟨_, _, _, rfl, in64_x _, in64_x _, (fun q => by rcases q with q | q <;> cases q), ?_⟩
  refine sl24 l (by decide) (by decide) _ dL_law_665 _ _ _ ⟨[(2, 26909), (1, (lgL (xs (i + 1)).toInt (xs (i + 2)).toInt))], [], r2, a2, rfl, hB2, Nat.le_of_ble_eq_true rfl, hT2, fun res2 s2 hEm => ?_⟩
  obtain ⟨⟨z2, rfl⟩, hI2⟩ := hE2 res2 s2 hEm
  refine k_pop dL_law_668 _ _ _ ⟨_, _, rfl, (show (0 : Nat) ≠ 1 by decide), ?_⟩
  exact k_goto (tgt := 908) (by decide) dL_law_669 _ _ _ (kL_wide (Nat.le_succ _) (Nat.le_add_right _ 6) (by omega) (by omega) (hV _ hI2))
set_option maxRecDepth 100000 in
set_option maxHeartbeats 4000000 in
/-- poke -/
theorem wt_15 {Z : List Frame → Array Value → State → State → Prop} {G : rGm} {l : Launch} {b L n : Nat} {xs : Nat → Int32} {kc ks i : Nat} {c : Int} {s : qSg} (hl : l.stackTraces = false) (hb : G.2.2.2.1 30000 = .ref b) (hL6 : L ≤ 60000000) (hi : i + 6 ≤ L) (hc0 : 0 ≤ c) (hc : c ≤ 47) (hkc : kc + 1 ≤ lwC) (hks : ks + 6 ≤ lwS) (hI : tI c s) (hV : ∀ s', tI (c + 1) s' → kL Z G l b L n xs (kc + 1) (ks + 6) 908 (kLs i) [] s') : kL Z G l b L n xs kc ks 672 (kLs i) [] s := by
  obtain ⟨r1, a1, hB1, hE1⟩ := turn_15 (c := c) (L := (lgL (xs (i + 1)).toInt (xs (i + 2)).toInt)) (v3 := (xs (i + 3)).toInt) hc0 hc (lgL_64 _ _) (in32_x _) hI
  have hT := hI.1
  refine k_aload_n 1 rfl dL_law_672 _ _ _ ⟨_, (List.mem_cons_of_mem _ (List.mem_cons_self)), rfl, ?_⟩
  refine kl_rd hb hL6 (i := i) (k := 1) (z := 1) (List.mem_cons_self) (List.mem_cons_of_mem _ (List.mem_cons_of_mem _ (List.mem_cons_of_mem _ (List.mem_cons_of_mem _ (List.mem_cons_self))))) rfl (by omega) dL_law_673 dL_law_674 dL_law_676 dL_law_677 dL_law_678 ?_
  refine k_i2l dL_law_679 _ _ _ ⟨_, _, rfl, in32_x _, ?_⟩
  refine k_bipush (z := 32) (by decide) dL_law_680 _ _ _ ?_
  refine k_lshl dL_law_682 _ _ _ ⟨_, _, _, rfl, in64_i (in32_x _), (show in64 32 from ⟨by decide, by decide⟩), (fun q => by rcases q with q | q <;> cases q), ?_⟩
  refine kl_rd hb hL6 (i := i) (k := 2) (z := 2) (List.mem_cons_self) (List.mem_cons_of_mem _ (List.mem_cons_of_mem _ (List.mem_cons_of_mem _ (List.mem_cons_of_mem _ (List.mem_cons_self))))) rfl (by omega) dL_law_683 dL_law_684 dL_law_686 dL_law_687 dL_law_688 ?_
  refine k_i2l dL_law_689 _ _ _ ⟨_, _, rfl, in32_x _, ?_⟩
  refine k_ldc2 (z := 4294967295) kw1091 dL_law_690 _ _ _ ?_
  refine k_land dL_law_693 _ _ _ ⟨_, _, _, rfl, in64_i (in32_x _), (show in64 4294967295 from ⟨by decide, by decide⟩), (fun q => by rcases q with q | q <;> cases q), ?_⟩
  refine k_lor dL_law_694 _ _ _ ⟨_, _, _, rfl, in64_x _, in64_x _, (fun q => by rcases q with q | q <;> cases q), ?_⟩
  refine kl_rd hb hL6 (i := i) (k := 3) (z := 3) (List.mem_cons_self) (List.mem_cons_of_mem _ (List.mem_cons_of_mem _ (List.mem_cons_of_mem _ (List.mem_cons_of_mem _ (List.mem_cons_self))))) rfl (by omega) dL_law_695 dL_law_696 dL_law_698 dL_law_699 dL_law_700 ?_
  refine sl25 l (by decide) (by decide) _ dL_law_701 _ _ _ ⟨[(2, 1), (1, (lgL (xs (i + 1)).toInt (xs (i + 2)).toInt)), (0, (xs (i + 3)).toInt)], [], r1, a1, rfl, hB1, Nat.le_of_ble_eq_true rfl, hT, fun res s1 hEx => ?_⟩
  obtain ⟨⟨z1, rfl⟩, r2, a2, hB2, hT2, hE2⟩ := hE1 res s1 hEx
  refine k_pop dL_law_704 _ _ _ ⟨_, _, rfl, (show (0 : Nat) ≠ 1 by decide), ?_⟩
  refine k_aload_n 2 rfl dL_law_705 _ _ _ ⟨_, (List.mem_cons_of_mem _ (List.mem_cons_of_mem _ (List.mem_cons_self))), rfl, ?_⟩
  refine kl_rd hb hL6 (i := i) (k := 1) (z := 1) (List.mem_cons_self) (List.mem_cons_of_mem _ (List.mem_cons_of_mem _ (List.mem_cons_of_mem _ (List.mem_cons_of_mem _ (List.mem_cons_self))))) rfl (by omega) dL_law_706 dL_law_707 dL_law_709 dL_law_710 dL_law_711 ?_
  refine k_i2l dL_law_712 _ _ _ ⟨_, _, rfl, in32_x _, ?_⟩
  refine k_bipush (z := 32) (by decide) dL_law_713 _ _ _ ?_
  refine k_lshl dL_law_715 _ _ _ ⟨_, _, _, rfl, in64_i (in32_x _), (show in64 32 from ⟨by decide, by decide⟩), (fun q => by rcases q with q | q <;> cases q), ?_⟩
  refine kl_rd hb hL6 (i := i) (k := 2) (z := 2) (List.mem_cons_self) (List.mem_cons_of_mem _ (List.mem_cons_of_mem _ (List.mem_cons_of_mem _ (List.mem_cons_of_mem _ (List.mem_cons_self))))) rfl (by omega) dL_law_716 dL_law_717 dL_law_719 dL_law_720 dL_law_721 ?_
  refine k_i2l dL_law_722 _ _ _ ⟨_, _, rfl, in32_x _, ?_⟩
  refine k_ldc2 (z := 4294967295) kw1091 dL_law_723 _ _ _ ?_
  refine k_land dL_law_726 _ _ _ ⟨_, _, _, rfl, in64_i (in32_x _), (show in64 4294967295 from ⟨by decide, by decide⟩), (fun q => by rcases q with q | q <;> cases q), ?_⟩
  refine k_lor dL_law_727 _ _ _ ⟨_, _, _, rfl, in64_x _, in64_x _, (fun q => by rcases q with q | q <;> cases q), ?_⟩
  refine kl_rd hb hL6 (i := i) (k := 3) (z := 3) (List.mem_cons_self) (List.mem_cons_of_mem _ (List.mem_cons_of_mem _ (List.mem_cons_of_mem _ (List.mem_cons_of_mem _ (List.mem_cons_self))))) rfl (by omega) dL_law_728 dL_law_729 dL_law_731 dL_law_732 dL_law_733 ?_
  refine sl26 l (by decide) (by decide) _ dL_law_734 _ _ _ ⟨[(2, 26909), (1, (lgL (xs (i + 1)).toInt (xs (i + 2)).toInt)), (0, (xs (i + 3)).toInt)], [], r2, a2, rfl, hB2, Nat.le_of_ble_eq_true rfl, hT2, fun res2 s2 hEm => ?_⟩
  obtain ⟨⟨z2, rfl⟩, hI2⟩ := hE2 res2 s2 hEm
  refine k_pop dL_law_737 _ _ _ ⟨_, _, rfl, (show (0 : Nat) ≠ 1 by decide), ?_⟩
  exact k_goto (tgt := 908) (by decide) dL_law_738 _ _ _ (kL_wide (Nat.le_succ _) (Nat.le_add_right _ 6) (by omega) (by omega) (hV _ hI2))
set_option maxRecDepth 100000 in
set_option maxHeartbeats 4000000 in
/-- stopAt -/
theorem wt_16 {Z : List Frame → Array Value → State → State → Prop} {G : rGm} {l : Launch} {b L n : Nat} {xs : Nat → Int32} {kc ks i : Nat} {c : Int} {s : qSg} (hl : l.stackTraces = false) (hb : G.2.2.2.1 30000 = .ref b) (hL6 : L ≤ 60000000) (hi : i + 6 ≤ L) (hc0 : 0 ≤ c) (hc : c ≤ 47) (hkc : kc + 1 ≤ lwC) (hks : ks + 6 ≤ lwS) (hI : tI c s) (hV : ∀ s', tI (c + 1) s' → kL Z G l b L n xs (kc + 1) (ks + 6) 908 (kLs i) [] s') : kL Z G l b L n xs kc ks 741 (kLs i) [] s := by
  obtain ⟨r1, a1, hB1, hE1⟩ := turn_16 (c := c) (L := (lgL (xs (i + 1)).toInt (xs (i + 2)).toInt)) (b := (b01 (xs (i + 3)).toInt)) hc0 hc (lgL_64 _ _) (b01_01 _) hI
  have hT := hI.1
  refine k_aload_n 1 rfl dL_law_741 _ _ _ ⟨_, (List.mem_cons_of_mem _ (List.mem_cons_self)), rfl, ?_⟩
  refine kl_rd hb hL6 (i := i) (k := 1) (z := 1) (List.mem_cons_self) (List.mem_cons_of_mem _ (List.mem_cons_of_mem _ (List.mem_cons_of_mem _ (List.mem_cons_of_mem _ (List.mem_cons_self))))) rfl (by omega) dL_law_742 dL_law_743 dL_law_745 dL_law_746 dL_law_747 ?_
  refine k_i2l dL_law_748 _ _ _ ⟨_, _, rfl, in32_x _, ?_⟩
  refine k_bipush (z := 32) (by decide) dL_law_749 _ _ _ ?_
  refine k_lshl dL_law_751 _ _ _ ⟨_, _, _, rfl, in64_i (in32_x _), (show in64 32 from ⟨by decide, by decide⟩), (fun q => by rcases q with q | q <;> cases q), ?_⟩
  refine kl_rd hb hL6 (i := i) (k := 2) (z := 2) (List.mem_cons_self) (List.mem_cons_of_mem _ (List.mem_cons_of_mem _ (List.mem_cons_of_mem _ (List.mem_cons_of_mem _ (List.mem_cons_self))))) rfl (by omega) dL_law_752 dL_law_753 dL_law_755 dL_law_756 dL_law_757 ?_
  refine k_i2l dL_law_758 _ _ _ ⟨_, _, rfl, in32_x _, ?_⟩
  refine k_ldc2 (z := 4294967295) kw1091 dL_law_759 _ _ _ ?_
  refine k_land dL_law_762 _ _ _ ⟨_, _, _, rfl, in64_i (in32_x _), (show in64 4294967295 from ⟨by decide, by decide⟩), (fun q => by rcases q with q | q <;> cases q), ?_⟩
  refine k_lor dL_law_763 _ _ _ ⟨_, _, _, rfl, in64_x _, in64_x _, (fun q => by rcases q with q | q <;> cases q), ?_⟩
  refine kl_rd hb hL6 (i := i) (k := 3) (z := 3) (List.mem_cons_self) (List.mem_cons_of_mem _ (List.mem_cons_of_mem _ (List.mem_cons_of_mem _ (List.mem_cons_of_mem _ (List.mem_cons_self))))) rfl (by omega) dL_law_764 dL_law_765 dL_law_767 dL_law_768 dL_law_769 ?_
  refine kl_bool (in32_x _) (by decide) (by decide) dL_law_770 dL_law_773 dL_law_774 dL_law_777 ?_
  refine sl27 l (by decide) (by decide) _ dL_law_778 _ _ _ ⟨[(2, 1), (1, (lgL (xs (i + 1)).toInt (xs (i + 2)).toInt)), (0, (b01 (xs (i + 3)).toInt))], [], r1, a1, rfl, hB1, Nat.le_of_ble_eq_true rfl, hT, fun res s1 hEx => ?_⟩
  obtain ⟨z1, rfl, r2, a2, hB2, hT2, hE2⟩ := hE1 res s1 hEx
  refine k_aload_n 2 rfl dL_law_781 _ _ _ ⟨_, (List.mem_cons_of_mem _ (List.mem_cons_of_mem _ (List.mem_cons_self))), rfl, ?_⟩
  refine kl_rd hb hL6 (i := i) (k := 1) (z := 1) (List.mem_cons_self) (List.mem_cons_of_mem _ (List.mem_cons_of_mem _ (List.mem_cons_of_mem _ (List.mem_cons_of_mem _ (List.mem_cons_self))))) rfl (by omega) dL_law_782 dL_law_783 dL_law_785 dL_law_786 dL_law_787 ?_
  refine k_i2l dL_law_788 _ _ _ ⟨_, _, rfl, in32_x _, ?_⟩
  refine k_bipush (z := 32) (by decide) dL_law_789 _ _ _ ?_
  refine k_lshl dL_law_791 _ _ _ ⟨_, _, _, rfl, in64_i (in32_x _), (show in64 32 from ⟨by decide, by decide⟩), (fun q => by rcases q with q | q <;> cases q), ?_⟩
  refine kl_rd hb hL6 (i := i) (k := 2) (z := 2) (List.mem_cons_self) (List.mem_cons_of_mem _ (List.mem_cons_of_mem _ (List.mem_cons_of_mem _ (List.mem_cons_of_mem _ (List.mem_cons_self))))) rfl (by omega) dL_law_792 dL_law_793 dL_law_795 dL_law_796 dL_law_797 ?_
  refine k_i2l dL_law_798 _ _ _ ⟨_, _, rfl, in32_x _, ?_⟩
  refine k_ldc2 (z := 4294967295) kw1091 dL_law_799 _ _ _ ?_
  refine k_land dL_law_802 _ _ _ ⟨_, _, _, rfl, in64_i (in32_x _), (show in64 4294967295 from ⟨by decide, by decide⟩), (fun q => by rcases q with q | q <;> cases q), ?_⟩
  refine k_lor dL_law_803 _ _ _ ⟨_, _, _, rfl, in64_x _, in64_x _, (fun q => by rcases q with q | q <;> cases q), ?_⟩
  refine kl_rd hb hL6 (i := i) (k := 3) (z := 3) (List.mem_cons_self) (List.mem_cons_of_mem _ (List.mem_cons_of_mem _ (List.mem_cons_of_mem _ (List.mem_cons_of_mem _ (List.mem_cons_self))))) rfl (by omega) dL_law_804 dL_law_805 dL_law_807 dL_law_808 dL_law_809 ?_
  refine kl_bool (in32_x _) (by decide) (by decide) dL_law_810 dL_law_813 dL_law_814 dL_law_817 ?_
  refine sl28 l (by decide) (by decide) _ dL_law_818 _ _ _ ⟨[(2, 26909), (1, (lgL (xs (i + 1)).toInt (xs (i + 2)).toInt)), (0, (b01 (xs (i + 3)).toInt))], [(0, z1)], r2, a2, rfl, hB2, Nat.le_of_ble_eq_true rfl, hT2, fun res2 s2 hEm => ?_⟩
  obtain ⟨rfl, hz, hI2⟩ := hE2 res2 s2 hEm
  exact k_icmp_eq (tgt := 908) (by decide) dL_law_821 _ _ _ ⟨_, _, _, rfl, hz, hz, fun _ => kL_wide (Nat.le_succ _) (Nat.le_add_right _ 6) (by omega) (by omega) (hV _ hI2), fun q => absurd rfl q⟩
set_option maxRecDepth 100000 in
set_option maxHeartbeats 4000000 in
/-- output -/
theorem wt_17 {Z : List Frame → Array Value → State → State → Prop} {G : rGm} {l : Launch} {b L n : Nat} {xs : Nat → Int32} {kc ks i : Nat} {c : Int} {s : qSg} (hl : l.stackTraces = false) (hb : G.2.2.2.1 30000 = .ref b) (hL6 : L ≤ 60000000) (hi : i + 6 ≤ L) (hc0 : 0 ≤ c) (hc : c ≤ 47) (hkc : kc + 1 ≤ lwC) (hks : ks + 6 ≤ lwS) (hI : tI c s) (hV : ∀ s', tI (c + 1) s' → kL Z G l b L n xs (kc + 1) (ks + 6) 908 (kLs i) [] s') : kL Z G l b L n xs kc ks 826 (kLs i) [] s := by
  obtain ⟨r1, a1, hB1, hE1⟩ := turn_17 (c := c) (v1 := (xs (i + 1)).toInt) hc0 hc (in32_x _) hI
  have hT := hI.1
  refine k_aload_n 1 rfl dL_law_826 _ _ _ ⟨_, (List.mem_cons_of_mem _ (List.mem_cons_self)), rfl, ?_⟩
  refine kl_rd hb hL6 (i := i) (k := 1) (z := 1) (List.mem_cons_self) (List.mem_cons_of_mem _ (List.mem_cons_of_mem _ (List.mem_cons_of_mem _ (List.mem_cons_of_mem _ (List.mem_cons_self))))) rfl (by omega) dL_law_827 dL_law_828 dL_law_830 dL_law_831 dL_law_832 ?_
  refine sl29 l (by decide) (by decide) _ dL_law_833 _ _ _ ⟨[(2, 1), (0, (xs (i + 1)).toInt)], [], r1, a1, rfl, hB1, Nat.le_of_ble_eq_true rfl, hT, fun res s1 hEx => ?_⟩
  obtain ⟨⟨z1, rfl⟩, r2, a2, hB2, hT2, hE2⟩ := hE1 res s1 hEx
  refine k_pop dL_law_836 _ _ _ ⟨_, _, rfl, (show (0 : Nat) ≠ 1 by decide), ?_⟩
  refine k_aload_n 2 rfl dL_law_837 _ _ _ ⟨_, (List.mem_cons_of_mem _ (List.mem_cons_of_mem _ (List.mem_cons_self))), rfl, ?_⟩
  refine kl_rd hb hL6 (i := i) (k := 1) (z := 1) (List.mem_cons_self) (List.mem_cons_of_mem _ (List.mem_cons_of_mem _ (List.mem_cons_of_mem _ (List.mem_cons_of_mem _ (List.mem_cons_self))))) rfl (by omega) dL_law_838 dL_law_839 dL_law_841 dL_law_842 dL_law_843 ?_
  refine sl30 l (by decide) (by decide) _ dL_law_844 _ _ _ ⟨[(2, 26909), (0, (xs (i + 1)).toInt)], [], r2, a2, rfl, hB2, Nat.le_of_ble_eq_true rfl, hT2, fun res2 s2 hEm => ?_⟩
  obtain ⟨⟨z2, rfl⟩, hI2⟩ := hE2 res2 s2 hEm
  refine k_pop dL_law_847 _ _ _ ⟨_, _, rfl, (show (0 : Nat) ≠ 1 by decide), ?_⟩
  exact k_goto (tgt := 908) (by decide) dL_law_848 _ _ _ (kL_wide (Nat.le_succ _) (Nat.le_add_right _ 6) (by omega) (by omega) (hV _ hI2))
set_option maxRecDepth 100000 in
set_option maxHeartbeats 4000000 in
/-- where -/
theorem wt_18 {Z : List Frame → Array Value → State → State → Prop} {G : rGm} {l : Launch} {b L n : Nat} {xs : Nat → Int32} {kc ks i : Nat} {c : Int} {s : qSg} (hl : l.stackTraces = false) (hb : G.2.2.2.1 30000 = .ref b) (hL6 : L ≤ 60000000) (hi : i + 6 ≤ L) (hc0 : 0 ≤ c) (hc : c ≤ 47) (hkc : kc + 1 ≤ lwC) (hks : ks + 6 ≤ lwS) (hI : tI c s) (hV : ∀ s', tI (c + 1) s' → kL Z G l b L n xs (kc + 1) (ks + 6) 908 (kLs i) [] s') : kL Z G l b L n xs kc ks 851 (kLs i) [] s := by
  obtain ⟨r1, a1, hB1, hE1⟩ := turn_18 (c := c) (L := (lgL (xs (i + 1)).toInt (xs (i + 2)).toInt)) hc0 hc (lgL_64 _ _) hI
  have hT := hI.1
  refine k_aload_n 1 rfl dL_law_851 _ _ _ ⟨_, (List.mem_cons_of_mem _ (List.mem_cons_self)), rfl, ?_⟩
  refine kl_rd hb hL6 (i := i) (k := 1) (z := 1) (List.mem_cons_self) (List.mem_cons_of_mem _ (List.mem_cons_of_mem _ (List.mem_cons_of_mem _ (List.mem_cons_of_mem _ (List.mem_cons_self))))) rfl (by omega) dL_law_852 dL_law_853 dL_law_855 dL_law_856 dL_law_857 ?_
  refine k_i2l dL_law_858 _ _ _ ⟨_, _, rfl, in32_x _, ?_⟩
  refine k_bipush (z := 32) (by decide) dL_law_859 _ _ _ ?_
  refine k_lshl dL_law_861 _ _ _ ⟨_, _, _, rfl, in64_i (in32_x _), (show in64 32 from ⟨by decide, by decide⟩), (fun q => by rcases q with q | q <;> cases q), ?_⟩
  refine kl_rd hb hL6 (i := i) (k := 2) (z := 2) (List.mem_cons_self) (List.mem_cons_of_mem _ (List.mem_cons_of_mem _ (List.mem_cons_of_mem _ (List.mem_cons_of_mem _ (List.mem_cons_self))))) rfl (by omega) dL_law_862 dL_law_863 dL_law_865 dL_law_866 dL_law_867 ?_
  refine k_i2l dL_law_868 _ _ _ ⟨_, _, rfl, in32_x _, ?_⟩
  refine k_ldc2 (z := 4294967295) kw1091 dL_law_869 _ _ _ ?_
  refine k_land dL_law_872 _ _ _ ⟨_, _, _, rfl, in64_i (in32_x _), (show in64 4294967295 from ⟨by decide, by decide⟩), (fun q => by rcases q with q | q <;> cases q), ?_⟩
  refine k_lor dL_law_873 _ _ _ ⟨_, _, _, rfl, in64_x _, in64_x _, (fun q => by rcases q with q | q <;> cases q), ?_⟩
  refine sl31 l (by decide) (by decide) _ dL_law_874 _ _ _ ⟨[(2, 1), (1, (lgL (xs (i + 1)).toInt (xs (i + 2)).toInt))], [], r1, a1, rfl, hB1, Nat.le_of_ble_eq_true rfl, hT, fun res s1 hEx => ?_⟩
  obtain ⟨⟨z1, rfl⟩, r2, a2, hB2, hT2, hE2⟩ := hE1 res s1 hEx
  refine k_pop dL_law_877 _ _ _ ⟨_, _, rfl, (show (0 : Nat) ≠ 1 by decide), ?_⟩
  refine k_aload_n 2 rfl dL_law_878 _ _ _ ⟨_, (List.mem_cons_of_mem _ (List.mem_cons_of_mem _ (List.mem_cons_self))), rfl, ?_⟩
  refine kl_rd hb hL6 (i := i) (k := 1) (z := 1) (List.mem_cons_self) (List.mem_cons_of_mem _ (List.mem_cons_of_mem _ (List.mem_cons_of_mem _ (List.mem_cons_of_mem _ (List.mem_cons_self))))) rfl (by omega) dL_law_879 dL_law_880 dL_law_882 dL_law_883 dL_law_884 ?_
  refine k_i2l dL_law_885 _ _ _ ⟨_, _, rfl, in32_x _, ?_⟩
  refine k_bipush (z := 32) (by decide) dL_law_886 _ _ _ ?_
  refine k_lshl dL_law_888 _ _ _ ⟨_, _, _, rfl, in64_i (in32_x _), (show in64 32 from ⟨by decide, by decide⟩), (fun q => by rcases q with q | q <;> cases q), ?_⟩
  refine kl_rd hb hL6 (i := i) (k := 2) (z := 2) (List.mem_cons_self) (List.mem_cons_of_mem _ (List.mem_cons_of_mem _ (List.mem_cons_of_mem _ (List.mem_cons_of_mem _ (List.mem_cons_self))))) rfl (by omega) dL_law_889 dL_law_890 dL_law_892 dL_law_893 dL_law_894 ?_
  refine k_i2l dL_law_895 _ _ _ ⟨_, _, rfl, in32_x _, ?_⟩
  refine k_ldc2 (z := 4294967295) kw1091 dL_law_896 _ _ _ ?_
  refine k_land dL_law_899 _ _ _ ⟨_, _, _, rfl, in64_i (in32_x _), (show in64 4294967295 from ⟨by decide, by decide⟩), (fun q => by rcases q with q | q <;> cases q), ?_⟩
  refine k_lor dL_law_900 _ _ _ ⟨_, _, _, rfl, in64_x _, in64_x _, (fun q => by rcases q with q | q <;> cases q), ?_⟩
  refine sl32 l (by decide) (by decide) _ dL_law_901 _ _ _ ⟨[(2, 26909), (1, (lgL (xs (i + 1)).toInt (xs (i + 2)).toInt))], [], r2, a2, rfl, hB2, Nat.le_of_ble_eq_true rfl, hT2, fun res2 s2 hEm => ?_⟩
  obtain ⟨⟨z2, rfl⟩, hI2⟩ := hE2 res2 s2 hEm
  refine k_pop dL_law_904 _ _ _ ⟨_, _, rfl, (show (0 : Nat) ≠ 1 by decide), ?_⟩
  exact k_goto (tgt := 908) (by decide) dL_law_905 _ _ _ (kL_wide (Nat.le_succ _) (Nat.le_add_right _ 6) (by omega) (by omega) (hV _ hI2))
def lwP : List Nat := [132, 205, 261, 272, 297, 334, 383, 399, 427, 443, 468, 496, 521, 546, 615, 672, 741, 826, 851, 908]
def lwTb : List (Int × Nat) := [(0, 0), (1, 1), (2, 2), (3, 3), (4, 4), (5, 5), (6, 6), (7, 7), (8, 8), (9, 9), (10, 10), (11, 11), (12, 12), (13, 13), (14, 14), (15, 15), (16, 16), (17, 17), (18, 18)]
set_option maxRecDepth 100000 in
set_option maxHeartbeats 4000000 in
theorem lt_33 {Z : List Frame → Array Value → State → State → Prop} {G : rGm} {l : Launch} {b L n : Nat} {xs : Nat → Int32} {kc ks i : Nat} {c : Int} {s : qSg} (hl : l.stackTraces = false) (hb : G.2.2.2.1 30000 = .ref b) (hL6 : L ≤ 60000000) (hi : i + 6 ≤ L) (hc0 : 0 ≤ c) (hc : c ≤ 47) (hkc : kc + 1 ≤ lwC) (hks : ks + 6 ≤ lwS) (hI : tI c s) (hV : ∀ s', tI (c + 1) s' → kL Z G l b L n xs (kc + 1) (ks + 6) 908 (kLs i) [] s') : kL Z G l b L n xs kc ks 33 (kLs i) [] s := by
  refine k_aload_n 0 rfl dL_law_33 _ _ _ ⟨_, List.mem_cons_self, rfl, ?_⟩
  refine k_iload 4 dL_law_34 _ _ _ ⟨_, List.mem_cons_of_mem _ (List.mem_cons_of_mem _ (List.mem_cons_of_mem _ (List.mem_cons_of_mem _ (List.mem_cons_self)))), rfl, ?_⟩
  refine kl_sld hb hL6 (by omega) dL_law_36 ?_
  refine k_bipush (z := 31) (by decide) dL_law_37 _ _ _ ?_
  refine k_iand dL_law_39 _ _ _ ⟨_, _, _, rfl, in32_x _, (show in32 31 from ⟨by decide, by decide⟩), (fun q => by rcases q with q | q <;> cases q), ?_⟩
  refine k_table (fun b9 => kL Z G l b L n xs kc ks (lwP.getD b9 0)) lwP (fun b9 t9 h9 ls9 st9 s9 q9 => by
    have e : lwP.getD b9 0 = t9 := by rw [List.getD_eq_getElem?_getD, h9]; rfl
    rw [e] at q9
    exact q9) (tb := lwTb) (d := 19) (j := 0) (k := 0) (t0 := 908) (Rr := fun _ _ => True) dL_law_40 (by decide) (by decide +kernel) rfl (by decide) _ _ _ ⟨_, _, rfl, in32_x _, fun x hx q => ?_, fun _ => ?_⟩
  · rcases List.mem_cons.mp hx with rfl | hx
    · exact wt_0 hl hb hL6 hi hc0 hc hkc hks hI hV
    rcases List.mem_cons.mp hx with rfl | hx
    · exact wt_1 hl hb hL6 hi hc0 hc hkc hks hI hV
    rcases List.mem_cons.mp hx with rfl | hx
    · exact wt_2 hl hb hL6 hi hc0 hc hkc hks hI hV
    rcases List.mem_cons.mp hx with rfl | hx
    · exact wt_3 hl hb hL6 hi hc0 hc hkc hks hI hV
    rcases List.mem_cons.mp hx with rfl | hx
    · exact wt_4 hl hb hL6 hi hc0 hc hkc hks hI hV
    rcases List.mem_cons.mp hx with rfl | hx
    · exact wt_5 hl hb hL6 hi hc0 hc hkc hks hI hV
    rcases List.mem_cons.mp hx with rfl | hx
    · exact wt_6 hl hb hL6 hi hc0 hc hkc hks hI hV
    rcases List.mem_cons.mp hx with rfl | hx
    · exact wt_7 hl hb hL6 hi hc0 hc hkc hks hI hV
    rcases List.mem_cons.mp hx with rfl | hx
    · exact wt_8 hl hb hL6 hi hc0 hc hkc hks hI hV
    rcases List.mem_cons.mp hx with rfl | hx
    · exact wt_9 hl hb hL6 hi hc0 hc hkc hks hI hV
    rcases List.mem_cons.mp hx with rfl | hx
    · exact wt_10 hl hb hL6 hi hc0 hc hkc hks hI hV
    rcases List.mem_cons.mp hx with rfl | hx
    · exact wt_11 hl hb hL6 hi hc0 hc hkc hks hI hV
    rcases List.mem_cons.mp hx with rfl | hx
    · exact wt_12 hl hb hL6 hi hc0 hc hkc hks hI hV
    rcases List.mem_cons.mp hx with rfl | hx
    · exact wt_13 hl hb hL6 hi hc0 hc hkc hks hI hV
    rcases List.mem_cons.mp hx with rfl | hx
    · exact wt_14 hl hb hL6 hi hc0 hc hkc hks hI hV
    rcases List.mem_cons.mp hx with rfl | hx
    · exact wt_15 hl hb hL6 hi hc0 hc hkc hks hI hV
    rcases List.mem_cons.mp hx with rfl | hx
    · exact wt_16 hl hb hL6 hi hc0 hc hkc hks hI hV
    rcases List.mem_cons.mp hx with rfl | hx
    · exact wt_17 hl hb hL6 hi hc0 hc hkc hks hI hV
    rcases List.mem_cons.mp hx with rfl | hx
    · exact wt_18 hl hb hL6 hi hc0 hc hkc hks hI hV
    cases hx
  · exact kL_wide (Nat.le_succ _) (Nat.le_add_right _ 6) (by omega) (by omega) (hV _ (turn_none hc0 hc hI))
