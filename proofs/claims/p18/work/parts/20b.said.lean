/-! WHAT IS SAID OF ARRAYS: formulas of one bound place. A read: array, coefficient of the place, constant, coefficients of numbers, of earlier reads; a sentence: constant, coefficient of the place, of numbers, of reads; one sentence of a formula holds wherever number 0 is at most the place, which is less than number 1 -/
abbrev fTm : Type := List (Nat × Int)
abbrev fRd : Type := Nat × (Int × (Int × (fTm × fTm)))
abbrev fLt : Type := Int × (Int × (fTm × fTm))
abbrev fFm : Type := (Nat × Nat) × (List fRd × List fLt)
def fZ (zs : List Int) (i : Nat) : Int := (zs[i]?).getD 0
def fF (fs : List (Int → Int)) (i : Nat) : Int → Int := (fs[i]?).getD (fun _ => 0)
def fS (zs : List Int) : fTm → Int
  | [] => 0
  | x :: l => x.2 * fZ zs x.1 + fS zs l
def fIx (j : Int) (zs xs : List Int) (r : fRd) : Int := r.2.2.1 + r.2.1 * j + fS zs r.2.2.2.1 + fS xs r.2.2.2.2
def fXs (fs : List (Int → Int)) (zs : List Int) (j : Int) : List fRd → List Int → List Int
  | [], xs => xs
  | r :: rs, xs => fXs fs zs j rs (xs ++ [fF fs r.1 (fIx j zs xs r)])
def fLv (j : Int) (zs xs : List Int) (l : fLt) : Int := l.1 + l.2.1 * j + fS zs l.2.2.1 + fS xs l.2.2.2
def fAt (φ : fFm) (fs : List (Int → Int)) (zs : List Int) (j : Int) : Prop := ∃ l ∈ φ.2.2, 0 ≤ fLv j zs (fXs fs zs j φ.2.1 []) l
def fOk (φ : fFm) (fs : List (Int → Int)) (zs : List Int) : Prop := ∀ j : Int, fZ zs 0 ≤ j → j < fZ zs 1 → fAt φ fs zs j
/-- the formulas: 0 or2, 1 or3, 2 ge, 3 le, 4 name63, 5 name1, 6 sum_le, 7 idx_le, 8 ge_idx, 9 rise, 10 le_or, 11 name63b, 12 name1b, 13 or4, 14 ge_off, 15 le_off, 16 ge_or, 17 sgn_lo, 18 sgn_hi, 19 dot_lo, 20 dot_hi, 21 sgn63, 22 nev, 23 outr, 24 ge8_or, 25 aln_lo, 26 aln_hi, 27 lt2, 28 ifn_le, 29 endl, 30 mono, 31 nm_lo, 32 nm_hi, 33 nev_or, 34 r0le, 35 r1le, 36 r2le, 37 slo, 38 jw, 39 cl, 40 po0, 41 po3, 42 pg0, 43 pg3, 44 pl1, 45 pl2, 46 pl3, 47 re, 48 rsum, 49 rsu, 50 ofg, 51 ofl, 52 or5, 53 or6, 54 kd4, 55 ovl, 56 ln1, 57 sp1, 58 sp2, 59 sp3, 60 lt2o, 61 len1, 62 ifb, 63 lez, 64 ds0, 65 ds3, 66 ds5, 67 lz0, 68 nov, 69 leoo, 70 outo -/
def fTab : List fFm := [
  ((0, 4), ([], [(0, 0, [(2, 1)], []), (0, 0, [(3, 1)], [])])),
  ((0, 5), ([], [(0, 0, [(2, 1)], []), (0, 0, [(3, 1)], []), (0, 0, [(4, 1)], [])])),
  ((1, 3), ([(0, 1, 0, [], [])], [(0, 0, [(2, (-1))], [(0, 1)])])),
  ((1, 3), ([(0, 1, 0, [], [])], [(0, 0, [(2, 1)], [(0, (-1))])])),
  ((2, 2), ([(0, 1, 0, [], []), (1, 1, 0, [], [])], [(0, 0, [], [(0, (-1))]), ((-2), 0, [], [(0, 1)]), (63, 0, [], [(1, (-1))])])),
  ((2, 2), ([(0, 1, 0, [], []), (1, 1, 0, [], [])], [(0, 0, [], [(0, (-1))]), ((-2), 0, [], [(0, 1)]), ((-1), 0, [], [(1, 1)])])),
  ((2, 3), ([(0, 1, 0, [], []), (1, 1, 0, [], [])], [(0, 0, [(2, 1)], [(0, (-1)), (1, (-1))])])),
  ((1, 2), ([(0, 1, 0, [], [])], [(0, 1, [], [(0, (-1))])])),
  ((1, 2), ([(0, 1, 0, [], [])], [(0, (-1), [], [(0, 1)])])),
  ((1, 2), ([(0, 1, 0, [], []), (0, 1, 1, [], [])], [((-1), 0, [], [(0, (-1)), (1, 1)])])),
  ((1, 4), ([(0, 1, 0, [], [])], [(0, 0, [(2, 1)], [(0, (-1))]), (0, 0, [(3, 1)], [])])),
  ((2, 3), ([(0, 1, 0, [], []), (1, 1, 0, [], [])], [(0, 0, [], [(0, (-1))]), ((-2), 0, [], [(0, 1)]), (63, 0, [], [(1, (-1))]), ((-1), 0, [(2, 1)], [])])),
  ((2, 3), ([(0, 1, 0, [], []), (1, 1, 0, [], [])], [(0, 0, [], [(0, (-1))]), ((-2), 0, [], [(0, 1)]), ((-1), 0, [], [(1, 1)]), ((-1), 0, [(2, 1)], [])])),
  ((0, 6), ([], [(0, 0, [(2, 1)], []), (0, 0, [(3, 1)], []), (0, 0, [(4, 1)], []), (0, 0, [(5, 1)], [])])),
  ((1, 3), ([(0, 1, 0, [], [])], [(0, (-1), [(2, (-1))], [(0, 1)])])),
  ((1, 3), ([(0, 1, 0, [], [])], [(0, 1, [(2, 1)], [(0, (-1))])])),
  ((1, 4), ([(0, 1, 0, [], [])], [(0, 0, [(2, (-1))], [(0, 1)]), (0, 0, [(3, 1)], [])])),
  ((2, 2), ([(0, 1, 0, [], []), (1, 1, 0, [], [])], [(3, 0, [], [(0, (-1))]), ((-5), 0, [], [(0, 1)]), (0, 0, [], [(1, 1)])])),
  ((2, 2), ([(0, 1, 0, [], []), (1, 1, 0, [], [])], [(3, 0, [], [(0, (-1))]), ((-5), 0, [], [(0, 1)]), (300, 0, [], [(1, (-1))])])),
  ((2, 3), ([(0, 1, 0, [], []), (1, 0, 0, [], [(0, 1)])], [((-46), 0, [], [(1, 1)]), (0, 0, [(2, 1)], [])])),
  ((2, 3), ([(0, 1, 0, [], []), (1, 0, 0, [], [(0, 1)])], [(46, 0, [], [(1, (-1))]), (0, 0, [(2, 1)], [])])),
  ((2, 2), ([(0, 1, 0, [], []), (1, 1, 0, [], [])], [(3, 0, [], [(0, (-1))]), ((-5), 0, [], [(0, 1)]), (63, 0, [], [(1, (-1))])])),
  ((1, 3), ([(0, 1, 0, [], [])], [((-1), 0, [(2, (-1))], [(0, 1)]), ((-1), 0, [(2, 1)], [(0, (-1))])])),
  ((1, 4), ([(0, 1, 0, [], [])], [(0, 0, [(2, 1)], [(0, (-1))]), (0, 0, [(3, (-1))], [(0, 1)])])),
  ((1, 4), ([(0, 1, 0, [], [])], [(0, 0, [(2, (-1))], [(0, 8)]), (0, 0, [(3, 1)], [])])),
  ((2, 2), ([(0, 1, 0, [], []), (1, 1, 0, [], [])], [(1, 0, [], [(0, (-1))]), ((-3), 0, [], [(0, 1)]), ((-1), 0, [], [(1, 1)])])),
  ((2, 2), ([(0, 1, 0, [], []), (1, 1, 0, [], [])], [(1, 0, [], [(0, (-1))]), ((-3), 0, [], [(0, 1)]), (4096, 0, [], [(1, (-1))])])),
  ((2, 2), ([(0, 1, 0, [], []), (1, 1, 0, [], [])], [((-1), 0, [], [(0, (-1)), (1, 1)])])),
  ((2, 3), ([(0, 1, 0, [], []), (1, 1, 0, [], [])], [(0, 0, [], [(0, (-1))]), ((-2), 0, [], [(0, 1)]), (0, 0, [(2, 1)], [(1, (-1))])])),
  ((1, 3), ([(0, 1, 0, [], [])], [(0, 0, [(2, 1)], [(0, (-1))])])),
  ((1, 2), ([(0, 1, 0, [], []), (0, 1, 1, [], [])], [(0, 0, [], [(0, (-1)), (1, 1)])])),
  ((2, 2), ([(0, 1, 0, [], []), (1, 1, 0, [], [])], [(0, 0, [], [(0, (-1))]), ((-2), 0, [], [(0, 1)]), (1, 0, [], [(1, 1)])])),
  ((2, 2), ([(0, 1, 0, [], []), (1, 1, 0, [], [])], [(0, 0, [], [(0, (-1))]), ((-2), 0, [], [(0, 1)]), (188, 0, [], [(1, (-1))])])),
  ((1, 4), ([(0, 1, 0, [], [])], [((-1), 0, [(2, (-1))], [(0, 1)]), ((-1), 0, [(2, 1)], [(0, (-1))]), (0, 0, [(3, 1)], [])])),
  ((1, 3), ([(0, 17, 0, [], [])], [(0, 0, [(2, 1)], [(0, (-1))])])),
  ((1, 3), ([(0, 17, 1, [], [])], [(0, 0, [(2, 1)], [(0, (-1))])])),
  ((1, 3), ([(0, 17, 2, [], [])], [(0, 0, [(2, 1)], [(0, (-1))])])),
  ((1, 3), ([(0, 7, 4, [], [])], [(131072, 0, [], [(0, (-1))]), (0, 0, [(2, 1)], [])])),
  ((1, 2), ([(0, 7, 0, [], []), (0, 7, 6, [], [])], [(3, 0, [], [(0, (-1))]), (0, 0, [], [(1, 1)])])),
  ((1, 2), ([(0, 7, 0, [], []), (0, 7, 4, [], [])], [(2, 0, [], [(0, (-1))]), ((-4), 0, [], [(0, 1)]), ((-1), 0, [], [(1, 1)])])),
  ((1, 4), ([(0, 7, 0, [], []), (0, 7, 1, [], []), (0, 7, 5, [], []), (0, 7, 4, [], [])], [((-1), 0, [], [(0, 1)]), ((-3), 0, [], [(1, 1)]), (0, 0, [(2, 1)], [(2, (-1)), (3, (-1))]), (0, 0, [(3, 1)], [])])),
  ((1, 4), ([(0, 7, 0, [], []), (0, 7, 1, [], []), (0, 7, 5, [], []), (0, 7, 4, [], [])], [(2, 0, [], [(0, (-1))]), ((-4), 0, [], [(0, 1)]), ((-3), 0, [], [(1, 1)]), (0, 0, [(2, 1)], [(2, (-1)), (3, (-1))]), (0, 0, [(3, 1)], [])])),
  ((1, 4), ([(0, 7, 0, [], []), (0, 7, 1, [], []), (0, 7, 5, [], []), (0, 7, 4, [], [])], [((-1), 0, [], [(0, 1)]), ((-3), 0, [], [(1, 1)]), (0, 0, [], [(2, 1)]), (0, 0, [(3, 1)], [])])),
  ((1, 4), ([(0, 7, 0, [], []), (0, 7, 1, [], []), (0, 7, 5, [], []), (0, 7, 4, [], [])], [(2, 0, [], [(0, (-1))]), ((-4), 0, [], [(0, 1)]), ((-3), 0, [], [(1, 1)]), (0, 0, [], [(2, 1)]), (0, 0, [(3, 1)], [])])),
  ((1, 3), ([(0, 7, 0, [], []), (0, 7, 4, [], [])], [(3, 0, [], [(0, (-1))]), ((-5), 0, [], [(0, 1)]), ((-5), 0, [], [(1, 1)]), (0, 0, [(2, 1)], [])])),
  ((1, 3), ([(0, 7, 0, [], []), (0, 7, 4, [], []), (0, 7, 5, [], [])], [(3, 0, [], [(0, (-1))]), ((-5), 0, [], [(0, 1)]), ((-6), 0, [], [(1, 1)]), ((-1), 0, [], [(2, (-1))]), (0, 0, [(2, 1)], [])])),
  ((1, 2), ([(0, 7, 0, [], []), (0, 7, 4, [], [])], [(3, 0, [], [(0, (-1))]), ((-2), 0, [], [(1, 1)])])),
  ((2, 3), ([(0, 1, 9, [(2, 17)], []), (1, 1, 0, [], [])], [(0, 0, [], [(0, 1), (1, (-1))])])),
  ((2, 4), ([(0, 1, 5, [(2, 17)], []), (1, 1, 0, [], [])], [(0, 0, [(3, 1)], [(0, (-1)), (1, (-1))])])),
  ((1, 4), ([(0, 1, 5, [(2, 17)], []), (0, 1, 9, [(2, 17)], [])], [(0, 0, [(3, 1)], [(0, (-1)), (1, (-1))]), ((-3), 1, [], [])])),
  ((1, 3), ([(0, 6, 0, [], [])], [(0, 0, [(2, (-1))], [(0, 1)])])),
  ((1, 4), ([(0, 6, 0, [], [])], [((-1), 0, [(2, 1)], [(0, (-1))]), (0, 0, [(3, 1)], [])])),
  ((0, 7), ([], [(0, 0, [(2, 1)], []), (0, 0, [(3, 1)], []), (0, 0, [(4, 1)], []), (0, 0, [(5, 1)], []), (0, 0, [(6, 1)], [])])),
  ((0, 8), ([], [(0, 0, [(2, 1)], []), (0, 0, [(3, 1)], []), (0, 0, [(4, 1)], []), (0, 0, [(5, 1)], []), (0, 0, [(6, 1)], []), (0, 0, [(7, 1)], [])])),
  ((1, 2), ([(0, 7, 0, [], [])], [(4, 0, [], [(0, (-1))])])),
  ((1, 2), ([(0, 7, 3, [], []), (0, 7, 4, [], [])], [(65536, 0, [], [(0, (-1)), (1, (-1))])])),
  ((1, 2), ([(0, 7, 2, [], [])], [((-1), 0, [], [(0, 1)])])),
  ((1, 2), ([(0, 6, 5, [], []), (0, 6, 4, [], [])], [((-1), 0, [], [(0, (-1))]), ((-2), 0, [], [(1, (-1))]), (0, 0, [], [(1, 1)])])),
  ((1, 2), ([(0, 6, 5, [], []), (0, 6, 4, [], [])], [(1, 0, [], [(0, 1)]), ((-2), 0, [], [(1, (-1))]), (0, 0, [], [(1, 1)])])),
  ((1, 2), ([(0, 6, 5, [], [])], [((-1), 0, [], [(0, (-1))]), (0, 0, [], [(0, 1)])])),
  ((2, 3), ([(0, 1, 0, [], []), (1, 1, 0, [], [])], [((-1), 0, [], [(0, (-1)), (1, 1)]), (0, 0, [(2, 1)], [])])),
  ((1, 2), ([(0, 7, 0, [], []), (0, 7, 4, [], [])], [(2, 0, [], [(0, (-1))]), ((-1), 0, [], [(1, 1)])])),
  ((1, 2), ([(0, 1, 0, [], [])], [(20, (-1), [], [(0, (-1))])])),
  ((1, 3), ([(0, 1, 0, [], [])], [(0, 0, [], [(0, (-1))]), (0, 0, [(2, 1)], [(0, (-1))])])),
  ((3, 3), ([(0, 1, 0, [], []), (1, 1, 0, [], []), (2, 1, 0, [], [])], [((-1), 0, [], [(0, 1)]), (0, 0, [(2, 1)], [(1, (-1)), (2, (-1))])])),
  ((3, 3), ([(0, 1, 0, [], []), (1, 1, 0, [], []), (2, 1, 0, [], [])], [(2, 0, [], [(0, (-1))]), ((-4), 0, [], [(0, 1)]), (0, 0, [(2, 1)], [(1, (-1)), (2, (-1))])])),
  ((3, 3), ([(0, 1, 0, [], []), (1, 1, 0, [], []), (2, 1, 0, [], [])], [(4, 0, [], [(0, (-1))]), (0, 0, [(2, 1)], [(1, (-1)), (2, (-1))])])),
  ((2, 2), ([(0, 1, 0, [], []), (1, 1, 0, [], [])], [(4, 0, [], [(0, (-1))]), (0, 0, [], [(1, (-1))])])),
  ((3, 3), ([(0, 1, 0, [], []), (1, 1, 0, [], []), (2, 1, 0, [], [])], [((-5), 0, [], [(0, 1)]), (65536, 0, [], [(1, (-1)), (2, (-1))]), ((-1), 0, [(2, 1)], [])])),
  ((1, 5), ([(0, 1, 0, [], [])], [(0, 0, [(2, 1)], [(0, (-1))]), (0, 0, [(3, 1)], []), (0, 0, [(4, 1)], [])])),
  ((1, 5), ([(0, 1, 0, [], [])], [(0, 0, [(2, 1)], [(0, (-1))]), (0, 0, [(3, (-1))], [(0, 1)]), (0, 0, [(4, 1)], [])]))]
/-- what else may be said: 1000 isLet, 1001 isDig, 1002 isNam, 1003 arrLet, 1004 arrNam, 1005 sgn, 1006 una, 1007 valT, 1008 bin, 1009 runT, 1010 exprT, 1011 chr, 1012 expr, 1013 ev, 1014 lf, 1015 ncl, 1016 ex, 1017 wrJ, 1018 wrI, 1019 bJ0, 1020 bJ1, 1021 bJ3, 1022 bI0, 1023 det_pass, 1024 det_partEnd, 1025 det_passAddress, 1026 det_wordOf, 1027 det_registerOf, 1028 det_isValue, 1029 det_sizeWord, 1030 det_find, 1031 det_isName, 1032 det_isSign, 1033 det_isNamedAs, 1034 cst, 1035 nst, 1036 wk, 1037 tls, 1038 tk3, 1039 txt, 1040 tle, 1041 rs, 1042 rl, 1043 pe2, 1044 acc, 1045 chn, 1046 kv_m_wordCode, 1047 kv_m_registerCode, 1048 kv_m_rowNumber, 1049 kv_m_rowPattern, 1050 paw, 1051 pam, 1052 paf, 1053 pad, 1054 vsc, 1055 rp, 1056 rpz, 1057 pms, 1058 exz, 1059 regc, 1060 pmo, 1061 opq, 1062 sk, 1063 oo, 1064 opx, 1065 opp, 1066 opy, 1067 ooy, 1068 allf, 1069 bI1, 1070 bI3, 1071 shx, 1072 shp, 1073 szp, 1074 szv, 1075 szx, 1076 wcd, 1077 bI8, 1078 nz3, 1079 top, 1080 nor, 1081 tif, 1082 det_inName, 1083 inn, 1084 opn, 1085 sh8, 1086 m6, 1087 tab, 1088 us, 1089 pw2, 1090 algn, 1091 fits, 1092 stu, 1093 curS, 1094 wlk, 1095 wau, 1096 curL, 1097 wlc, 1098 jcn, 1099 nsh, 1100 rsz, 1101 alk, 1102 jca, 1103 jwo, 1104 jwa, 1105 shq, 1106 plc, 1107 bI6, 1108 bI7, 1109 kna, 1110 kwi, 1111 nft, 1112 rwn, 1113 wpl, 1114 eo, 1115 eoe -/
def cLet (n : Int) : Prop := n = 46 ∨ (65 ≤ n ∧ n ≤ 90) ∨ n = 95 ∨ (97 ≤ n ∧ n ≤ 122)
def cDig (n : Int) : Prop := 48 ≤ n ∧ n ≤ 57
def cPQ (p : Nat) (fs : List (Int → Int)) (zs : List Int) : Prop := match p with
  | 1000 => (cLet (fZ zs 0) ∧ fZ zs 1 = 1) ∨ (¬ cLet (fZ zs 0) ∧ fZ zs 1 = 0)
  | 1001 => (cDig (fZ zs 0) ∧ fZ zs 1 = 1) ∨ (¬ cDig (fZ zs 0) ∧ fZ zs 1 = 0)
  | 1002 => ((cLet (fZ zs 0) ∨ cDig (fZ zs 0)) ∧ fZ zs 1 = 1) ∨ (¬ (cLet (fZ zs 0) ∨ cDig (fZ zs 0)) ∧ fZ zs 1 = 0)
  | 1003 => cLet (fF fs 0 (fZ zs 0))
  | 1004 => cLet (fF fs 0 (fZ zs 0)) ∨ cDig (fF fs 0 (fZ zs 0))
  | 1005 => fF fs 0 (fZ zs 0) = 4 ∧ fF fs 1 (fZ zs 0) = fZ zs 1
  | 1006 => fF fs 0 (fZ zs 0) = 4 ∧ 1 ≤ fF fs 1 (fZ zs 0) ∧ fF fs 1 (fZ zs 0) ≤ 999 ∧ fF fs 1 (fZ zs 0) ≠ 36 ∧ fF fs 1 (fZ zs 0) ≠ 40
  | 1007 => fF fs 0 (fZ zs 0) = 1 ∨ fF fs 0 (fZ zs 0) = 2 ∨ (fF fs 0 (fZ zs 0) = 4 ∧ fF fs 1 (fZ zs 0) = 36)
  | 1008 => 1 ≤ fZ zs 0 ∧ fZ zs 0 ≤ 999 ∧ fZ zs 0 ≠ 40 ∧ fZ zs 0 ≠ 41
  | 1009 => RunT (fF fs 0) (fF fs 1) (fZ zs 0) (fZ zs 1) (fZ zs 2) (fZ zs 3)
  | 1010 => RunT (fF fs 0) (fF fs 1) (fZ zs 0) (fZ zs 1) 0 0
  | 1011 => fZ zs 1 = cChr (fF fs 0) (fF fs 1) (fF fs 2) (fZ zs 0)
  | 1012 => RunP (fF fs 0) (fF fs 1) (fF fs 2) (fZ zs 0) 0 0
  | 1013 => EvS (fF fs 0) (fF fs 1) (fF fs 2) (fF fs 3) (fZ zs 0) (fZ zs 1) (fZ zs 2) (fZ zs 3) (fZ zs 4)
  | 1014 => fZ zs 1 ≤ 0 ∨ fZ zs 0 = 0 ∨ fZ zs 0 = 36
  | 1015 => fZ zs 0 ≠ 41
  | 1086 => cM6 (fZ zs 0)
  | 1087 => cTab (fF fs 0) (fZ zs 0)
  | 1088 => cUs (fZ zs 0) (fZ zs 1)
  | 1089 => cPw2 (fZ zs 0)
  | 1090 => cAlgn (fF fs 0) (fZ zs 0) (fZ zs 1)
  | 1091 => cFits (fF fs 0) (fF fs 1) (fZ zs 0) (fZ zs 1)
  | 1092 => cStu (fF fs 0) (fF fs 1) (fZ zs 0) (fZ zs 1)
  | 1093 => cCurS (fF fs 0) (fF fs 1) (fZ zs 0) (fZ zs 1) (fZ zs 2)
  | 1094 => cWlk (fF fs 0) (fF fs 1) (fZ zs 0) (fZ zs 1)
  | 1095 => cWau (fF fs 0) (fF fs 1) (fZ zs 0) (fZ zs 1) (fZ zs 2)
  | 1096 => cCurL (fF fs 0) (fF fs 1) (fZ zs 0) (fZ zs 1) (fZ zs 2) (fZ zs 3) (fZ zs 4)
  | 1097 => cWlc (fF fs 0) (fF fs 1) (fZ zs 0) (fZ zs 1)
  | 1098 => cJcn (fF fs 0) (fZ zs 0) (fZ zs 1) (fZ zs 2) (fZ zs 3)
  | 1099 => cNsh (fF fs 0) (fZ zs 0) (fZ zs 1) (fZ zs 2)
  | 1100 => cRsz (fF fs 0) (fZ zs 0)
  | 1101 => cAlk (fZ zs 0) (fZ zs 1)
  | 1102 => cJca (fF fs 0) (fZ zs 0) (fZ zs 1) (fZ zs 2) (fZ zs 3) (fZ zs 4)
  | 1103 => cJwo (fF fs 0) (fF fs 1) (fZ zs 0) (fZ zs 1) (fZ zs 2) (fZ zs 3)
  | 1104 => cJwa (fF fs 1) (fZ zs 0) (fZ zs 1) (fZ zs 2) (fZ zs 3)
  | 1105 => cShq (fF fs 0) (fF fs 1) (fZ zs 0) (fZ zs 1)
  | 1106 => cPlc (fF fs 0) (fF fs 1) (fF fs 2) (fZ zs 0) (fZ zs 1) (fZ zs 2) (fZ zs 3)
  | 1109 => cKna (fZ zs 0) (fZ zs 1)
  | 1110 => cKwi (fZ zs 0) (fZ zs 1)
  | 1111 => cNft (fZ zs 0) (fZ zs 1)
  | 1112 => cRwn (fF fs 0) (fZ zs 0) (fZ zs 1)
  | 1113 => cWpl (fF fs 0) (fZ zs 0)
  | 1114 => cEo (fF fs 0) (fF fs 1) (fZ zs 0) (fZ zs 1)
  | 1115 => cEoe (fF fs 0) (fF fs 1) (fZ zs 0) (fZ zs 1) (fZ zs 2)
  | 1132 => eItm (fF fs 0) (fZ zs 0) (fZ zs 1)
  | 1133 => eOkp (fF fs 0) (fZ zs 0) (fZ zs 1)
  | 1134 => eNrw (fF fs 0) (fF fs 1) (fZ zs 0) (fZ zs 1)
  | 1135 => eSpk (fF fs 0) (fF fs 1) (fF fs 2) (fZ zs 0) (fZ zs 1)
  | 1150 => eWai (fF fs 0) (fZ zs 0) (fZ zs 1)
  | 1151 => eNdd (fF fs 0) (fF fs 1) (fZ zs 0) (fZ zs 1)
  | 1154 => eIsn (fF fs 0) (fF fs 1) (fF fs 2) (fF fs 3) (fZ zs 0) (fZ zs 1) (fZ zs 2)
  | 1143 => eIa (fF fs 0) (fF fs 1) (fF fs 2) (fZ zs 0) (fZ zs 1) (fZ zs 2)
  | 1152 => eWul (fF fs 0) (fZ zs 0) (fZ zs 1)
  | 1144 => eWu (fF fs 0) (fZ zs 0) (fZ zs 1)
  | 1146 => eBs (fF fs 0) (fZ zs 0) (fZ zs 1) (fZ zs 2) (fZ zs 3)
  | 1145 => eAtx (fF fs 0) (fZ zs 0) (fZ zs 1) (fZ zs 2)
  | 1155 => eBfo (fZ zs 0) (fZ zs 1) (fZ zs 2)
  | 1156 => eHfo (fZ zs 0) (fZ zs 1)
  | 1157 => ePfo (fZ zs 0) (fZ zs 1)
  | 1160 => eHob (fZ zs 0) (fZ zs 1) (fZ zs 2) (fZ zs 3) (fZ zs 4)
  | 1158 => eSum (fF fs 0) (fF fs 1) (fZ zs 0) (fZ zs 1) (fZ zs 2) (fZ zs 3)
  | 1159 => eSuv (fF fs 0) (fF fs 1) (fZ zs 0) (fZ zs 1) (fZ zs 2) (fZ zs 3) (fZ zs 4) (fZ zs 5) (fZ zs 6)
  | 1167 => eKx (fF fs 0) (fZ zs 0) (fZ zs 1)
  | 1163 => eNm0 (fF fs 0) (fZ zs 0) (fZ zs 1) (fZ zs 2)
  | 1161 => eNmf (fF fs 0) (fF fs 1) (fZ zs 0) (fZ zs 1) (fZ zs 2) (fZ zs 3)
  | 1162 => eNvl (fF fs 0) (fF fs 1) (fZ zs 0) (fZ zs 1) (fZ zs 2) (fZ zs 3) (fZ zs 4) (fZ zs 5) (fZ zs 6)
  | 1164 => eMdz (fF fs 0) (fZ zs 0) (fZ zs 1) (fZ zs 2) (fZ zs 3)
  | 1165 => eVx (fF fs 0) (fZ zs 0) (fZ zs 1) (fZ zs 2)
  | 1166 => eMvn (fZ zs 0) (fZ zs 1) (fZ zs 2)
  | 1120 => eLcn (fF fs 0) (fZ zs 0) (fZ zs 1)
  | 1121 => eCsn (fF fs 0) (fZ zs 0) (fZ zs 1)
  | 1124 => ePlx (fF fs 0) (fF fs 1) (fF fs 2) (fZ zs 0) (fZ zs 1)
  | 1123 => eTkp (fF fs 0) (fF fs 1) (fF fs 2) (fF fs 3) (fF fs 4) (fF fs 5) (fF fs 6) (fZ zs 0) (fZ zs 1) (fZ zs 2) (fZ zs 3)
  | 1122 => eTkn (fF fs 0) (fF fs 1) (fF fs 2) (fF fs 3) (fF fs 4) (fF fs 5) (fF fs 6) (fZ zs 0) (fZ zs 1) (fZ zs 2) (fZ zs 3)
  | 1126 => eCap (fF fs 0) (fF fs 1) (fF fs 2) (fF fs 3) (fZ zs 0) (fZ zs 1) (fZ zs 2) (fZ zs 3)
  | 1125 => eCal (fF fs 0) (fF fs 1) (fF fs 2) (fF fs 3) (fZ zs 0) (fZ zs 1) (fZ zs 2)
  | 1128 => eSnp (fF fs 0) (fF fs 1) (fF fs 2) (fF fs 3) (fF fs 4) (fZ zs 0) (fZ zs 1) (fZ zs 2)
  | 1127 => eSn (fF fs 0) (fF fs 1) (fF fs 2) (fF fs 3) (fF fs 4) (fZ zs 0) (fZ zs 1) (fZ zs 2) (fZ zs 3)
  | 1129 => eFre (fF fs 0) (fF fs 1) (fF fs 2) (fF fs 3) (fF fs 4) (fF fs 5) (fZ zs 0) (fZ zs 1) (fZ zs 2) (fZ zs 3)
  | 1130 => eFr2 (fF fs 0) (fF fs 1) (fF fs 2) (fF fs 3) (fF fs 4) (fF fs 5) (fF fs 6) (fF fs 7) (fZ zs 0) (fZ zs 1) (fZ zs 2) (fZ zs 3)
  | 1131 => eCnd (fF fs 0) (fF fs 1) (fF fs 2) (fF fs 3) (fF fs 4) (fF fs 5) (fF fs 6) (fZ zs 0) (fZ zs 1) (fZ zs 2) (fZ zs 3)
  | 1119 => eSpc (fF fs 0) (fF fs 1) (fF fs 2) (fF fs 3) (fZ zs 0) (fZ zs 1) (fZ zs 2) (fZ zs 3)
  | 1141 => ePlm (fF fs 0) (fF fs 1) (fF fs 2) (fZ zs 0) (fZ zs 1) (fZ zs 2) (fZ zs 3)
  | 1142 => eOd (fF fs 0) (fF fs 1) (fF fs 2) (fZ zs 0) (fZ zs 1) (fZ zs 2) (fZ zs 3)
  | 1149 => eOdf (fF fs 0) (fF fs 1) (fF fs 2) (fZ zs 0)
  | 1117 => eCur (fF fs 0) (fF fs 1) (fF fs 2) (fF fs 3) (fF fs 4) (fZ zs 0) (fZ zs 1) (fZ zs 2) (fZ zs 3) (fZ zs 4) (fZ zs 5)
  | 1118 => eRdy (fF fs 0) (fF fs 1) (fF fs 2) (fZ zs 0) (fZ zs 1) (fZ zs 2) (fZ zs 3) (fZ zs 4) (fZ zs 5) (fZ zs 6) (fZ zs 7) (fZ zs 8)
  | 1136 => eSh1 (fF fs 0) (fF fs 1) (fF fs 2) (fF fs 3) (fF fs 4) (fF fs 5) (fF fs 6) (fZ zs 0) (fZ zs 1) (fZ zs 2) (fZ zs 3)
  | 1137 => eSh3 (fF fs 0) (fF fs 1) (fF fs 2) (fF fs 3) (fF fs 4) (fF fs 5) (fF fs 6) (fF fs 7) (fZ zs 0) (fZ zs 1) (fZ zs 2) (fZ zs 3) (fZ zs 4)
  | 1138 => eFin (fF fs 0) (fF fs 1) (fF fs 2) (fF fs 3) (fF fs 4) (fF fs 5) (fF fs 6) (fF fs 7) (fZ zs 0) (fZ zs 1) (fZ zs 2) (fZ zs 3) (fZ zs 4)
  | 1116 => eCmt (fF fs 0) (fF fs 1) (fF fs 2) (fF fs 3) (fF fs 4) (fF fs 5) (fF fs 6) (fF fs 7) (fF fs 8) (fF fs 9) (fF fs 10) (fF fs 11) (fF fs 12) (fF fs 13) (fZ zs 0) (fZ zs 1) (fZ zs 2) (fZ zs 3)
  | 1139 => eLayp (fF fs 0) (fF fs 1) (fF fs 2) (fF fs 3) (fZ zs 0) (fZ zs 1) (fZ zs 2) (fZ zs 3) (fZ zs 4) (fZ zs 5)
  | 1140 => eLay (fF fs 0) (fF fs 1) (fF fs 2) (fF fs 3) (fF fs 4) (fZ zs 0) (fZ zs 1) (fZ zs 2) (fZ zs 3)
  | 1023 => dEv 1023 [(fF fs 0), (fF fs 1)] [(fZ zs 0), (fZ zs 1), (fZ zs 2)] = some (fZ zs 3)
  | 1024 => dEv 1024 [(fF fs 0), (fF fs 1)] [(fZ zs 0), (fZ zs 1), (fZ zs 2)] = some (fZ zs 3)
  | 1025 => dEv 1025 [(fF fs 0), (fF fs 1)] [(fZ zs 0), (fZ zs 1)] = some (fZ zs 2)
  | 1028 => dEv 1028 [(fF fs 0), (fF fs 1)] [(fZ zs 0), (fZ zs 1)] = some (fZ zs 2)
  | 1031 => dEv 1031 [(fF fs 0)] [(fZ zs 0), (fZ zs 1)] = some (fZ zs 2)
  | 1032 => dEv 1032 [(fF fs 0), (fF fs 1)] [(fZ zs 0), (fZ zs 1), (fZ zs 2)] = some (fZ zs 3)
  | 1033 => dEv 1033 [(fF fs 0), (fF fs 1)] [(fZ zs 0), (fZ zs 1), (fZ zs 2)] = some (fZ zs 3)
  | 1026 => dEv 1026 [] [(fZ zs 0)] = some (fZ zs 1)
  | 1027 => dEv 1027 [] [(fZ zs 0)] = some (fZ zs 1)
  | 1029 => dEv 1029 [] [(fZ zs 0), (fZ zs 1), (fZ zs 2), (fZ zs 3)] = some (fZ zs 4)
  | 1030 => dEv 1030 [] [(fZ zs 0), (fZ zs 1), (fZ zs 2), (fZ zs 3), (fZ zs 4), (fZ zs 5), (fZ zs 6), (fZ zs 7), (fZ zs 8), (fZ zs 9)] = some (fZ zs 10)
  | 1082 => dEv 1082 [] [(fZ zs 0)] = some (fZ zs 1)
  | 1168 => dEv 1168 [(fF fs 0), (fF fs 1)] [(fZ zs 0), (fZ zs 1)] = some (fZ zs 2)
  | 1169 => dEv 1169 [] [(fZ zs 0)] = some (fZ zs 1)
  | 1170 => dEv 1170 [] [(fZ zs 0)] = some (fZ zs 1)
  | 1171 => dEv 1171 [] [(fZ zs 0)] = some (fZ zs 1)
  | 1016 => eEx (fF fs 0) (fZ zs 0) (fZ zs 1) (fZ zs 2)
  | 1034 => eCst (fF fs 0) (fZ zs 0) (fZ zs 1) (fZ zs 2) (fZ zs 3)
  | 1035 => eNst (fF fs 0) (fZ zs 0) (fZ zs 1) (fZ zs 2)
  | 1036 => eWk (fF fs 0) (fZ zs 0) (fZ zs 1) (fZ zs 2) (fZ zs 3)
  | 1038 => eTk3 (fF fs 0) (fZ zs 0) (fZ zs 1) (fZ zs 2) (fZ zs 3)
  | 1039 => eTxt (fF fs 0) (fF fs 1) (fF fs 2) (fF fs 3) (fZ zs 0) (fZ zs 1)
  | 1037 => eTls (fF fs 0) (fF fs 1) (fZ zs 0) (fZ zs 1) (fZ zs 2) (fZ zs 3)
  | 1040 => eTle (fF fs 0) (fF fs 1) (fF fs 2) (fZ zs 0) (fZ zs 1) (fZ zs 2)
  | 1041 => eRs (fF fs 0) (fF fs 1) (fZ zs 0) (fZ zs 1)
  | 1042 => eRl (fF fs 0) (fF fs 1) (fZ zs 0) (fZ zs 1) (fZ zs 2)
  | 1043 => ePe2 (fF fs 0) (fF fs 1) (fZ zs 0) (fZ zs 1) (fZ zs 2)
  | 1045 => eChn (fF fs 0) (fF fs 1) (fZ zs 0) (fZ zs 1) (fZ zs 2) (fZ zs 3)
  | 1044 => eAcc (fF fs 0) (fF fs 1) (fF fs 2) (fF fs 3) (fF fs 4) (fZ zs 0) (fZ zs 1) (fZ zs 2) (fZ zs 3) (fZ zs 4) (fZ zs 5)
  | 1050 => ePaw (fF fs 0) (fF fs 1) (fZ zs 0) (fZ zs 1) (fZ zs 2) (fZ zs 3)
  | 1051 => ePam (fF fs 0) (fF fs 1) (fZ zs 0) (fZ zs 1) (fZ zs 2) (fZ zs 3)
  | 1052 => ePaf (fF fs 0) (fF fs 1) (fZ zs 0) (fZ zs 1) (fZ zs 2) (fZ zs 3)
  | 1053 => ePad (fF fs 0) (fF fs 1) (fZ zs 0) (fZ zs 1) (fZ zs 2) (fZ zs 3)
  | 1054 => eVsc (fF fs 0) (fZ zs 0)
  | 1057 => ePms (fZ zs 0)
  | 1058 => eExz (fF fs 0) (fF fs 1) (fZ zs 0) (fZ zs 1) (fZ zs 2)
  | 1055 => eRp (fF fs 0) (fF fs 1) (fF fs 2) (fZ zs 0) (fZ zs 1)
  | 1056 => eRpz (fF fs 0) (fF fs 1) (fF fs 2) (fZ zs 0)
  | 1060 => ePmo (fZ zs 0) (fZ zs 1) (fZ zs 2)
  | 1061 => eOpq (fF fs 0) (fF fs 1) (fF fs 2) (fF fs 3) (fF fs 4) (fZ zs 0) (fZ zs 1) (fZ zs 2)
  | 1062 => eSk (fF fs 0) (fF fs 1) (fZ zs 0) (fZ zs 1) (fZ zs 2)
  | 1063 => eOo (fF fs 0) (fF fs 1) (fZ zs 0) (fZ zs 1) (fZ zs 2) (fZ zs 3)
  | 1064 => eOpx (fF fs 0) (fF fs 1) (fF fs 2) (fZ zs 0) (fZ zs 1) (fZ zs 2) (fZ zs 3)
  | 1065 => eOpp (fF fs 0) (fF fs 1) (fF fs 2) (fF fs 3) (fZ zs 0) (fZ zs 1) (fZ zs 2) (fZ zs 3)
  | 1066 => eOpy (fF fs 0) (fF fs 1) (fF fs 2) (fF fs 3) (fZ zs 0) (fZ zs 1) (fZ zs 2) (fZ zs 3)
  | 1067 => eOoy (fF fs 0) (fF fs 1) (fF fs 2) (fZ zs 0) (fZ zs 1) (fZ zs 2) (fZ zs 3)
  | 1074 => eSzv (fZ zs 0)
  | 1072 => eShp (fZ zs 0)
  | 1071 => eShx (fF fs 0) (fZ zs 0) (fZ zs 1)
  | 1073 => eSzp (fZ zs 0)
  | 1075 => eSzx (fF fs 0) (fZ zs 0) (fZ zs 1)
  | 1076 => eWcd (fZ zs 0)
  | 1059 => eRegc (fZ zs 0)
  | 1078 => eNz3 (fZ zs 0) (fZ zs 1) (fZ zs 2)
  | 1068 => eAllf (fZ zs 0) (fZ zs 1) (fZ zs 2) (fZ zs 3) (fZ zs 4) (fZ zs 5) (fZ zs 6) (fZ zs 7) (fZ zs 8) (fZ zs 9) (fZ zs 10) (fZ zs 11)
  | 1017 => (fZ zs 1) = (Int64.ofInt (fZ zs 0)).toInt
  | 1018 => (fZ zs 1) = (Int32.ofInt (fZ zs 0)).toInt
  | 1046 => (fZ zs 0) ∈ kvWc
  | 1047 => (fZ zs 0) ∈ kvRc
  | 1022 => (in32 (fZ zs 0) ∧ in32 (fZ zs 1)) ∧ (fZ zs 2) = fI 0 (fZ zs 0) (fZ zs 1)
  | 1069 => (in32 (fZ zs 0) ∧ in32 (fZ zs 1)) ∧ (fZ zs 2) = fI 1 (fZ zs 0) (fZ zs 1)
  | 1070 => (in32 (fZ zs 0) ∧ in32 (fZ zs 1)) ∧ (fZ zs 2) = fI 3 (fZ zs 0) (fZ zs 1)
  | 1107 => (in32 (fZ zs 0) ∧ in32 (fZ zs 1)) ∧ (fZ zs 2) = fI 6 (fZ zs 0) (fZ zs 1)
  | 1108 => (in32 (fZ zs 0) ∧ in32 (fZ zs 1)) ∧ (fZ zs 2) = fI 7 (fZ zs 0) (fZ zs 1)
  | 1077 => (in32 (fZ zs 0) ∧ in32 (fZ zs 1)) ∧ (fZ zs 2) = fI 8 (fZ zs 0) (fZ zs 1)
  | 1019 => (in64 (fZ zs 0) ∧ in64 (fZ zs 1)) ∧ (fZ zs 2) = fJ 0 (fZ zs 0) (fZ zs 1)
  | 1020 => (in64 (fZ zs 0) ∧ in64 (fZ zs 1)) ∧ (fZ zs 2) = fJ 1 (fZ zs 0) (fZ zs 1)
  | 1021 => (in64 (fZ zs 0) ∧ in64 (fZ zs 1)) ∧ (fZ zs 2) = fJ 3 (fZ zs 0) (fZ zs 1)
  | 1079 => eTopz (fF fs 0) (fF fs 1) (fF fs 2) (fZ zs 0) (fZ zs 1) (fZ zs 2)
  | 1080 => eNor (fF fs 0) (fZ zs 0) (fZ zs 1) (fZ zs 2)
  | 1081 => eTif (fF fs 0) (fZ zs 0) (fZ zs 1) (fZ zs 2)
  | 1083 => eInn (fF fs 0) (fZ zs 0)
  | 1084 => eOpn (fF fs 0) (fZ zs 0) (fZ zs 1)
  | 1085 => eSh8 (fZ zs 0) (fZ zs 1) (fZ zs 2)
  | 1147 => eImc (fF fs 0) (fF fs 1) (fF fs 2) (fF fs 3) (fF fs 4) (fF fs 5) (fF fs 6) (fZ zs 0) (fZ zs 1) (fZ zs 2)
  | 1153 => eImu (fF fs 0) (fF fs 1) (fF fs 2) (fF fs 3) (fF fs 4) (fF fs 5) (fF fs 6) (fZ zs 0) (fZ zs 1) (fZ zs 2)
  | 1172 => ∀ x : Int, (fZ zs 0) ≤ x → x < (fZ zs 1) → (fF fs 0) x ∈ kvWc
  | 1173 => ∀ x : Int, (fZ zs 0) ≤ x → x < (fZ zs 1) → (fF fs 0) x ∈ kvRc
  | 1174 => ∀ x : Int, (fZ zs 0) ≤ x → x < (fZ zs 1) → cM6 ((fF fs 0) x)
  | 1175 => ∀ x : Int, (fZ zs 0) ≤ x → x < (fZ zs 1) → cKna x ((fF fs 0) x)
  | 1176 => ∀ x : Int, (fZ zs 0) ≤ x → x < (fZ zs 1) → cKwi x ((fF fs 0) x)
  | 1178 => eMc (fF fs 0) (fZ zs 0) (fZ zs 1) (fZ zs 2) (fZ zs 3)
  | 1179 => eMb (fF fs 0) (fF fs 1) (fZ zs 0) (fZ zs 1) (fZ zs 2)
  | 1177 => dEv 1177 [(fF fs 0), (fF fs 1), (fF fs 2)] [(fZ zs 0)] = some (fZ zs 1)
  | 1180 => eIsp (fF fs 0) (fZ zs 0) (fZ zs 1) (fZ zs 2)
  | 1181 => eFst (fF fs 0) (fZ zs 0) (fZ zs 1) (fZ zs 2)
  | 1182 => eAeq (fF fs 0) (fF fs 1) (fZ zs 0)
  | 1183 => eSpl (fF fs 0) (fF fs 1) (fZ zs 0) (fZ zs 1) (fZ zs 2) (fZ zs 3) (fZ zs 4)
  | _ => fs = fs ∧ zs = zs
