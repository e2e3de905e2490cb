/-! WHAT IS SAID OF ARRAYS: formulas of one bound place. A read: array, coefficient of the place, constant, coefficients of numbers, of earlier reads; a sentence: constant, coefficient of the place, of numbers, of reads; one sentence of a formula holds wherever number 0 is at most the place, which is less than number 1 -/
abbrev fTm : Type := List (Nat × Int)
abbrev fRd : Type := Nat × (Int × (Int × (fTm × fTm)))
abbrev fLt : Type := Int × (Int × (fTm × fTm))
abbrev fFm : Type := (Nat × Nat) × (List fRd × List fLt)
def fZ (zs : List Int) (i : Nat) : Int := (zs[i]?).getD 0
def fF (fs : List (Int → Int)) (i : Nat) : Int → Int := (fs[i]?).getD (fun _ => 0)
def fS (zs : List Int) : fTm → Int
  | [] => 0
  | x :: l => x.2 * fZ zs x.1 + fS zs l
def fIx (j : Int) (zs xs : List Int) (r : fRd) : Int := r.2.2.1 + r.2.1 * j + fS zs r.2.2.2.1 + fS xs r.2.2.2.2
def fXs (fs : List (Int → Int)) (zs : List Int) (j : Int) : List fRd → List Int → List Int
  | [], xs => xs
  | r :: rs, xs => fXs fs zs j rs (xs ++ [fF fs r.1 (fIx j zs xs r)])
def fLv (j : Int) (zs xs : List Int) (l : fLt) : Int := l.1 + l.2.1 * j + fS zs l.2.2.1 + fS xs l.2.2.2
def fAt (φ : fFm) (fs : List (Int → Int)) (zs : List Int) (j : Int) : Prop := ∃ l ∈ φ.2.2, 0 ≤ fLv j zs (fXs fs zs j φ.2.1 []) l
def fOk (φ : fFm) (fs : List (Int → Int)) (zs : List Int) : Prop := ∀ j : Int, fZ zs 0 ≤ j → j < fZ zs 1 → fAt φ fs zs j
/-- the formulas: 0 or2, 1 or3, 2 ge, 3 le, 4 name63, 5 name1, 6 sum_le, 7 idx_le, 8 ge_idx, 9 rise, 10 le_or, 11 name63b, 12 name1b, 13 or4, 14 ge_off, 15 le_off, 16 ge_or, 17 sgn_lo, 18 sgn_hi, 19 dot_lo, 20 dot_hi, 21 sgn63 -/
def fTab : List fFm := [
  ((0, 4), ([], [(0, 0, [(2, 1)], []), (0, 0, [(3, 1)], [])])),
  ((0, 5), ([], [(0, 0, [(2, 1)], []), (0, 0, [(3, 1)], []), (0, 0, [(4, 1)], [])])),
  ((1, 3), ([(0, 1, 0, [], [])], [(0, 0, [(2, (-1))], [(0, 1)])])),
  ((1, 3), ([(0, 1, 0, [], [])], [(0, 0, [(2, 1)], [(0, (-1))])])),
  ((2, 2), ([(0, 1, 0, [], []), (1, 1, 0, [], [])], [(0, 0, [], [(0, (-1))]), ((-2), 0, [], [(0, 1)]), (63, 0, [], [(1, (-1))])])),
  ((2, 2), ([(0, 1, 0, [], []), (1, 1, 0, [], [])], [(0, 0, [], [(0, (-1))]), ((-2), 0, [], [(0, 1)]), ((-1), 0, [], [(1, 1)])])),
  ((2, 3), ([(0, 1, 0, [], []), (1, 1, 0, [], [])], [(0, 0, [(2, 1)], [(0, (-1)), (1, (-1))])])),
  ((1, 2), ([(0, 1, 0, [], [])], [(0, 1, [], [(0, (-1))])])),
  ((1, 2), ([(0, 1, 0, [], [])], [(0, (-1), [], [(0, 1)])])),
  ((1, 2), ([(0, 1, 0, [], []), (0, 1, 1, [], [])], [((-1), 0, [], [(0, (-1)), (1, 1)])])),
  ((1, 4), ([(0, 1, 0, [], [])], [(0, 0, [(2, 1)], [(0, (-1))]), (0, 0, [(3, 1)], [])])),
  ((2, 3), ([(0, 1, 0, [], []), (1, 1, 0, [], [])], [(0, 0, [], [(0, (-1))]), ((-2), 0, [], [(0, 1)]), (63, 0, [], [(1, (-1))]), ((-1), 0, [(2, 1)], [])])),
  ((2, 3), ([(0, 1, 0, [], []), (1, 1, 0, [], [])], [(0, 0, [], [(0, (-1))]), ((-2), 0, [], [(0, 1)]), ((-1), 0, [], [(1, 1)]), ((-1), 0, [(2, 1)], [])])),
  ((0, 6), ([], [(0, 0, [(2, 1)], []), (0, 0, [(3, 1)], []), (0, 0, [(4, 1)], []), (0, 0, [(5, 1)], [])])),
  ((1, 3), ([(0, 1, 0, [], [])], [(0, (-1), [(2, (-1))], [(0, 1)])])),
  ((1, 3), ([(0, 1, 0, [], [])], [(0, 1, [(2, 1)], [(0, (-1))])])),
  ((1, 4), ([(0, 1, 0, [], [])], [(0, 0, [(2, (-1))], [(0, 1)]), (0, 0, [(3, 1)], [])])),
  ((2, 2), ([(0, 1, 0, [], []), (1, 1, 0, [], [])], [(3, 0, [], [(0, (-1))]), ((-5), 0, [], [(0, 1)]), (0, 0, [], [(1, 1)])])),
  ((2, 2), ([(0, 1, 0, [], []), (1, 1, 0, [], [])], [(3, 0, [], [(0, (-1))]), ((-5), 0, [], [(0, 1)]), (300, 0, [], [(1, (-1))])])),
  ((2, 3), ([(0, 1, 0, [], []), (1, 0, 0, [], [(0, 1)])], [((-46), 0, [], [(1, 1)]), (0, 0, [(2, 1)], [])])),
  ((2, 3), ([(0, 1, 0, [], []), (1, 0, 0, [], [(0, 1)])], [(46, 0, [], [(1, (-1))]), (0, 0, [(2, 1)], [])])),
  ((2, 2), ([(0, 1, 0, [], []), (1, 1, 0, [], [])], [(3, 0, [], [(0, (-1))]), ((-5), 0, [], [(0, 1)]), (63, 0, [], [(1, (-1))])]))]
/-- what else may be said: 1000 isLet, 1001 isDig, 1002 isNam, 1003 arrLet, 1004 arrNam, 1005 sgn, 1006 una, 1007 valT, 1008 bin, 1009 runT, 1010 exprT, 1011 chr, 1012 expr, 1013 ev, 1014 lf, 1015 ncl -/
def cLet (n : Int) : Prop := n = 46 ∨ (65 ≤ n ∧ n ≤ 90) ∨ n = 95 ∨ (97 ≤ n ∧ n ≤ 122)
def cDig (n : Int) : Prop := 48 ≤ n ∧ n ≤ 57
def cPQ (p : Nat) (fs : List (Int → Int)) (zs : List Int) : Prop := match p with
  | 1000 => (cLet (fZ zs 0) ∧ fZ zs 1 = 1) ∨ (¬ cLet (fZ zs 0) ∧ fZ zs 1 = 0)
  | 1001 => (cDig (fZ zs 0) ∧ fZ zs 1 = 1) ∨ (¬ cDig (fZ zs 0) ∧ fZ zs 1 = 0)
  | 1002 => ((cLet (fZ zs 0) ∨ cDig (fZ zs 0)) ∧ fZ zs 1 = 1) ∨ (¬ (cLet (fZ zs 0) ∨ cDig (fZ zs 0)) ∧ fZ zs 1 = 0)
  | 1003 => cLet (fF fs 0 (fZ zs 0))
  | 1004 => cLet (fF fs 0 (fZ zs 0)) ∨ cDig (fF fs 0 (fZ zs 0))
  | 1005 => fF fs 0 (fZ zs 0) = 4 ∧ fF fs 1 (fZ zs 0) = fZ zs 1
  | 1006 => fF fs 0 (fZ zs 0) = 4 ∧ 1 ≤ fF fs 1 (fZ zs 0) ∧ fF fs 1 (fZ zs 0) ≤ 999 ∧ fF fs 1 (fZ zs 0) ≠ 36 ∧ fF fs 1 (fZ zs 0) ≠ 40
  | 1007 => fF fs 0 (fZ zs 0) = 1 ∨ fF fs 0 (fZ zs 0) = 2 ∨ (fF fs 0 (fZ zs 0) = 4 ∧ fF fs 1 (fZ zs 0) = 36)
  | 1008 => 1 ≤ fZ zs 0 ∧ fZ zs 0 ≤ 999 ∧ fZ zs 0 ≠ 40 ∧ fZ zs 0 ≠ 41
  | 1009 => RunT (fF fs 0) (fF fs 1) (fZ zs 0) (fZ zs 1) (fZ zs 2) (fZ zs 3)
  | 1010 => RunT (fF fs 0) (fF fs 1) (fZ zs 0) (fZ zs 1) 0 0
  | 1011 => fZ zs 1 = cChr (fF fs 0) (fF fs 1) (fF fs 2) (fZ zs 0)
  | 1012 => RunP (fF fs 0) (fF fs 1) (fF fs 2) (fZ zs 0) 0 0
  | 1013 => EvS (fF fs 0) (fF fs 1) (fF fs 2) (fF fs 3) (fZ zs 0) (fZ zs 1) (fZ zs 2) (fZ zs 3) (fZ zs 4)
  | 1014 => fZ zs 1 ≤ 0 ∨ fZ zs 0 = 0 ∨ fZ zs 0 = 36
  | 1015 => fZ zs 0 ≠ 41
  | _ => fs = fs ∧ zs = zs
