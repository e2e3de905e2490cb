/-! UNITS OF THE CLASS: what is said of statements, waits, rows, tables of instructions and the sections placed; the rules of that, over plain functions (nothing of the kit in it; written by wip/p2/gen48.py) -/
def cUs (_ _ : Int) : Prop := True
def cM6 (n : Int) : Prop := n = -1 ∨ (0 ≤ n ∧ n % 6 = 0)
def cTab (F : Int → Int) (_ : Int) : Prop := ∀ i : Int, 0 ≤ i → i ≤ 1092 → i % 6 = 0 → (0 ≤ F i ∧ F i ≤ 53) ∧ (0 ≤ F (i + 1) ∧ F (i + 1) ≤ 9) ∧ (0 ≤ F (i + 2) ∧ F (i + 2) ≤ 12) ∧ (0 ≤ F (i + 3) ∧ F (i + 3) ≤ 5) ∧ (0 ≤ F (i + 4) ∧ F (i + 4) ≤ 62379) ∧ (-1 ≤ F (i + 5) ∧ F (i + 5) ≤ 7) ∧ (F (i + 1) ≠ 4 ∨ i ≤ 1080)
def cPw2 (n : Int) : Prop := n = 1 ∨ n = 2 ∨ n = 4 ∨ n = 8 ∨ n = 16 ∨ n = 32 ∨ n = 64 ∨ n = 128 ∨ n = 256 ∨ n = 512 ∨ n = 1024 ∨ n = 2048 ∨ n = 4096
def cAlgn (S : Int → Int) (a b : Int) : Prop := ∀ j : Int, a ≤ j → j < b → S (7*j) ≤ 1 ∨ 3 ≤ S (7*j) ∨ cPw2 (S (7*j+5))
def cFits (S E : Int → Int) (a b : Int) : Prop := ∀ j : Int, a ≤ j → j < b → S (7*j+3) + S (7*j+4) ≤ E (S (7*j+1))
def cCurS (S R : Int → Int) (c a b : Int) : Prop := ∀ j : Int, a ≤ j → j < b → 0 ≤ S (7*j+1) → S (7*j+1) ≤ 3 → S (7*j+3) + S (7*j+4) ≤ R (17*c+S (7*j+1)+9)
def cStu (S R : Int → Int) (c g : Int) : Prop := ∀ u : Int, 0 ≤ u → u < c → (u + 1 < c → R (17*u+18) ≤ g) ∧ ∀ j : Int, R (17*u+1) ≤ j → (u + 1 = c ∨ j < R (17*u+18)) → j < g → 0 ≤ S (7*j+1) → S (7*j+1) ≤ 3 → S (7*j+3) + S (7*j+4) ≤ R (17*u+S (7*j+1)+9)
def cWlk (W S : Int → Int) (w g : Int) : Prop := ∀ i : Int, 0 ≤ i → i < w → 0 ≤ W (6*i) ∧ W (6*i) < g ∧ (W (6*i+2) ≤ 0 ∨ W (6*i+1) + W (6*i+2) ≤ S (7*W (6*i)+4))
def cWau (W R : Int → Int) (c w g : Int) : Prop := ∀ u : Int, 0 ≤ u → u < c → (u + 1 < c → R (17*u+19) ≤ w) ∧ ∀ i : Int, R (17*u+2) ≤ i → (u + 1 = c ∨ i < R (17*u+19)) → i < w → R (17*u+1) ≤ W (6*i) ∧ W (6*i) < g ∧ (u + 1 = c ∨ W (6*i) < R (17*u+18))
def cCurL (W S : Int → Int) (a b n p e : Int) : Prop := 0 ≤ e ∨ ∀ i : Int, a ≤ i → i < b → 0 ≤ W (6*i+1) ∧ 0 ≤ W (6*i+2) ∧ ((W (6*i) = n ∧ W (6*i+1) + W (6*i+2) ≤ p) ∨ (W (6*i) < n ∧ S (7*W (6*i)) ≤ 3 ∧ S (7*W (6*i)) ≠ 2 ∧ W (6*i+1) + W (6*i+2) ≤ S (7*W (6*i)+4)) ∨ (W (6*i) < n ∧ 4 ≤ S (7*W (6*i)) ∧ (W (6*i+1) + W (6*i+2) ≤ 5 ∨ (W (6*i+1) + W (6*i+2) ≤ 6 ∧ 0 ≤ S (7*W (6*i)+5)))))
def cWlc (W S : Int → Int) (a b : Int) : Prop := ∀ i : Int, a ≤ i → i < b → W (6*i+2) ≤ 0 ∨ W (6*i+1) + W (6*i+2) ≤ S (7*W (6*i)+4)
def cRsz (R : Int → Int) (n : Int) : Prop := ∀ u t : Int, 0 ≤ u → u < n → 0 ≤ t → t ≤ 2 → R (17*u+t+5) + R (17*u+t+9) ≤ 131072
def cAlk (k o : Int) : Prop := k ≤ 1 ∨ 3 ≤ k ∨ cPw2 o
def cCnK (S : Int → Int) (k a : Int) : Nat → Int
  | 0 => 0
  | n + 1 => cCnK S k a n + if k ≤ S (7*(a+n)) then 1 else 0
/-- of the statements from a on, ahead of b, so many have a kind of k at least -/
def cCntK (S : Int → Int) (k a b : Int) : Int := cCnK S k a (b - a).toNat
def cJcn (S : Int → Int) (a b n e : Int) : Prop := 0 ≤ e ∨ (cCntK S 4 a b ≤ n)
def cNsh (S : Int → Int) (a b n : Int) : Prop := cCntK S 5 a b ≤ n
def cJca (S : Int → Int) (a b n e k : Int) : Prop := 0 ≤ e ∨ (k ≤ 3 ∧ cCntK S 4 a b ≤ n) ∨ cCntK S 4 a b ≤ n - 1
def cJwo (S W : Int → Int) (a b w e : Int) : Prop := 0 ≤ e ∨ ∀ j : Int, a ≤ j → j < b → S (7*j) ≤ 3 ∨ (0 ≤ S (7*j+6) ∧ S (7*j+6) < w ∧ W (6*S (7*j+6)) = j)
def cJwa (W : Int → Int) (n w k e : Int) : Prop := 0 ≤ e ∨ k ≤ 3 ∨ (1 ≤ w ∧ W (6*(w-1)) = n)
def cShq (S W : Int → Int) (a b : Int) : Prop := ∀ j : Int, a ≤ j → j < b → S (7*j) ≤ 4 ∨ (0 ≤ S (7*j+6) ∧ W (6*S (7*j+6)) = j ∧ (W (6*S (7*j+6)+4) ≤ -2 ∨ 0 ≤ W (6*S (7*j+6)+4)))
def cPlc (P N R : Int → Int) (n s u e : Int) : Prop := ∀ k t : Int, 0 ≤ k → k < n → 0 ≤ t → t ≤ 3 → (t < s ∨ (t = s ∧ k < u)) → N (4*k+t) = 0 ∨ (4194304 ≤ P (4*k+t) ∧ P (4*k+t) + R (17*k+t+9) ≤ e)
def cEo (S E : Int → Int) (a b : Int) : Prop := ∀ t : Int, 0 ≤ t → t ≤ 3 → E t ≤ 0 ∨ ∃ j : Int, a ≤ j ∧ j < b ∧ E t ≤ S (7*j+3) + S (7*j+4)
def cWpl (W : Int → Int) (i : Int) : Prop := W (6*i+4) ≤ -2 ∨ 0 ≤ W (6*i+4)
theorem ucg (F : Int → Int) (a b : Int) : a ≠ b ∨ F a = F b := by by_cases c : a = b; exact Or.inr (by rw [c]); exact Or.inl c
theorem uni1 {a b : Prop} (h : a → b) : ¬ a ∨ b := by by_cases c : a; exact Or.inr (h c); exact Or.inl c
theorem uni2 {a b c : Prop} (h : a → b → c) : ¬ a ∨ ¬ b ∨ c := by by_cases k : a; exact Or.inr (uni1 (h k)); exact Or.inl k
theorem uni3 {a b c d : Prop} (h : a → b → c → d) : ¬ a ∨ ¬ b ∨ ¬ c ∨ d := by by_cases k : a; exact Or.inr (uni2 (h k)); exact Or.inl k
theorem uni4 {a b c d e : Prop} (h : a → b → c → d → e) : ¬ a ∨ ¬ b ∨ ¬ c ∨ ¬ d ∨ e := by by_cases k : a; exact Or.inr (uni3 (h k)); exact Or.inl k
theorem uni5 {a b c d e f : Prop} (h : a → b → c → d → e → f) : ¬ a ∨ ¬ b ∨ ¬ c ∨ ¬ d ∨ ¬ e ∨ f := by by_cases k : a; exact Or.inr (uni4 (h k)); exact Or.inl k
def cEoe (S E : Int → Int) (a b e : Int) : Prop := 0 ≤ e ∨ cEo S E a b
def cKna (i v : Int) : Prop := (v = -1 ∧ (i = 0 ∨ i = 1 ∨ i = 2 ∨ i = 5 ∨ i = 7 ∨ i = 8 ∨ i = 10 ∨ i = 11)) ∨ (v = 1 ∧ (i = 3 ∨ i = 4 ∨ i = 6)) ∨ (v = 2 ∧ i = 9) ∨ (v = 0 ∧ i = 12)
def cKwi (i v : Int) : Prop := (i = 0 ∧ v = 0) ∨ (i = 1 ∧ v = 1) ∨ (i = 2 ∧ v = 1) ∨ (i = 3 ∧ v = 2) ∨ (i = 4 ∧ v = 4) ∨ (i = 5 ∧ v = 8)
def cNft (k n : Int) : Prop := n ≤ 0 ∨ (k = 4 ∧ n ≤ 4) ∨ (k = 5 ∧ n ≤ 8)
def cRwn (F : Int → Int) (r n : Int) : Prop := r < 0 ∨ cNft (F (r+3)) n ∨ cKna (F (r+2)) (-1)
theorem uwr2 {F G : Int → Int} {n v : Int} (h : ∀ x : Int, F x = if x = n then v else G x) (t : Int) : (t = n ∧ F t = v) ∨ (t ≠ n ∧ F t = G t) := by
  rw [h t]; by_cases c : t = n
  · rw [if_pos c]; exact Or.inl ⟨c, rfl⟩
  · rw [if_neg c]; exact Or.inr ⟨c, rfl⟩
theorem L_m6n {N0 : Int} (H0 : 0 ≤ (0)+(1)*N0) (H1 : 0 ≤ (0)+(-1)*N0) : (cM6 N0) := by
  unfold cM6 at *
  omega
theorem L_m6m {N0 : Int} (H0 : 0 ≤ (1)+(1)*N0) (H1 : 0 ≤ (-1)+(-1)*N0) : (cM6 N0) := by
  unfold cM6 at *
  omega
theorem L_m6S {N0 N1 : Int} (H0 : N1 = (-6)+(1)*N0) (H1 : 0 ≤ (0)+(1)*N1) (H2 : cM6 N1) : (cM6 N0) := by
  unfold cM6 at *
  omega
theorem L_tb0 {F0 : Int → Int} {N0 N1 N2 N3 N4 N5 N6 N7 N8 N9 : Int} (H0 : cTab F0 N9) (H1 : cM6 N0) (H2 : 0 ≤ (0)+(1)*N0) (H3 : 0 ≤ (1092)+(-1)*N0) (H4 : N1 = (0)+(1)*N0) (H5 : F0 N1 = N2) : (0 ≤ (0)+(1)*N2) ∧ (0 ≤ (53)+(-1)*N2) := by
  unfold cTab cM6 at *
  have e : N1 = N0 := by omega
  rw [e] at H5
  have q := H0 N0 (by omega) (by omega) (by omega)
  omega
theorem L_tb1 {F0 : Int → Int} {N0 N1 N2 N3 N4 N5 N6 N7 N8 N9 : Int} (H0 : cTab F0 N9) (H1 : cM6 N0) (H2 : 0 ≤ (0)+(1)*N0) (H3 : 0 ≤ (1092)+(-1)*N0) (H4 : N1 = (1)+(1)*N0) (H5 : F0 N1 = N2) : (0 ≤ (0)+(1)*N2) ∧ (0 ≤ (9)+(-1)*N2) := by
  unfold cTab cM6 at *
  have e : N1 = N0 + 1 := by omega
  rw [e] at H5
  have q := H0 N0 (by omega) (by omega) (by omega)
  omega
theorem L_tb2 {F0 : Int → Int} {N0 N1 N2 N3 N4 N5 N6 N7 N8 N9 : Int} (H0 : cTab F0 N9) (H1 : cM6 N0) (H2 : 0 ≤ (0)+(1)*N0) (H3 : 0 ≤ (1092)+(-1)*N0) (H4 : N1 = (2)+(1)*N0) (H5 : F0 N1 = N2) : (0 ≤ (0)+(1)*N2) ∧ (0 ≤ (12)+(-1)*N2) := by
  unfold cTab cM6 at *
  have e : N1 = N0 + 2 := by omega
  rw [e] at H5
  have q := H0 N0 (by omega) (by omega) (by omega)
  omega
theorem L_tb3 {F0 : Int → Int} {N0 N1 N2 N3 N4 N5 N6 N7 N8 N9 : Int} (H0 : cTab F0 N9) (H1 : cM6 N0) (H2 : 0 ≤ (0)+(1)*N0) (H3 : 0 ≤ (1092)+(-1)*N0) (H4 : N1 = (3)+(1)*N0) (H5 : F0 N1 = N2) : (0 ≤ (0)+(1)*N2) ∧ (0 ≤ (5)+(-1)*N2) := by
  unfold cTab cM6 at *
  have e : N1 = N0 + 3 := by omega
  rw [e] at H5
  have q := H0 N0 (by omega) (by omega) (by omega)
  omega
theorem L_tb4 {F0 : Int → Int} {N0 N1 N2 N3 N4 N5 N6 N7 N8 N9 : Int} (H0 : cTab F0 N9) (H1 : cM6 N0) (H2 : 0 ≤ (0)+(1)*N0) (H3 : 0 ≤ (1092)+(-1)*N0) (H4 : N1 = (4)+(1)*N0) (H5 : F0 N1 = N2) : (0 ≤ (0)+(1)*N2) ∧ (0 ≤ (62379)+(-1)*N2) := by
  unfold cTab cM6 at *
  have e : N1 = N0 + 4 := by omega
  rw [e] at H5
  have q := H0 N0 (by omega) (by omega) (by omega)
  omega
theorem L_tb5 {F0 : Int → Int} {N0 N1 N2 N3 N4 N5 N6 N7 N8 N9 : Int} (H0 : cTab F0 N9) (H1 : cM6 N0) (H2 : 0 ≤ (0)+(1)*N0) (H3 : 0 ≤ (1092)+(-1)*N0) (H4 : N1 = (5)+(1)*N0) (H5 : F0 N1 = N2) : (0 ≤ (1)+(1)*N2) ∧ (0 ≤ (7)+(-1)*N2) := by
  unfold cTab cM6 at *
  have e : N1 = N0 + 5 := by omega
  rw [e] at H5
  have q := H0 N0 (by omega) (by omega) (by omega)
  omega
theorem L_tbD {F0 : Int → Int} {N0 N1 N2 N3 N4 N5 N6 N7 N8 N9 : Int} (H0 : cTab F0 N9) (H1 : cM6 N0) (H2 : 0 ≤ (0)+(1)*N0) (H3 : 0 ≤ (1092)+(-1)*N0) (H4 : N1 = (1)+(1)*N0) (H5 : F0 N1 = N2) (H6 : 0 ≤ (-4)+(1)*N2) (H7 : 0 ≤ (4)+(-1)*N2) : (0 ≤ (1080)+(-1)*N0) := by
  unfold cTab cM6 at *
  have e : N1 = N0 + 1 := by omega
  rw [e] at H5
  have q := H0 N0 (by omega) (by omega) (by omega)
  omega
theorem L_m6T {N0 : Int} (H0 : cM6 N0) (H1 : 0 ≤ (-1093)+(1)*N0) (H2 : 0 ≤ (1097)+(-1)*N0) : (0 ≤ (-1)) := by
  unfold cM6 at *
  omega
theorem L_m6B {N0 : Int} (H0 : cM6 N0) (H1 : 0 ≤ (0)+(1)*N0) (H2 : 0 ≤ (1097)+(-1)*N0) : (0 ≤ (1092)+(-1)*N0) := by
  unfold cM6 at *
  omega
theorem L_alE {F0 : Int → Int} {N0 N1 : Int} (H0 : 0 ≤ (0)+(1)*N0+(-1)*N1) : (cAlgn F0 N0 N1) := by
  unfold cAlgn at *
  intro x g0 g1
  omega
theorem L_alX {F0 : Int → Int} {N0 N1 N2 N3 N4 : Int} (H0 : N2 = (-1)+(1)*N1) (H1 : cAlgn F0 N0 N2) (H2 : N3 = (-7)+(7)*N1) (H3 : F0 N3 = N4) (H4 : 0 ≤ (1)+(-1)*N4) : (cAlgn F0 N0 N1) := by
  unfold cAlgn at *
  intro x g0 g1
  by_cases c : x < N2
  · exact H1 x g0 c
  · have e : N3 = 7*x := by omega
    rw [e] at H3; omega
theorem L_alY {F0 : Int → Int} {N0 N1 N2 N3 N4 : Int} (H0 : N2 = (-1)+(1)*N1) (H1 : cAlgn F0 N0 N2) (H2 : N3 = (-7)+(7)*N1) (H3 : F0 N3 = N4) (H4 : 0 ≤ (-3)+(1)*N4) : (cAlgn F0 N0 N1) := by
  unfold cAlgn at *
  intro x g0 g1
  by_cases c : x < N2
  · exact H1 x g0 c
  · have e : N3 = 7*x := by omega
    rw [e] at H3; omega
theorem L_alZ {F0 : Int → Int} {N0 N1 N2 N3 N4 : Int} (H0 : N2 = (-1)+(1)*N1) (H1 : cAlgn F0 N0 N2) (H2 : N3 = (-2)+(7)*N1) (H3 : F0 N3 = N4) (H4 : cPw2 N4) : (cAlgn F0 N0 N1) := by
  unfold cAlgn at *
  intro x g0 g1
  by_cases c : x < N2
  · exact H1 x g0 c
  · have e : N3 = 7*x+5 := by omega
    rw [e] at H3; rw [H3]; exact Or.inr (Or.inr H4)
theorem L_alW {F0 F1 : Int → Int} {N0 N1 N2 N3 : Int} (H0 : ∀ x : Int, F1 x = if x = N2 then N3 else F0 x) (H1 : cAlgn F0 N0 N1) (H2 : 0 ≤ (0)+(1)*N2+(-7)*N1) : (cAlgn F1 N0 N1) := by
  unfold cAlgn at *
  intro x g0 g1
  have q := H1 x g0 g1
  have w0 := (uwr2 H0 (7*x)).resolve_left (fun h => by omega)
  have w1 := (uwr2 H0 (7*x+5)).resolve_left (fun h => by omega)
  rw [w0.2, w1.2]; exact q
theorem L_alV {F0 F1 : Int → Int} {N0 N1 N2 N3 N4 N5 : Int} (H0 : ∀ x : Int, F1 x = if x = N2 then N3 else F0 x) (H1 : cAlgn F0 N0 N1) (H2 : cUs N4 N5) (H3 : 0 ≤ (-1)+(1)*N2+(-7)*N4) (H4 : 0 ≤ (4)+(7)*N4+(-1)*N2) : (cAlgn F1 N0 N1) := by
  unfold cAlgn at *
  intro x g0 g1
  have q := H1 x g0 g1
  have w0 := (uwr2 H0 (7*x)).resolve_left (fun h => by omega)
  have w1 := (uwr2 H0 (7*x+5)).resolve_left (fun h => by omega)
  rw [w0.2, w1.2]; exact q
theorem L_alU {F0 F1 : Int → Int} {N0 N1 N2 N3 N4 N5 : Int} (H0 : ∀ x : Int, F1 x = if x = N2 then N3 else F0 x) (H1 : cAlgn F0 N0 N1) (H2 : 0 ≤ (-3)+(1)*N3) (H3 : cUs N4 N5) (H4 : 0 ≤ (0)+(1)*N2+(-7)*N4) (H5 : 0 ≤ (0)+(7)*N4+(-1)*N2) : (cAlgn F1 N0 N1) := by
  unfold cAlgn at *
  intro x g0 g1
  have q := H1 x g0 g1
  rcases uwr2 H0 (7*x) with w0 | w0
  · right; left; omega
  · have w1 := (uwr2 H0 (7*x+5)).resolve_left (fun h => by omega)
    rw [w0.2, w1.2]; exact q
theorem L_alO {F0 : Int → Int} {N0 N1 N2 N3 N4 N5 N6 N7 : Int} (H0 : cUs N2 N6) (H1 : cAlgn F0 N0 N1) (H2 : 0 ≤ (0)+(1)*N2+(-1)*N0) (H3 : 0 ≤ (-1)+(1)*N1+(-1)*N2) (H4 : N3 = (0)+(7)*N2) (H5 : F0 N3 = N4) (H6 : 0 ≤ (-2)+(1)*N4) (H7 : 0 ≤ (2)+(-1)*N4) (H8 : N5 = (5)+(7)*N2) (H9 : F0 N5 = N7) : (0 ≤ (-1)+(1)*N7) ∧ (0 ≤ (4096)+(-1)*N7) := by
  unfold cAlgn at *
  have q := H1 N2 (by omega) (by omega)
  have e3 : N3 = 7*N2 := by omega
  have e5 : N5 = 7*N2+5 := by omega
  subst e3; subst e5
  rcases q with q | q | q
  · exfalso; omega
  · exfalso; omega
  · unfold cPw2 at q; omega
theorem L_fiE {F0 F1 : Int → Int} {N0 N1 : Int} (H0 : 0 ≤ (0)+(1)*N0+(-1)*N1) : (cFits F0 F1 N0 N1) := by
  unfold cFits at *
  intro x g0 g1
  omega
theorem L_fiW {F0 F1 F2 : Int → Int} {N0 N1 N2 N3 : Int} (H0 : ∀ x : Int, F2 x = if x = N2 then N3 else F0 x) (H1 : cFits F0 F1 N0 N1) (H2 : 0 ≤ (0)+(1)*N2+(-7)*N1) : (cFits F2 F1 N0 N1) := by
  unfold cFits at *
  intro x g0 g1
  first | (have w0 := (uwr2 H0 (7*x+3)).resolve_left (fun h => by omega)) | (have w0 := (uwr2 H0 (7*x+3)).resolve_right (fun h => by omega)) | (have w0 := uwr2 H0 (7*x+3))
  first | (have w1 := (uwr2 H0 (7*x+4)).resolve_left (fun h => by omega)) | (have w1 := (uwr2 H0 (7*x+4)).resolve_right (fun h => by omega)) | (have w1 := uwr2 H0 (7*x+4))
  first | (have w2 := (uwr2 H0 (7*x+1)).resolve_left (fun h => by omega)) | (have w2 := (uwr2 H0 (7*x+1)).resolve_right (fun h => by omega)) | (have w2 := uwr2 H0 (7*x+1))
  first | (have c3 : F1 (F0 (7*x+1)) = F1 (F2 (7*x+1)) := (ucg F1 (F0 (7*x+1)) (F2 (7*x+1))).resolve_left (fun h => h (by omega))) | (have c3 : (F0 (7*x+1)) ≠ (F2 (7*x+1)) := by omega; clear c3) | (have c3 := ucg F1 (F0 (7*x+1)) (F2 (7*x+1)))
  have q0 := uni2 (H1 (x))
  clear H1
  omega
theorem L_fiU {F0 F1 F2 : Int → Int} {N0 N1 N2 N3 N4 : Int} (H0 : ∀ x : Int, F2 x = if x = N2 then N3 else F1 x) (H1 : cFits F0 F1 N0 N1) (H2 : F1 N2 = N4) (H3 : 0 ≤ (0)+(1)*N3+(-1)*N4) : (cFits F0 F2 N0 N1) := by
  unfold cFits at *
  intro x g0 g1
  first | (have w0 := (uwr2 H0 (F0 (7*x+1))).resolve_left (fun h => by omega)) | (have w0 := (uwr2 H0 (F0 (7*x+1))).resolve_right (fun h => by omega)) | (have w0 := uwr2 H0 (F0 (7*x+1)))
  first | (have c1 : F1 (F0 (7*x+1)) = F1 (N2) := (ucg F1 (F0 (7*x+1)) (N2)).resolve_left (fun h => h (by omega))) | (have c1 : (F0 (7*x+1)) ≠ (N2) := by omega; clear c1) | (have c1 := ucg F1 (F0 (7*x+1)) (N2))
  have q0 := uni2 (H1 (x))
  clear H1
  omega
theorem L_fiK {F0 F1 F2 : Int → Int} {N0 N1 N2 N3 N4 N5 : Int} (H0 : ∀ x : Int, F2 x = if x = N2 then N3 else F0 x) (H1 : cFits F0 F1 N0 N1) (H2 : cUs N4 N5) (H3 : 0 ≤ (0)+(1)*N2+(-7)*N4) (H4 : 0 ≤ (0)+(7)*N4+(-1)*N2) : (cFits F2 F1 N0 N1) := by
  unfold cFits cUs at *
  intro x g0 g1
  first | (have w0 := (uwr2 H0 (7*x+3)).resolve_left (fun h => by omega)) | (have w0 := (uwr2 H0 (7*x+3)).resolve_right (fun h => by omega)) | (have w0 := uwr2 H0 (7*x+3))
  first | (have w1 := (uwr2 H0 (7*x+4)).resolve_left (fun h => by omega)) | (have w1 := (uwr2 H0 (7*x+4)).resolve_right (fun h => by omega)) | (have w1 := uwr2 H0 (7*x+4))
  first | (have w2 := (uwr2 H0 (7*x+1)).resolve_left (fun h => by omega)) | (have w2 := (uwr2 H0 (7*x+1)).resolve_right (fun h => by omega)) | (have w2 := uwr2 H0 (7*x+1))
  first | (have c3 : F1 (F0 (7*x+1)) = F1 (F2 (7*x+1)) := (ucg F1 (F0 (7*x+1)) (F2 (7*x+1))).resolve_left (fun h => h (by omega))) | (have c3 : (F0 (7*x+1)) ≠ (F2 (7*x+1)) := by omega; clear c3) | (have c3 := ucg F1 (F0 (7*x+1)) (F2 (7*x+1)))
  have q0 := uni2 (H1 (x))
  clear H1
  omega
theorem L_fiX {F0 F1 : Int → Int} {N0 N1 N2 N3 N4 N5 N6 N7 N8 N9 : Int} (H0 : N2 = (-1)+(1)*N1) (H1 : cFits F0 F1 N0 N2) (H2 : N3 = (-4)+(7)*N1) (H3 : F0 N3 = N4) (H4 : N5 = (-3)+(7)*N1) (H5 : F0 N5 = N6) (H6 : N7 = (-6)+(7)*N1) (H7 : F0 N7 = N8) (H8 : 0 ≤ (0)+(1)*N8) (H9 : 0 ≤ (3)+(-1)*N8) (H10 : F1 N8 = N9) (H11 : 0 ≤ (0)+(1)*N9+(-1)*N4+(-1)*N6) : (cFits F0 F1 N0 N1) := by
  unfold cFits at *
  intro x g0 g1
  first | (have c0 : F0 (7*x+3) = F0 (N3) := (ucg F0 (7*x+3) (N3)).resolve_left (fun h => h (by omega))) | (have c0 : (7*x+3) ≠ (N3) := by omega; clear c0) | (have c0 := ucg F0 (7*x+3) (N3))
  first | (have c1 : F0 (7*x+4) = F0 (N5) := (ucg F0 (7*x+4) (N5)).resolve_left (fun h => h (by omega))) | (have c1 : (7*x+4) ≠ (N5) := by omega; clear c1) | (have c1 := ucg F0 (7*x+4) (N5))
  first | (have c2 : F0 (7*x+1) = F0 (N7) := (ucg F0 (7*x+1) (N7)).resolve_left (fun h => h (by omega))) | (have c2 : (7*x+1) ≠ (N7) := by omega; clear c2) | (have c2 := ucg F0 (7*x+1) (N7))
  first | (have c3 : F1 (F0 (7*x+1)) = F1 (N8) := (ucg F1 (F0 (7*x+1)) (N8)).resolve_left (fun h => h (by omega))) | (have c3 : (F0 (7*x+1)) ≠ (N8) := by omega; clear c3) | (have c3 := ucg F1 (F0 (7*x+1)) (N8))
  have q0 := uni2 (H1 (x))
  clear H1
  omega
theorem L_fiI {F0 F1 : Int → Int} {N0 N1 N2 N3 N4 N5 N6 N7 N8 N9 N10 : Int} (H0 : cUs N2 N10) (H1 : cFits F0 F1 N0 N1) (H2 : 0 ≤ (0)+(1)*N2+(-1)*N0) (H3 : 0 ≤ (-1)+(1)*N1+(-1)*N2) (H4 : N3 = (3)+(7)*N2) (H5 : F0 N3 = N4) (H6 : N5 = (4)+(7)*N2) (H7 : F0 N5 = N6) (H8 : N7 = (1)+(7)*N2) (H9 : F0 N7 = N8) (H10 : F1 N8 = N9) : (0 ≤ (0)+(1)*N9+(-1)*N4+(-1)*N6) := by
  unfold cFits cUs at *
  first | (have c0 : F0 (7*N2+3) = F0 (N3) := (ucg F0 (7*N2+3) (N3)).resolve_left (fun h => h (by omega))) | (have c0 : (7*N2+3) ≠ (N3) := by omega; clear c0) | (have c0 := ucg F0 (7*N2+3) (N3))
  first | (have c1 : F0 (7*N2+4) = F0 (N5) := (ucg F0 (7*N2+4) (N5)).resolve_left (fun h => h (by omega))) | (have c1 : (7*N2+4) ≠ (N5) := by omega; clear c1) | (have c1 := ucg F0 (7*N2+4) (N5))
  first | (have c2 : F0 (7*N2+1) = F0 (N7) := (ucg F0 (7*N2+1) (N7)).resolve_left (fun h => h (by omega))) | (have c2 : (7*N2+1) ≠ (N7) := by omega; clear c2) | (have c2 := ucg F0 (7*N2+1) (N7))
  first | (have c3 : F1 (F0 (7*N2+1)) = F1 (N8) := (ucg F1 (F0 (7*N2+1)) (N8)).resolve_left (fun h => h (by omega))) | (have c3 : (F0 (7*N2+1)) ≠ (N8) := by omega; clear c3) | (have c3 := ucg F1 (F0 (7*N2+1)) (N8))
  have q1 := uni2 (H1 (N2))
  clear H1
  omega
theorem L_cuR {F0 F1 F2 : Int → Int} {N0 N1 N2 N3 N4 : Int} (H0 : ∀ x : Int, F2 x = if x = N3 then N4 else F1 x) (H1 : cCurS F0 F1 N0 N1 N2) (H2 : 0 ≤ (-17)+(1)*N3+(-17)*N0) : (cCurS F0 F2 N0 N1 N2) := by
  unfold cCurS at *
  intro x g0 g1 g2 g3
  first | (have w0 := (uwr2 H0 (17*N0+F0 (7*x+1)+9)).resolve_left (fun h => by omega)) | (have w0 := (uwr2 H0 (17*N0+F0 (7*x+1)+9)).resolve_right (fun h => by omega)) | (have w0 := uwr2 H0 (17*N0+F0 (7*x+1)+9))
  have q0 := uni4 (H1 (x))
  clear H1
  omega
theorem L_rzEb {F0 : Int → Int} {N0 : Int} (H0 : 0 ≤ (0)+(-1)*N0) : (cRsz F0 N0) := by
  unfold cRsz at *
  intro x y k0 k1 t0 t1
  first | (have c0 : F0 (17*x+y+9) = F0 (17*x+y+5) := (ucg F0 (17*x+y+9) (17*x+y+5)).resolve_left (fun h => h (by omega))) | (have c0 : (17*x+y+9) ≠ (17*x+y+5) := by omega; clear c0) | (have c0 := ucg F0 (17*x+y+9) (17*x+y+5))
  omega
theorem L_rzWb {F0 F1 : Int → Int} {N0 N1 N2 : Int} (H0 : ∀ x : Int, F1 x = if x = N1 then N2 else F0 x) (H1 : cRsz F0 N0) (H2 : 0 ≤ (0)+(1)*N1+(-17)*N0) : (cRsz F1 N0) := by
  unfold cRsz at *
  intro x y k0 k1 t0 t1
  first | (have w0 := (uwr2 H0 (17*x+y+5)).resolve_left (fun h => by omega)) | (have w0 := (uwr2 H0 (17*x+y+5)).resolve_right (fun h => by omega)) | (have w0 := uwr2 H0 (17*x+y+5))
  first | (have w1 := (uwr2 H0 (17*x+y+9)).resolve_left (fun h => by omega)) | (have w1 := (uwr2 H0 (17*x+y+9)).resolve_right (fun h => by omega)) | (have w1 := uwr2 H0 (17*x+y+9))
  first | (have c2 : F0 (17*x+y+9) = F0 (17*x+y+5) := (ucg F0 (17*x+y+9) (17*x+y+5)).resolve_left (fun h => h (by omega))) | (have c2 : (17*x+y+9) ≠ (17*x+y+5) := by omega; clear c2) | (have c2 := ucg F0 (17*x+y+9) (17*x+y+5))
  have q0 := uni4 (H1 (x) (y))
  clear H1
  omega
theorem L_rzXb {F0 : Int → Int} {N0 N1 N2 N3 N4 : Int} (H0 : N1 = (-1)+(1)*N0) (H1 : cRsz F0 N1) (H2 : ∀ x : Int, N2 ≤ x → x < N3 → (0 ≤ 0+(1)*N4+(-1)*F0 (x+17*N1+5)+(-1)*F0 (x+17*N1+9)) ∨ (0 ≤ -3+(1)*x)) (H3 : 0 ≤ (0)+(-1)*N2) (H4 : 0 ≤ (-3)+(1)*N3) (H5 : 0 ≤ (131072)+(-1)*N4) : (cRsz F0 N0) := by
  unfold cRsz at *
  intro x y k0 k1 t0 t1
  first | (have c0 : F0 (17*x+y+9) = F0 (17*x+y+5) := (ucg F0 (17*x+y+9) (17*x+y+5)).resolve_left (fun h => h (by omega))) | (have c0 : (17*x+y+9) ≠ (17*x+y+5) := by omega; clear c0) | (have c0 := ucg F0 (17*x+y+9) (17*x+y+5))
  first | (have c1 : F0 (y+17*N1+5) = F0 (17*x+y+5) := (ucg F0 (y+17*N1+5) (17*x+y+5)).resolve_left (fun h => h (by omega))) | (have c1 : (y+17*N1+5) ≠ (17*x+y+5) := by omega; clear c1) | (have c1 := ucg F0 (y+17*N1+5) (17*x+y+5))
  first | (have c2 : F0 (y+17*N1+5) = F0 (17*x+y+9) := (ucg F0 (y+17*N1+5) (17*x+y+9)).resolve_left (fun h => h (by omega))) | (have c2 : (y+17*N1+5) ≠ (17*x+y+9) := by omega; clear c2) | (have c2 := ucg F0 (y+17*N1+5) (17*x+y+9))
  first | (have c3 : F0 (y+17*N1+9) = F0 (17*x+y+5) := (ucg F0 (y+17*N1+9) (17*x+y+5)).resolve_left (fun h => h (by omega))) | (have c3 : (y+17*N1+9) ≠ (17*x+y+5) := by omega; clear c3) | (have c3 := ucg F0 (y+17*N1+9) (17*x+y+5))
  first | (have c4 : F0 (y+17*N1+9) = F0 (17*x+y+9) := (ucg F0 (y+17*N1+9) (17*x+y+9)).resolve_left (fun h => h (by omega))) | (have c4 : (y+17*N1+9) ≠ (17*x+y+9) := by omega; clear c4) | (have c4 := ucg F0 (y+17*N1+9) (17*x+y+9))
  first | (have c5 : F0 (y+17*N1+9) = F0 (y+17*N1+5) := (ucg F0 (y+17*N1+9) (y+17*N1+5)).resolve_left (fun h => h (by omega))) | (have c5 : (y+17*N1+9) ≠ (y+17*N1+5) := by omega; clear c5) | (have c5 := ucg F0 (y+17*N1+9) (y+17*N1+5))
  have q0 := uni4 (H1 (x) (y))
  clear H1
  have q1 := uni2 (H2 (y))
  clear H2
  omega
theorem L_rzI {F0 : Int → Int} {N0 N1 N2 N3 N4 N5 N6 : Int} (H0 : cUs N1 N2) (H1 : cRsz F0 N0) (H2 : 0 ≤ (0)+(1)*N1) (H3 : 0 ≤ (-1)+(1)*N0+(-1)*N1) (H4 : 0 ≤ (0)+(1)*N2) (H5 : 0 ≤ (2)+(-1)*N2) (H6 : N3 = (5)+(17)*N1+(1)*N2) (H7 : F0 N3 = N4) (H8 : N5 = (4)+(1)*N3) (H9 : F0 N5 = N6) : (0 ≤ (131072)+(-1)*N4+(-1)*N6) := by
  unfold cRsz cUs at *
  first | (have c0 : F0 (17*N1+N2+5) = F0 (N3) := (ucg F0 (17*N1+N2+5) (N3)).resolve_left (fun h => h (by omega))) | (have c0 : (17*N1+N2+5) ≠ (N3) := by omega; clear c0) | (have c0 := ucg F0 (17*N1+N2+5) (N3))
  first | (have c1 : F0 (17*N1+N2+5) = F0 (N5) := (ucg F0 (17*N1+N2+5) (N5)).resolve_left (fun h => h (by omega))) | (have c1 : (17*N1+N2+5) ≠ (N5) := by omega; clear c1) | (have c1 := ucg F0 (17*N1+N2+5) (N5))
  first | (have c2 : F0 (17*N1+N2+9) = F0 (N3) := (ucg F0 (17*N1+N2+9) (N3)).resolve_left (fun h => h (by omega))) | (have c2 : (17*N1+N2+9) ≠ (N3) := by omega; clear c2) | (have c2 := ucg F0 (17*N1+N2+9) (N3))
  first | (have c3 : F0 (17*N1+N2+9) = F0 (N5) := (ucg F0 (17*N1+N2+9) (N5)).resolve_left (fun h => h (by omega))) | (have c3 : (17*N1+N2+9) ≠ (N5) := by omega; clear c3) | (have c3 := ucg F0 (17*N1+N2+9) (N5))
  first | (have c4 : F0 (17*N1+N2+9) = F0 (17*N1+N2+5) := (ucg F0 (17*N1+N2+9) (17*N1+N2+5)).resolve_left (fun h => h (by omega))) | (have c4 : (17*N1+N2+9) ≠ (17*N1+N2+5) := by omega; clear c4) | (have c4 := ucg F0 (17*N1+N2+9) (17*N1+N2+5))
  have q1 := uni4 (H1 (N1) (N2))
  clear H1
  omega
theorem L_wkE {F0 F1 : Int → Int} {N0 N1 : Int} (H0 : 0 ≤ (0)+(-1)*N0) (H1 : 0 ≤ (0)) : (cWlk F0 F1 N0 N1) := by
  unfold cWlk at *
  intro x g0 g1
  omega
theorem L_wkW {F0 F1 F2 : Int → Int} {N0 N1 N2 N3 : Int} (H0 : ∀ x : Int, F2 x = if x = N2 then N3 else F0 x) (H1 : cWlk F0 F1 N0 N1) (H2 : 0 ≤ (0)+(1)*N2+(-6)*N0) : (cWlk F2 F1 N0 N1) := by
  unfold cWlk at *
  intro x g0 g1
  first | (have w0 := (uwr2 H0 (6*x)).resolve_left (fun h => by omega)) | (have w0 := (uwr2 H0 (6*x)).resolve_right (fun h => by omega)) | (have w0 := uwr2 H0 (6*x))
  first | (have w1 := (uwr2 H0 (6*x+1)).resolve_left (fun h => by omega)) | (have w1 := (uwr2 H0 (6*x+1)).resolve_right (fun h => by omega)) | (have w1 := uwr2 H0 (6*x+1))
  first | (have w2 := (uwr2 H0 (6*x+2)).resolve_left (fun h => by omega)) | (have w2 := (uwr2 H0 (6*x+2)).resolve_right (fun h => by omega)) | (have w2 := uwr2 H0 (6*x+2))
  first | (have c3 : F1 (7*F0 (6*x)+4) = F1 (7*F2 (6*x)+4) := (ucg F1 (7*F0 (6*x)+4) (7*F2 (6*x)+4)).resolve_left (fun h => h (by omega))) | (have c3 : (7*F0 (6*x)+4) ≠ (7*F2 (6*x)+4) := by omega; clear c3) | (have c3 := ucg F1 (7*F0 (6*x)+4) (7*F2 (6*x)+4))
  have q0 := uni2 (H1 (x))
  clear H1
  omega
theorem L_wkSb {F0 F1 F2 : Int → Int} {N0 N1 N2 N3 : Int} (H0 : ∀ x : Int, F2 x = if x = N2 then N3 else F1 x) (H1 : cWlk F0 F1 N0 N1) (H2 : 0 ≤ (0)+(1)*N2+(-7)*N1) : (cWlk F0 F2 N0 N1) := by
  unfold cWlk at *
  intro x g0 g1
  first | (have w0 := (uwr2 H0 (7*F0 (6*x)+4)).resolve_left (fun h => by omega)) | (have w0 := (uwr2 H0 (7*F0 (6*x)+4)).resolve_right (fun h => by omega)) | (have w0 := uwr2 H0 (7*F0 (6*x)+4))
  have q0 := uni2 (H1 (x))
  clear H1
  omega
theorem L_wkX {F0 F1 : Int → Int} {N0 N1 N2 N3 N4 N5 N6 N7 N8 N9 N10 N11 : Int} (H0 : cWlk F0 F1 N2 N3) (H1 : 0 ≤ (0)+(1)*N1+(-1)*N3) (H2 : cWlc F0 F1 N4 N0) (H3 : 0 ≤ (0)+(1)*N2+(-1)*N4) (H4 : ∀ x : Int, N5 ≤ x → x < N6 → (0 ≤ -1+(1)*N7+(-1)*F0 (6*x)) ∨ (0 ≤ 0+(1)*N8)) (H5 : 0 ≤ (-1)+(-1)*N8) (H6 : 0 ≤ (0)+(1)*N2+(-1)*N5) (H7 : 0 ≤ (0)+(1)*N6+(-1)*N0) (H8 : 0 ≤ (0)+(1)*N1+(-1)*N7) (H9 : ∀ x : Int, N9 ≤ x → x < N10 → (0 ≤ 0+(-1)*N11+(1)*F0 (6*x))) (H10 : 0 ≤ (0)+(1)*N2+(-1)*N9) (H11 : 0 ≤ (0)+(1)*N10+(-1)*N0) (H12 : 0 ≤ (0)+(1)*N11) : (cWlk F0 F1 N0 N1) := by
  unfold cWlc cWlk at *
  intro x g0 g1
  have q0 := uni2 (H0 (x))
  clear H0
  have q1 := uni2 (H2 (x))
  clear H2
  have q2 := uni2 (H4 (x))
  clear H4
  have q3 := uni2 (H9 (x))
  clear H9
  omega
theorem L_wkI {F0 F1 : Int → Int} {N0 N1 N2 N3 N4 N5 N6 N7 N8 N9 : Int} (H0 : cUs N2 N9) (H1 : cWlk F0 F1 N0 N1) (H2 : 0 ≤ (0)+(1)*N2) (H3 : 0 ≤ (-1)+(1)*N0+(-1)*N2) (H4 : N3 = (0)+(6)*N2) (H5 : F0 N3 = N4) : (0 ≤ (0)+(1)*N4) ∧ (0 ≤ (-1)+(1)*N1+(-1)*N4) := by
  unfold cUs cWlk at *
  first | (have c0 : F0 (6*N2) = F0 (N3) := (ucg F0 (6*N2) (N3)).resolve_left (fun h => h (by omega))) | (have c0 : (6*N2) ≠ (N3) := by omega; clear c0) | (have c0 := ucg F0 (6*N2) (N3))
  have q1 := uni2 (H1 (N2))
  clear H1
  omega
theorem L_wkJ {F0 F1 : Int → Int} {N0 N1 N2 N3 N4 N5 N6 N7 N8 N9 N10 N11 : Int} (H0 : cUs N2 N9) (H1 : cWlk F0 F1 N0 N1) (H2 : 0 ≤ (0)+(1)*N2) (H3 : 0 ≤ (-1)+(1)*N0+(-1)*N2) (H4 : N3 = (0)+(6)*N2) (H5 : F0 N3 = N4) (H6 : N5 = (1)+(6)*N2) (H7 : F0 N5 = N6) (H8 : N7 = (2)+(6)*N2) (H9 : F0 N7 = N8) (H10 : 0 ≤ (-1)+(1)*N8) (H11 : N10 = (4)+(7)*N4) (H12 : F1 N10 = N11) : (0 ≤ (0)+(1)*N11+(-1)*N6+(-1)*N8) := by
  unfold cUs cWlk at *
  first | (have c0 : F0 (6*N2) = F0 (N3) := (ucg F0 (6*N2) (N3)).resolve_left (fun h => h (by omega))) | (have c0 : (6*N2) ≠ (N3) := by omega; clear c0) | (have c0 := ucg F0 (6*N2) (N3))
  first | (have c1 : F0 (6*N2+1) = F0 (N5) := (ucg F0 (6*N2+1) (N5)).resolve_left (fun h => h (by omega))) | (have c1 : (6*N2+1) ≠ (N5) := by omega; clear c1) | (have c1 := ucg F0 (6*N2+1) (N5))
  first | (have c2 : F0 (6*N2+2) = F0 (N7) := (ucg F0 (6*N2+2) (N7)).resolve_left (fun h => h (by omega))) | (have c2 : (6*N2+2) ≠ (N7) := by omega; clear c2) | (have c2 := ucg F0 (6*N2+2) (N7))
  first | (have c3 : F1 (7*F0 (6*N2)+4) = F1 (N10) := (ucg F1 (7*F0 (6*N2)+4) (N10)).resolve_left (fun h => h (by omega))) | (have c3 : (7*F0 (6*N2)+4) ≠ (N10) := by omega; clear c3) | (have c3 := ucg F1 (7*F0 (6*N2)+4) (N10))
  have q1 := uni2 (H1 (N2))
  clear H1
  omega
theorem L_wcE {F0 F1 : Int → Int} {N0 N1 : Int} (H0 : 0 ≤ (0)+(1)*N0+(-1)*N1) : (cWlc F0 F1 N0 N1) := by
  unfold cWlc at *
  intro x g0 g1
  omega
theorem L_wcW {F0 F1 F2 : Int → Int} {N0 N1 N2 N3 : Int} (H0 : ∀ x : Int, F2 x = if x = N2 then N3 else F0 x) (H1 : cWlc F0 F1 N0 N1) (H2 : 0 ≤ (0)+(1)*N2+(-6)*N1) : (cWlc F2 F1 N0 N1) := by
  unfold cWlc at *
  intro x g0 g1
  first | (have w0 := (uwr2 H0 (6*x)).resolve_left (fun h => by omega)) | (have w0 := (uwr2 H0 (6*x)).resolve_right (fun h => by omega)) | (have w0 := uwr2 H0 (6*x))
  first | (have w1 := (uwr2 H0 (6*x+1)).resolve_left (fun h => by omega)) | (have w1 := (uwr2 H0 (6*x+1)).resolve_right (fun h => by omega)) | (have w1 := uwr2 H0 (6*x+1))
  first | (have w2 := (uwr2 H0 (6*x+2)).resolve_left (fun h => by omega)) | (have w2 := (uwr2 H0 (6*x+2)).resolve_right (fun h => by omega)) | (have w2 := uwr2 H0 (6*x+2))
  first | (have c3 : F1 (7*F0 (6*x)+4) = F1 (7*F2 (6*x)+4) := (ucg F1 (7*F0 (6*x)+4) (7*F2 (6*x)+4)).resolve_left (fun h => h (by omega))) | (have c3 : (7*F0 (6*x)+4) ≠ (7*F2 (6*x)+4) := by omega; clear c3) | (have c3 := ucg F1 (7*F0 (6*x)+4) (7*F2 (6*x)+4))
  have q0 := uni2 (H1 (x))
  clear H1
  omega
theorem L_wcX0 {F0 F1 : Int → Int} {N0 N1 N2 N3 N4 : Int} (H0 : N2 = (-1)+(1)*N1) (H1 : cWlc F0 F1 N0 N2) (H2 : N3 = (-4)+(6)*N1) (H3 : F0 N3 = N4) (H4 : 0 ≤ (0)+(1)*N4) (H5 : 0 ≤ (0)+(-1)*N4) : (cWlc F0 F1 N0 N1) := by
  unfold cWlc at *
  intro x g0 g1
  first | (have c0 : F0 (6*x+2) = F0 (N3) := (ucg F0 (6*x+2) (N3)).resolve_left (fun h => h (by omega))) | (have c0 : (6*x+2) ≠ (N3) := by omega; clear c0) | (have c0 := ucg F0 (6*x+2) (N3))
  have q0 := uni2 (H1 (x))
  clear H1
  omega
theorem L_wcX1 {F0 F1 : Int → Int} {N0 N1 N2 N3 N4 N5 N6 N7 N8 N9 N10 N11 N12 N13 : Int} (H0 : N2 = (-1)+(1)*N1) (H1 : cWlc F0 F1 N0 N2) (H2 : cCurL F0 F1 N3 N4 N5 N6 N7) (H3 : 0 ≤ (-1)+(-1)*N7) (H4 : 0 ≤ (0)+(1)*N2+(-1)*N3) (H5 : 0 ≤ (0)+(1)*N4+(-1)*N1) (H6 : N12 = (-6)+(6)*N1) (H7 : F0 N12 = N8) (H8 : 0 ≤ (-1)+(1)*N5+(-1)*N8) (H9 : N13 = (0)+(7)*N8) (H10 : F1 N13 = N9) (H11 : 0 ≤ (3)+(-1)*N9) : (cWlc F0 F1 N0 N1) := by
  unfold cCurL cWlc at *
  rcases H2 with H2 | H2
  · exfalso; omega
  intro x g0 g1
  first | (have c0 : F0 (6*x) = F0 (N12) := (ucg F0 (6*x) (N12)).resolve_left (fun h => h (by omega))) | (have c0 : (6*x) ≠ (N12) := by omega; clear c0) | (have c0 := ucg F0 (6*x) (N12))
  first | (have c1 : F1 (7*F0 (6*x)) = F1 (N13) := (ucg F1 (7*F0 (6*x)) (N13)).resolve_left (fun h => h (by omega))) | (have c1 : (7*F0 (6*x)) ≠ (N13) := by omega; clear c1) | (have c1 := ucg F1 (7*F0 (6*x)) (N13))
  have q0 := uni2 (H1 (x))
  clear H1
  have q1 := uni2 (H2 (x))
  clear H2
  omega
theorem L_wcX4 {F0 F1 : Int → Int} {N0 N1 N2 N3 N4 N5 N6 N7 N8 N9 N10 N11 N12 N13 N14 : Int} (H0 : N2 = (-1)+(1)*N1) (H1 : cWlc F0 F1 N0 N2) (H2 : cCurL F0 F1 N3 N4 N5 N6 N7) (H3 : 0 ≤ (-1)+(-1)*N7) (H4 : 0 ≤ (0)+(1)*N2+(-1)*N3) (H5 : 0 ≤ (0)+(1)*N4+(-1)*N1) (H6 : N12 = (-6)+(6)*N1) (H7 : F0 N12 = N8) (H8 : 0 ≤ (-1)+(1)*N5+(-1)*N8) (H9 : N13 = (0)+(7)*N8) (H10 : F1 N13 = N9) (H11 : 0 ≤ (-4)+(1)*N9) (H12 : N14 = (4)+(7)*N8) (H13 : F1 N14 = N10) (H14 : 0 ≤ (-6)+(1)*N10) : (cWlc F0 F1 N0 N1) := by
  unfold cCurL cWlc at *
  rcases H2 with H2 | H2
  · exfalso; omega
  intro x g0 g1
  first | (have c0 : F0 (6*x) = F0 (N12) := (ucg F0 (6*x) (N12)).resolve_left (fun h => h (by omega))) | (have c0 : (6*x) ≠ (N12) := by omega; clear c0) | (have c0 := ucg F0 (6*x) (N12))
  first | (have c1 : F1 (7*F0 (6*x)+4) = F1 (N14) := (ucg F1 (7*F0 (6*x)+4) (N14)).resolve_left (fun h => h (by omega))) | (have c1 : (7*F0 (6*x)+4) ≠ (N14) := by omega; clear c1) | (have c1 := ucg F1 (7*F0 (6*x)+4) (N14))
  first | (have c2 : F1 (7*F0 (6*x)) = F1 (N13) := (ucg F1 (7*F0 (6*x)) (N13)).resolve_left (fun h => h (by omega))) | (have c2 : (7*F0 (6*x)) ≠ (N13) := by omega; clear c2) | (have c2 := ucg F1 (7*F0 (6*x)) (N13))
  have q0 := uni2 (H1 (x))
  clear H1
  have q1 := uni2 (H2 (x))
  clear H2
  omega
theorem L_wcX5 {F0 F1 : Int → Int} {N0 N1 N2 N3 N4 N5 N6 N7 N8 N9 N10 N11 N12 N13 N14 N15 : Int} (H0 : N2 = (-1)+(1)*N1) (H1 : cWlc F0 F1 N0 N2) (H2 : cCurL F0 F1 N3 N4 N5 N6 N7) (H3 : 0 ≤ (-1)+(-1)*N7) (H4 : 0 ≤ (0)+(1)*N2+(-1)*N3) (H5 : 0 ≤ (0)+(1)*N4+(-1)*N1) (H6 : N12 = (-6)+(6)*N1) (H7 : F0 N12 = N8) (H8 : 0 ≤ (-1)+(1)*N5+(-1)*N8) (H9 : N13 = (0)+(7)*N8) (H10 : F1 N13 = N9) (H11 : 0 ≤ (-4)+(1)*N9) (H12 : N14 = (4)+(7)*N8) (H13 : F1 N14 = N10) (H14 : 0 ≤ (-5)+(1)*N10) (H15 : N15 = (5)+(7)*N8) (H16 : F1 N15 = N11) (H17 : 0 ≤ (-1)+(-1)*N11) : (cWlc F0 F1 N0 N1) := by
  unfold cCurL cWlc at *
  rcases H2 with H2 | H2
  · exfalso; omega
  intro x g0 g1
  first | (have c0 : F0 (6*x) = F0 (N12) := (ucg F0 (6*x) (N12)).resolve_left (fun h => h (by omega))) | (have c0 : (6*x) ≠ (N12) := by omega; clear c0) | (have c0 := ucg F0 (6*x) (N12))
  first | (have c1 : F1 (7*F0 (6*x)+4) = F1 (N14) := (ucg F1 (7*F0 (6*x)+4) (N14)).resolve_left (fun h => h (by omega))) | (have c1 : (7*F0 (6*x)+4) ≠ (N14) := by omega; clear c1) | (have c1 := ucg F1 (7*F0 (6*x)+4) (N14))
  first | (have c2 : F1 (7*F0 (6*x)) = F1 (N13) := (ucg F1 (7*F0 (6*x)) (N13)).resolve_left (fun h => h (by omega))) | (have c2 : (7*F0 (6*x)) ≠ (N13) := by omega; clear c2) | (have c2 := ucg F1 (7*F0 (6*x)) (N13))
  first | (have c3 : F1 (7*F0 (6*x)+5) = F1 (N15) := (ucg F1 (7*F0 (6*x)+5) (N15)).resolve_left (fun h => h (by omega))) | (have c3 : (7*F0 (6*x)+5) ≠ (N15) := by omega; clear c3) | (have c3 := ucg F1 (7*F0 (6*x)+5) (N15))
  have q0 := uni2 (H1 (x))
  clear H1
  have q1 := uni2 (H2 (x))
  clear H2
  omega
theorem L_cLE {F0 F1 : Int → Int} {N0 N1 N2 N3 N4 : Int} (H0 : 0 ≤ (0)+(1)*N0+(-1)*N1) (H1 : 0 ≤ (0)) (H2 : 0 ≤ (0)) (H3 : 0 ≤ (0)) : (cCurL F0 F1 N0 N1 N2 N3 N4) := by
  unfold cCurL at *
  by_cases ee : 0 ≤ N4
  · exact Or.inl ee
  right
  intro x g0 g1
  omega
theorem L_cLs {F0 F1 : Int → Int} {N0 N1 N2 N3 N4 : Int} (H0 : 0 ≤ (0)+(1)*N4) (H1 : 0 ≤ (0)) (H2 : 0 ≤ (0)) (H3 : 0 ≤ (0)) (H4 : 0 ≤ (0)) : (cCurL F0 F1 N0 N1 N2 N3 N4) := by
  unfold cCurL at *
  by_cases ee : 0 ≤ N4
  · exact Or.inl ee
  right
  intro x g0 g1
  omega
theorem L_cLZ {F0 F1 : Int → Int} {N0 N1 N2 N3 N4 N5 N6 N7 : Int} (H0 : cCurL F0 F1 N5 N1 N2 N6 N7) (H1 : 0 ≤ (0)+(1)*N0+(-1)*N5) (H2 : 0 ≤ (0)+(1)*N3+(-1)*N6) (H3 : 0 ≤ (0)+(1)*N4+(-1)*N7) : (cCurL F0 F1 N0 N1 N2 N3 N4) := by
  unfold cCurL at *
  by_cases ee : 0 ≤ N4
  · exact Or.inl ee
  right
  rcases H0 with H0 | H0
  · exfalso; omega
  intro x g0 g1
  have q0 := uni2 (H0 (x))
  clear H0
  omega
theorem L_cLO {F0 F1 : Int → Int} {N0 N1 N2 N3 N4 N5 N6 N7 : Int} (H0 : cCurL F0 F1 N5 N1 N2 N6 N7) (H1 : 0 ≤ (0)+(1)*N0+(-1)*N5) (H2 : 0 ≤ (0)+(1)*N3+(-1)*N6) (H3 : 0 ≤ (-1)+(-1)*N7) (H4 : 0 ≤ (0)) : (cCurL F0 F1 N0 N1 N2 N3 N4) := by
  unfold cCurL at *
  by_cases ee : 0 ≤ N4
  · exact Or.inl ee
  right
  rcases H0 with H0 | H0
  · exfalso; omega
  intro x g0 g1
  have q0 := uni2 (H0 (x))
  clear H0
  omega
theorem L_cLW {F0 F1 F2 : Int → Int} {N0 N1 N2 N3 N4 N5 N6 : Int} (H0 : ∀ x : Int, F2 x = if x = N5 then N6 else F0 x) (H1 : cCurL F0 F1 N0 N1 N2 N3 N4) (H2 : 0 ≤ (0)+(1)*N5+(-6)*N1) : (cCurL F2 F1 N0 N1 N2 N3 N4) := by
  unfold cCurL at *
  by_cases ee : 0 ≤ N4
  · exact Or.inl ee
  right
  rcases H1 with H1 | H1
  · exfalso; omega
  intro x g0 g1
  first | (have w0 := (uwr2 H0 (6*x)).resolve_left (fun h => by omega)) | (have w0 := (uwr2 H0 (6*x)).resolve_right (fun h => by omega)) | (have w0 := uwr2 H0 (6*x))
  first | (have w1 := (uwr2 H0 (6*x+1)).resolve_left (fun h => by omega)) | (have w1 := (uwr2 H0 (6*x+1)).resolve_right (fun h => by omega)) | (have w1 := uwr2 H0 (6*x+1))
  first | (have w2 := (uwr2 H0 (6*x+2)).resolve_left (fun h => by omega)) | (have w2 := (uwr2 H0 (6*x+2)).resolve_right (fun h => by omega)) | (have w2 := uwr2 H0 (6*x+2))
  first | (have c3 : F1 (7*F0 (6*x)) = F1 (7*F2 (6*x)) := (ucg F1 (7*F0 (6*x)) (7*F2 (6*x))).resolve_left (fun h => h (by omega))) | (have c3 : (7*F0 (6*x)) ≠ (7*F2 (6*x)) := by omega; clear c3) | (have c3 := ucg F1 (7*F0 (6*x)) (7*F2 (6*x)))
  first | (have c4 : F1 (7*F0 (6*x)+4) = F1 (7*F2 (6*x)+4) := (ucg F1 (7*F0 (6*x)+4) (7*F2 (6*x)+4)).resolve_left (fun h => h (by omega))) | (have c4 : (7*F0 (6*x)+4) ≠ (7*F2 (6*x)+4) := by omega; clear c4) | (have c4 := ucg F1 (7*F0 (6*x)+4) (7*F2 (6*x)+4))
  first | (have c5 : F1 (7*F0 (6*x)+5) = F1 (7*F2 (6*x)+5) := (ucg F1 (7*F0 (6*x)+5) (7*F2 (6*x)+5)).resolve_left (fun h => h (by omega))) | (have c5 : (7*F0 (6*x)+5) ≠ (7*F2 (6*x)+5) := by omega; clear c5) | (have c5 := ucg F1 (7*F0 (6*x)+5) (7*F2 (6*x)+5))
  have q0 := uni2 (H1 (x))
  clear H1
  omega
theorem L_cLV {F0 F1 F2 : Int → Int} {N0 N1 N2 N3 N4 N5 N6 : Int} (H0 : ∀ x : Int, F2 x = if x = N5 then N6 else F0 x) (H1 : cCurL F0 F1 N0 N1 N2 N3 N4) (H2 : 0 ≤ (-1)+(6)*N0+(-1)*N5) : (cCurL F2 F1 N0 N1 N2 N3 N4) := by
  unfold cCurL at *
  by_cases ee : 0 ≤ N4
  · exact Or.inl ee
  right
  rcases H1 with H1 | H1
  · exfalso; omega
  intro x g0 g1
  first | (have w0 := (uwr2 H0 (6*x)).resolve_left (fun h => by omega)) | (have w0 := (uwr2 H0 (6*x)).resolve_right (fun h => by omega)) | (have w0 := uwr2 H0 (6*x))
  first | (have w1 := (uwr2 H0 (6*x+1)).resolve_left (fun h => by omega)) | (have w1 := (uwr2 H0 (6*x+1)).resolve_right (fun h => by omega)) | (have w1 := uwr2 H0 (6*x+1))
  first | (have w2 := (uwr2 H0 (6*x+2)).resolve_left (fun h => by omega)) | (have w2 := (uwr2 H0 (6*x+2)).resolve_right (fun h => by omega)) | (have w2 := uwr2 H0 (6*x+2))
  first | (have c3 : F1 (7*F0 (6*x)) = F1 (7*F2 (6*x)) := (ucg F1 (7*F0 (6*x)) (7*F2 (6*x))).resolve_left (fun h => h (by omega))) | (have c3 : (7*F0 (6*x)) ≠ (7*F2 (6*x)) := by omega; clear c3) | (have c3 := ucg F1 (7*F0 (6*x)) (7*F2 (6*x)))
  first | (have c4 : F1 (7*F0 (6*x)+4) = F1 (7*F2 (6*x)+4) := (ucg F1 (7*F0 (6*x)+4) (7*F2 (6*x)+4)).resolve_left (fun h => h (by omega))) | (have c4 : (7*F0 (6*x)+4) ≠ (7*F2 (6*x)+4) := by omega; clear c4) | (have c4 := ucg F1 (7*F0 (6*x)+4) (7*F2 (6*x)+4))
  first | (have c5 : F1 (7*F0 (6*x)+5) = F1 (7*F2 (6*x)+5) := (ucg F1 (7*F0 (6*x)+5) (7*F2 (6*x)+5)).resolve_left (fun h => h (by omega))) | (have c5 : (7*F0 (6*x)+5) ≠ (7*F2 (6*x)+5) := by omega; clear c5) | (have c5 := ucg F1 (7*F0 (6*x)+5) (7*F2 (6*x)+5))
  have q0 := uni2 (H1 (x))
  clear H1
  omega
theorem L_cLX {F0 F1 : Int → Int} {N0 N1 N2 N3 N4 N5 N6 N7 N8 N9 N10 N11 N12 : Int} (H0 : N5 = (-1)+(1)*N1) (H1 : cCurL F0 F1 N0 N5 N2 N6 N4) (H2 : 0 ≤ (0)+(1)*N3+(-1)*N6) (H3 : N7 = (-6)+(6)*N1) (H4 : F0 N7 = N8) (H5 : 0 ≤ (0)+(1)*N8+(-1)*N2) (H6 : 0 ≤ (0)+(1)*N2+(-1)*N8) (H7 : N9 = (-5)+(6)*N1) (H8 : F0 N9 = N10) (H9 : N11 = (-4)+(6)*N1) (H10 : F0 N11 = N12) (H11 : 0 ≤ (0)+(1)*N10) (H12 : 0 ≤ (0)+(1)*N12) (H13 : 0 ≤ (0)+(1)*N3+(-1)*N10+(-1)*N12) : (cCurL F0 F1 N0 N1 N2 N3 N4) := by
  unfold cCurL at *
  by_cases ee : 0 ≤ N4
  · exact Or.inl ee
  right
  rcases H1 with H1 | H1
  · exfalso; omega
  intro x g0 g1
  first | (have c0 : F0 (6*x) = F0 (N7) := (ucg F0 (6*x) (N7)).resolve_left (fun h => h (by omega))) | (have c0 : (6*x) ≠ (N7) := by omega; clear c0) | (have c0 := ucg F0 (6*x) (N7))
  first | (have c1 : F0 (6*x+1) = F0 (N9) := (ucg F0 (6*x+1) (N9)).resolve_left (fun h => h (by omega))) | (have c1 : (6*x+1) ≠ (N9) := by omega; clear c1) | (have c1 := ucg F0 (6*x+1) (N9))
  first | (have c2 : F0 (6*x+2) = F0 (N11) := (ucg F0 (6*x+2) (N11)).resolve_left (fun h => h (by omega))) | (have c2 : (6*x+2) ≠ (N11) := by omega; clear c2) | (have c2 := ucg F0 (6*x+2) (N11))
  have q0 := uni2 (H1 (x))
  clear H1
  omega
theorem L_cLS {F0 F1 F2 : Int → Int} {N0 N1 N2 N3 N4 N5 N6 : Int} (H0 : ∀ x : Int, F2 x = if x = N5 then N6 else F1 x) (H1 : cCurL F0 F1 N0 N1 N2 N3 N4) (H2 : 0 ≤ (0)+(1)*N5+(-7)*N2) : (cCurL F0 F2 N0 N1 N2 N3 N4) := by
  unfold cCurL at *
  by_cases ee : 0 ≤ N4
  · exact Or.inl ee
  right
  rcases H1 with H1 | H1
  · exfalso; omega
  intro x g0 g1
  first | (have w0 := (uwr2 H0 (7*F0 (6*x))).resolve_left (fun h => by omega)) | (have w0 := (uwr2 H0 (7*F0 (6*x))).resolve_right (fun h => by omega)) | (have w0 := uwr2 H0 (7*F0 (6*x)))
  first | (have w1 := (uwr2 H0 (7*F0 (6*x)+4)).resolve_left (fun h => by omega)) | (have w1 := (uwr2 H0 (7*F0 (6*x)+4)).resolve_right (fun h => by omega)) | (have w1 := uwr2 H0 (7*F0 (6*x)+4))
  first | (have w2 := (uwr2 H0 (7*F0 (6*x)+5)).resolve_left (fun h => by omega)) | (have w2 := (uwr2 H0 (7*F0 (6*x)+5)).resolve_right (fun h => by omega)) | (have w2 := uwr2 H0 (7*F0 (6*x)+5))
  have q0 := uni2 (H1 (x))
  clear H1
  omega
theorem L_cLT {F0 F1 F2 : Int → Int} {N0 N1 N2 N3 N4 N5 N6 N7 N8 N9 N10 N11 : Int} (H0 : ∀ x : Int, F2 x = if x = N5 then N6 else F1 x) (H1 : cUs N10 N11) (H2 : cCurL F0 F1 N0 N1 N2 N3 N4) (H3 : 0 ≤ (-1)+(1)*N5+(-7)*N10) (H4 : 0 ≤ (3)+(7)*N10+(-1)*N5) : (cCurL F0 F2 N0 N1 N2 N3 N4) := by
  unfold cCurL cUs at *
  by_cases ee : 0 ≤ N4
  · exact Or.inl ee
  right
  rcases H2 with H2 | H2
  · exfalso; omega
  intro x g0 g1
  first | (have w0 := (uwr2 H0 (7*F0 (6*x))).resolve_left (fun h => by omega)) | (have w0 := (uwr2 H0 (7*F0 (6*x))).resolve_right (fun h => by omega)) | (have w0 := uwr2 H0 (7*F0 (6*x)))
  first | (have w1 := (uwr2 H0 (7*F0 (6*x)+4)).resolve_left (fun h => by omega)) | (have w1 := (uwr2 H0 (7*F0 (6*x)+4)).resolve_right (fun h => by omega)) | (have w1 := uwr2 H0 (7*F0 (6*x)+4))
  first | (have w2 := (uwr2 H0 (7*F0 (6*x)+5)).resolve_left (fun h => by omega)) | (have w2 := (uwr2 H0 (7*F0 (6*x)+5)).resolve_right (fun h => by omega)) | (have w2 := uwr2 H0 (7*F0 (6*x)+5))
  have q1 := uni2 (H2 (x))
  clear H2
  omega
theorem L_cLL0 {F0 F1 F2 : Int → Int} {N0 N1 N2 N3 N4 N5 N6 N7 N8 N9 N10 N11 N12 N13 : Int} (H0 : ∀ x : Int, F2 x = if x = N5 then N6 else F1 x) (H1 : cUs N10 N11) (H2 : cCurL F0 F1 N0 N1 N2 N3 N4) (H3 : 0 ≤ (-4)+(1)*N5+(-7)*N10) (H4 : 0 ≤ (4)+(7)*N10+(-1)*N5) (H5 : N13 = (0)+(7)*N10) (H6 : F1 N13 = N12) (H7 : 0 ≤ (-2)+(1)*N12) (H8 : 0 ≤ (2)+(-1)*N12) : (cCurL F0 F2 N0 N1 N2 N3 N4) := by
  unfold cCurL cUs at *
  by_cases ee : 0 ≤ N4
  · exact Or.inl ee
  right
  rcases H2 with H2 | H2
  · exfalso; omega
  intro x g0 g1
  first | (have w0 := (uwr2 H0 (7*F0 (6*x))).resolve_left (fun h => by omega)) | (have w0 := (uwr2 H0 (7*F0 (6*x))).resolve_right (fun h => by omega)) | (have w0 := uwr2 H0 (7*F0 (6*x)))
  first | (have w1 := (uwr2 H0 (7*F0 (6*x)+4)).resolve_left (fun h => by omega)) | (have w1 := (uwr2 H0 (7*F0 (6*x)+4)).resolve_right (fun h => by omega)) | (have w1 := uwr2 H0 (7*F0 (6*x)+4))
  first | (have w2 := (uwr2 H0 (7*F0 (6*x)+5)).resolve_left (fun h => by omega)) | (have w2 := (uwr2 H0 (7*F0 (6*x)+5)).resolve_right (fun h => by omega)) | (have w2 := uwr2 H0 (7*F0 (6*x)+5))
  first | (have c3 : F1 (7*F0 (6*x)) = F1 (N13) := (ucg F1 (7*F0 (6*x)) (N13)).resolve_left (fun h => h (by omega))) | (have c3 : (7*F0 (6*x)) ≠ (N13) := by omega; clear c3) | (have c3 := ucg F1 (7*F0 (6*x)) (N13))
  have q1 := uni2 (H2 (x))
  clear H2
  omega
theorem L_cLL1 {F0 F1 F2 : Int → Int} {N0 N1 N2 N3 N4 N5 N6 N7 N8 N9 N10 N11 N12 N13 : Int} (H0 : ∀ x : Int, F2 x = if x = N5 then N6 else F1 x) (H1 : cUs N10 N11) (H2 : cCurL F0 F1 N0 N1 N2 N3 N4) (H3 : 0 ≤ (-4)+(1)*N5+(-7)*N10) (H4 : 0 ≤ (4)+(7)*N10+(-1)*N5) (H5 : N13 = (0)+(7)*N10) (H6 : F1 N13 = N12) (H7 : 0 ≤ (-4)+(1)*N12) : (cCurL F0 F2 N0 N1 N2 N3 N4) := by
  unfold cCurL cUs at *
  by_cases ee : 0 ≤ N4
  · exact Or.inl ee
  right
  rcases H2 with H2 | H2
  · exfalso; omega
  intro x g0 g1
  first | (have w0 := (uwr2 H0 (7*F0 (6*x))).resolve_left (fun h => by omega)) | (have w0 := (uwr2 H0 (7*F0 (6*x))).resolve_right (fun h => by omega)) | (have w0 := uwr2 H0 (7*F0 (6*x)))
  first | (have w1 := (uwr2 H0 (7*F0 (6*x)+4)).resolve_left (fun h => by omega)) | (have w1 := (uwr2 H0 (7*F0 (6*x)+4)).resolve_right (fun h => by omega)) | (have w1 := uwr2 H0 (7*F0 (6*x)+4))
  first | (have w2 := (uwr2 H0 (7*F0 (6*x)+5)).resolve_left (fun h => by omega)) | (have w2 := (uwr2 H0 (7*F0 (6*x)+5)).resolve_right (fun h => by omega)) | (have w2 := uwr2 H0 (7*F0 (6*x)+5))
  first | (have c3 : F1 (7*F0 (6*x)) = F1 (N13) := (ucg F1 (7*F0 (6*x)) (N13)).resolve_left (fun h => h (by omega))) | (have c3 : (7*F0 (6*x)) ≠ (N13) := by omega; clear c3) | (have c3 := ucg F1 (7*F0 (6*x)) (N13))
  have q1 := uni2 (H2 (x))
  clear H2
  omega
theorem L_cLK {F0 F1 F2 : Int → Int} {N0 N1 N2 N3 N4 N5 N6 N7 N8 N9 N10 N11 N12 : Int} (H0 : ∀ x : Int, F2 x = if x = N5 then N6 else F1 x) (H1 : cUs N10 N11) (H2 : cCurL F0 F1 N0 N1 N2 N3 N4) (H3 : 0 ≤ (0)+(1)*N5+(-7)*N10) (H4 : 0 ≤ (0)+(7)*N10+(-1)*N5) (H5 : F1 N5 = N12) (H6 : 0 ≤ (-4)+(1)*N12) (H7 : 0 ≤ (-4)+(1)*N6) : (cCurL F0 F2 N0 N1 N2 N3 N4) := by
  unfold cCurL cUs at *
  by_cases ee : 0 ≤ N4
  · exact Or.inl ee
  right
  rcases H2 with H2 | H2
  · exfalso; omega
  intro x g0 g1
  first | (have w0 := (uwr2 H0 (7*F0 (6*x))).resolve_left (fun h => by omega)) | (have w0 := (uwr2 H0 (7*F0 (6*x))).resolve_right (fun h => by omega)) | (have w0 := uwr2 H0 (7*F0 (6*x)))
  first | (have w1 := (uwr2 H0 (7*F0 (6*x)+4)).resolve_left (fun h => by omega)) | (have w1 := (uwr2 H0 (7*F0 (6*x)+4)).resolve_right (fun h => by omega)) | (have w1 := uwr2 H0 (7*F0 (6*x)+4))
  first | (have w2 := (uwr2 H0 (7*F0 (6*x)+5)).resolve_left (fun h => by omega)) | (have w2 := (uwr2 H0 (7*F0 (6*x)+5)).resolve_right (fun h => by omega)) | (have w2 := uwr2 H0 (7*F0 (6*x)+5))
  first | (have c3 : F1 (7*F0 (6*x)) = F1 (N5) := (ucg F1 (7*F0 (6*x)) (N5)).resolve_left (fun h => h (by omega))) | (have c3 : (7*F0 (6*x)) ≠ (N5) := by omega; clear c3) | (have c3 := ucg F1 (7*F0 (6*x)) (N5))
  first | (have c4 : F1 (7*F0 (6*x)+4) = F1 (N5) := (ucg F1 (7*F0 (6*x)+4) (N5)).resolve_left (fun h => h (by omega))) | (have c4 : (7*F0 (6*x)+4) ≠ (N5) := by omega; clear c4) | (have c4 := ucg F1 (7*F0 (6*x)+4) (N5))
  first | (have c5 : F1 (7*F0 (6*x)+5) = F1 (N5) := (ucg F1 (7*F0 (6*x)+5) (N5)).resolve_left (fun h => h (by omega))) | (have c5 : (7*F0 (6*x)+5) ≠ (N5) := by omega; clear c5) | (have c5 := ucg F1 (7*F0 (6*x)+5) (N5))
  have q1 := uni2 (H2 (x))
  clear H2
  omega
theorem L_cLA0 {F0 F1 : Int → Int} {N0 N1 N2 N3 N4 N5 N6 N7 N8 N9 N10 : Int} (H0 : N5 = (-1)+(1)*N2) (H1 : cCurL F0 F1 N0 N1 N5 N6 N4) (H2 : N7 = (-7)+(7)*N2) (H3 : F1 N7 = N8) (H4 : 0 ≤ (1)+(-1)*N8) (H5 : N9 = (-3)+(7)*N2) (H6 : F1 N9 = N10) (H7 : 0 ≤ (0)+(1)*N10+(-1)*N6) (H8 : 0 ≤ (0)) : (cCurL F0 F1 N0 N1 N2 N3 N4) := by
  unfold cCurL at *
  by_cases ee : 0 ≤ N4
  · exact Or.inl ee
  right
  rcases H1 with H1 | H1
  · exfalso; omega
  intro x g0 g1
  first | (have c0 : F1 (7*F0 (6*x)) = F1 (N7) := (ucg F1 (7*F0 (6*x)) (N7)).resolve_left (fun h => h (by omega))) | (have c0 : (7*F0 (6*x)) ≠ (N7) := by omega; clear c0) | (have c0 := ucg F1 (7*F0 (6*x)) (N7))
  first | (have c1 : F1 (7*F0 (6*x)+4) = F1 (N9) := (ucg F1 (7*F0 (6*x)+4) (N9)).resolve_left (fun h => h (by omega))) | (have c1 : (7*F0 (6*x)+4) ≠ (N9) := by omega; clear c1) | (have c1 := ucg F1 (7*F0 (6*x)+4) (N9))
  have q0 := uni2 (H1 (x))
  clear H1
  omega
theorem L_cLA1 {F0 F1 : Int → Int} {N0 N1 N2 N3 N4 N5 N6 N7 N8 N9 N10 : Int} (H0 : N5 = (-1)+(1)*N2) (H1 : cCurL F0 F1 N0 N1 N5 N6 N4) (H2 : N7 = (-7)+(7)*N2) (H3 : F1 N7 = N8) (H4 : 0 ≤ (-3)+(1)*N8) (H5 : 0 ≤ (3)+(-1)*N8) (H6 : N9 = (-3)+(7)*N2) (H7 : F1 N9 = N10) (H8 : 0 ≤ (0)+(1)*N10+(-1)*N6) (H9 : 0 ≤ (0)) : (cCurL F0 F1 N0 N1 N2 N3 N4) := by
  unfold cCurL at *
  by_cases ee : 0 ≤ N4
  · exact Or.inl ee
  right
  rcases H1 with H1 | H1
  · exfalso; omega
  intro x g0 g1
  first | (have c0 : F1 (7*F0 (6*x)) = F1 (N7) := (ucg F1 (7*F0 (6*x)) (N7)).resolve_left (fun h => h (by omega))) | (have c0 : (7*F0 (6*x)) ≠ (N7) := by omega; clear c0) | (have c0 := ucg F1 (7*F0 (6*x)) (N7))
  first | (have c1 : F1 (7*F0 (6*x)+4) = F1 (N9) := (ucg F1 (7*F0 (6*x)+4) (N9)).resolve_left (fun h => h (by omega))) | (have c1 : (7*F0 (6*x)+4) ≠ (N9) := by omega; clear c1) | (have c1 := ucg F1 (7*F0 (6*x)+4) (N9))
  have q0 := uni2 (H1 (x))
  clear H1
  omega
theorem L_cLA2 {F0 F1 : Int → Int} {N0 N1 N2 N3 N4 N5 N6 N7 N8 : Int} (H0 : N5 = (-1)+(1)*N2) (H1 : cCurL F0 F1 N0 N1 N5 N6 N4) (H2 : N7 = (-7)+(7)*N2) (H3 : F1 N7 = N8) (H4 : 0 ≤ (-1)+(-1)*N6) (H5 : 0 ≤ (0)) : (cCurL F0 F1 N0 N1 N2 N3 N4) := by
  unfold cCurL at *
  by_cases ee : 0 ≤ N4
  · exact Or.inl ee
  right
  rcases H1 with H1 | H1
  · exfalso; omega
  intro x g0 g1
  first | (have c0 : F1 (7*F0 (6*x)) = F1 (N7) := (ucg F1 (7*F0 (6*x)) (N7)).resolve_left (fun h => h (by omega))) | (have c0 : (7*F0 (6*x)) ≠ (N7) := by omega; clear c0) | (have c0 := ucg F1 (7*F0 (6*x)) (N7))
  have q0 := uni2 (H1 (x))
  clear H1
  omega
theorem L_cLA3 {F0 F1 : Int → Int} {N0 N1 N2 N3 N4 N5 N6 N7 N8 : Int} (H0 : N5 = (-1)+(1)*N2) (H1 : cCurL F0 F1 N0 N1 N5 N6 N4) (H2 : N7 = (-7)+(7)*N2) (H3 : F1 N7 = N8) (H4 : 0 ≤ (-4)+(1)*N8) (H5 : 0 ≤ (5)+(-1)*N6) (H6 : 0 ≤ (0)) : (cCurL F0 F1 N0 N1 N2 N3 N4) := by
  unfold cCurL at *
  by_cases ee : 0 ≤ N4
  · exact Or.inl ee
  right
  rcases H1 with H1 | H1
  · exfalso; omega
  intro x g0 g1
  first | (have c0 : F1 (7*F0 (6*x)) = F1 (N7) := (ucg F1 (7*F0 (6*x)) (N7)).resolve_left (fun h => h (by omega))) | (have c0 : (7*F0 (6*x)) ≠ (N7) := by omega; clear c0) | (have c0 := ucg F1 (7*F0 (6*x)) (N7))
  have q0 := uni2 (H1 (x))
  clear H1
  omega
theorem L_cLA4 {F0 F1 : Int → Int} {N0 N1 N2 N3 N4 N5 N6 N7 N8 N9 N10 : Int} (H0 : N5 = (-1)+(1)*N2) (H1 : cCurL F0 F1 N0 N1 N5 N6 N4) (H2 : N7 = (-7)+(7)*N2) (H3 : F1 N7 = N8) (H4 : 0 ≤ (-4)+(1)*N8) (H5 : 0 ≤ (6)+(-1)*N6) (H6 : N9 = (-2)+(7)*N2) (H7 : F1 N9 = N10) (H8 : 0 ≤ (0)+(1)*N10) (H9 : 0 ≤ (0)) : (cCurL F0 F1 N0 N1 N2 N3 N4) := by
  unfold cCurL at *
  by_cases ee : 0 ≤ N4
  · exact Or.inl ee
  right
  rcases H1 with H1 | H1
  · exfalso; omega
  intro x g0 g1
  first | (have c0 : F1 (7*F0 (6*x)) = F1 (N7) := (ucg F1 (7*F0 (6*x)) (N7)).resolve_left (fun h => h (by omega))) | (have c0 : (7*F0 (6*x)) ≠ (N7) := by omega; clear c0) | (have c0 := ucg F1 (7*F0 (6*x)) (N7))
  first | (have c1 : F1 (7*F0 (6*x)+5) = F1 (N9) := (ucg F1 (7*F0 (6*x)+5) (N9)).resolve_left (fun h => h (by omega))) | (have c1 : (7*F0 (6*x)+5) ≠ (N9) := by omega; clear c1) | (have c1 := ucg F1 (7*F0 (6*x)+5) (N9))
  have q0 := uni2 (H1 (x))
  clear H1
  omega
theorem L_ak0 {N0 N1 : Int} (H0 : 0 ≤ (1)+(-1)*N0) (H1 : 0 ≤ (0)) : (cAlk N0 N1) := by
  unfold cAlk at *
  omega
theorem L_ak1 {N0 N1 : Int} (H0 : 0 ≤ (-3)+(1)*N0) (H1 : 0 ≤ (0)) : (cAlk N0 N1) := by
  unfold cAlk at *
  omega
theorem L_ak2 {N0 N1 : Int} (H0 : cPw2 N1) (H1 : 0 ≤ (0)) : (cAlk N0 N1) := by
  unfold cAlk cPw2 at *
  omega
theorem L_alA {F0 : Int → Int} {N0 N1 N2 N3 N4 N5 N6 N7 N8 : Int} (H0 : N2 = (-1)+(1)*N1) (H1 : cAlgn F0 N0 N2) (H2 : N3 = (-7)+(7)*N1) (H3 : F0 N3 = N4) (H4 : N5 = (-2)+(7)*N1) (H5 : F0 N5 = N6) (H6 : cAlk N7 N8) (H7 : 0 ≤ (0)+(1)*N7+(-1)*N4) (H8 : 0 ≤ (0)+(1)*N4+(-1)*N7) (H9 : 0 ≤ (0)+(1)*N8+(-1)*N6) (H10 : 0 ≤ (0)+(1)*N6+(-1)*N8) : (cAlgn F0 N0 N1) := by
  unfold cAlgn cAlk at *
  intro x g0 g1
  by_cases c : x < N2
  · exact H1 x g0 c
  · have e3 : N3 = 7*x := by omega
    have e5 : N5 = 7*x+5 := by omega
    have e7 : N7 = N4 := by omega
    have e8 : N8 = N6 := by omega
    subst e3; subst e5; subst e7; subst e8
    rw [H3, H5]; exact H6
theorem L_jwE {F0 F1 : Int → Int} {N0 N1 N2 N3 : Int} (H0 : 0 ≤ (0)+(1)*N0+(-1)*N1) (H1 : 0 ≤ (0)) (H2 : 0 ≤ (0)) : (cJwo F0 F1 N0 N1 N2 N3) := by
  unfold cJwo at *
  by_cases ee : 0 ≤ N3
  · exact Or.inl ee
  right
  intro x g0 g1
  omega
theorem L_jws {F0 F1 : Int → Int} {N0 N1 N2 N3 : Int} (H0 : 0 ≤ (0)+(1)*N3) (H1 : 0 ≤ (0)) (H2 : 0 ≤ (0)) (H3 : 0 ≤ (0)) : (cJwo F0 F1 N0 N1 N2 N3) := by
  unfold cJwo at *
  by_cases ee : 0 ≤ N3
  · exact Or.inl ee
  right
  intro x g0 g1
  omega
theorem L_jwZ {F0 F1 : Int → Int} {N0 N1 N2 N3 N4 N5 : Int} (H0 : cJwo F0 F1 N0 N1 N4 N5) (H1 : 0 ≤ (0)+(1)*N2+(-1)*N4) (H2 : 0 ≤ (0)+(1)*N3+(-1)*N5) : (cJwo F0 F1 N0 N1 N2 N3) := by
  unfold cJwo at *
  by_cases ee : 0 ≤ N3
  · exact Or.inl ee
  right
  rcases H0 with H0 | H0
  · exfalso; omega
  intro x g0 g1
  have q0 := uni2 (H0 (x))
  clear H0
  omega
theorem L_jwO {F0 F1 : Int → Int} {N0 N1 N2 N3 N4 N5 : Int} (H0 : cJwo F0 F1 N0 N1 N4 N5) (H1 : 0 ≤ (0)+(1)*N2+(-1)*N4) (H2 : 0 ≤ (-1)+(-1)*N5) (H3 : 0 ≤ (0)) : (cJwo F0 F1 N0 N1 N2 N3) := by
  unfold cJwo at *
  by_cases ee : 0 ≤ N3
  · exact Or.inl ee
  right
  rcases H0 with H0 | H0
  · exfalso; omega
  intro x g0 g1
  have q0 := uni2 (H0 (x))
  clear H0
  omega
theorem L_jwS {F0 F1 F2 : Int → Int} {N0 N1 N2 N3 N4 N5 : Int} (H0 : ∀ x : Int, F2 x = if x = N4 then N5 else F0 x) (H1 : cJwo F0 F1 N0 N1 N2 N3) (H2 : 0 ≤ (0)+(1)*N4+(-7)*N1) : (cJwo F2 F1 N0 N1 N2 N3) := by
  unfold cJwo at *
  by_cases ee : 0 ≤ N3
  · exact Or.inl ee
  right
  rcases H1 with H1 | H1
  · exfalso; omega
  intro x g0 g1
  first | (have w0 := (uwr2 H0 (7*x)).resolve_left (fun h => by omega)) | (have w0 := (uwr2 H0 (7*x)).resolve_right (fun h => by omega)) | (have w0 := uwr2 H0 (7*x))
  first | (have w1 := (uwr2 H0 (7*x+6)).resolve_left (fun h => by omega)) | (have w1 := (uwr2 H0 (7*x+6)).resolve_right (fun h => by omega)) | (have w1 := uwr2 H0 (7*x+6))
  first | (have c2 : F1 (6*F0 (7*x+6)) = F1 (6*F2 (7*x+6)) := (ucg F1 (6*F0 (7*x+6)) (6*F2 (7*x+6))).resolve_left (fun h => h (by omega))) | (have c2 : (6*F0 (7*x+6)) ≠ (6*F2 (7*x+6)) := by omega; clear c2) | (have c2 := ucg F1 (6*F0 (7*x+6)) (6*F2 (7*x+6)))
  have q0 := uni2 (H1 (x))
  clear H1
  omega
theorem L_jwW {F0 F1 F2 : Int → Int} {N0 N1 N2 N3 N4 N5 : Int} (H0 : ∀ x : Int, F2 x = if x = N4 then N5 else F1 x) (H1 : cJwo F0 F1 N0 N1 N2 N3) (H2 : 0 ≤ (0)+(1)*N4+(-6)*N2) : (cJwo F0 F2 N0 N1 N2 N3) := by
  unfold cJwo at *
  by_cases ee : 0 ≤ N3
  · exact Or.inl ee
  right
  rcases H1 with H1 | H1
  · exfalso; omega
  intro x g0 g1
  first | (have w0 := (uwr2 H0 (6*F0 (7*x+6))).resolve_left (fun h => by omega)) | (have w0 := (uwr2 H0 (6*F0 (7*x+6))).resolve_right (fun h => by omega)) | (have w0 := uwr2 H0 (6*F0 (7*x+6)))
  have q0 := uni2 (H1 (x))
  clear H1
  omega
theorem L_jwV {F0 F1 F2 : Int → Int} {N0 N1 N2 N3 N4 N5 N6 N7 N8 N9 N10 N11 : Int} (H0 : ∀ x : Int, F2 x = if x = N4 then N5 else F0 x) (H1 : cUs N10 N11) (H2 : cJwo F0 F1 N0 N1 N2 N3) (H3 : 0 ≤ (-1)+(1)*N4+(-7)*N10) (H4 : 0 ≤ (5)+(7)*N10+(-1)*N4) : (cJwo F2 F1 N0 N1 N2 N3) := by
  unfold cJwo cUs at *
  by_cases ee : 0 ≤ N3
  · exact Or.inl ee
  right
  rcases H2 with H2 | H2
  · exfalso; omega
  intro x g0 g1
  first | (have w0 := (uwr2 H0 (7*x)).resolve_left (fun h => by omega)) | (have w0 := (uwr2 H0 (7*x)).resolve_right (fun h => by omega)) | (have w0 := uwr2 H0 (7*x))
  first | (have w1 := (uwr2 H0 (7*x+6)).resolve_left (fun h => by omega)) | (have w1 := (uwr2 H0 (7*x+6)).resolve_right (fun h => by omega)) | (have w1 := uwr2 H0 (7*x+6))
  first | (have c2 : F1 (6*F0 (7*x+6)) = F1 (6*F2 (7*x+6)) := (ucg F1 (6*F0 (7*x+6)) (6*F2 (7*x+6))).resolve_left (fun h => h (by omega))) | (have c2 : (6*F0 (7*x+6)) ≠ (6*F2 (7*x+6)) := by omega; clear c2) | (have c2 := ucg F1 (6*F0 (7*x+6)) (6*F2 (7*x+6)))
  have q1 := uni2 (H2 (x))
  clear H2
  omega
theorem L_jwK {F0 F1 F2 : Int → Int} {N0 N1 N2 N3 N4 N5 N6 N7 N8 N9 N10 N11 : Int} (H0 : ∀ x : Int, F2 x = if x = N4 then N5 else F0 x) (H1 : cUs N10 N11) (H2 : cJwo F0 F1 N0 N1 N2 N3) (H3 : 0 ≤ (0)+(1)*N4+(-7)*N10) (H4 : 0 ≤ (0)+(7)*N10+(-1)*N4) (H5 : F0 N4 = N6) (H6 : 0 ≤ (-4)+(1)*N6) : (cJwo F2 F1 N0 N1 N2 N3) := by
  unfold cJwo cUs at *
  by_cases ee : 0 ≤ N3
  · exact Or.inl ee
  right
  rcases H2 with H2 | H2
  · exfalso; omega
  intro x g0 g1
  first | (have w0 := (uwr2 H0 (7*x)).resolve_left (fun h => by omega)) | (have w0 := (uwr2 H0 (7*x)).resolve_right (fun h => by omega)) | (have w0 := uwr2 H0 (7*x))
  first | (have w1 := (uwr2 H0 (7*x+6)).resolve_left (fun h => by omega)) | (have w1 := (uwr2 H0 (7*x+6)).resolve_right (fun h => by omega)) | (have w1 := uwr2 H0 (7*x+6))
  first | (have c2 : F0 (7*x) = F0 (N4) := (ucg F0 (7*x) (N4)).resolve_left (fun h => h (by omega))) | (have c2 : (7*x) ≠ (N4) := by omega; clear c2) | (have c2 := ucg F0 (7*x) (N4))
  first | (have c3 : F0 (7*x+6) = F0 (N4) := (ucg F0 (7*x+6) (N4)).resolve_left (fun h => h (by omega))) | (have c3 : (7*x+6) ≠ (N4) := by omega; clear c3) | (have c3 := ucg F0 (7*x+6) (N4))
  first | (have c4 : F1 (6*F0 (7*x+6)) = F1 (6*F2 (7*x+6)) := (ucg F1 (6*F0 (7*x+6)) (6*F2 (7*x+6))).resolve_left (fun h => h (by omega))) | (have c4 : (6*F0 (7*x+6)) ≠ (6*F2 (7*x+6)) := by omega; clear c4) | (have c4 := ucg F1 (6*F0 (7*x+6)) (6*F2 (7*x+6)))
  have q1 := uni2 (H2 (x))
  clear H2
  omega
theorem L_jwX {F0 F1 : Int → Int} {N0 N1 N2 N3 N4 N5 N6 : Int} (H0 : N4 = (-1)+(1)*N1) (H1 : cJwo F0 F1 N0 N4 N2 N3) (H2 : N5 = (-7)+(7)*N1) (H3 : F0 N5 = N6) (H4 : 0 ≤ (3)+(-1)*N6) : (cJwo F0 F1 N0 N1 N2 N3) := by
  unfold cJwo at *
  by_cases ee : 0 ≤ N3
  · exact Or.inl ee
  right
  rcases H1 with H1 | H1
  · exfalso; omega
  intro x g0 g1
  first | (have c0 : F0 (7*x) = F0 (N5) := (ucg F0 (7*x) (N5)).resolve_left (fun h => h (by omega))) | (have c0 : (7*x) ≠ (N5) := by omega; clear c0) | (have c0 := ucg F0 (7*x) (N5))
  have q0 := uni2 (H1 (x))
  clear H1
  omega
theorem L_jwY {F0 F1 : Int → Int} {N0 N1 N2 N3 N4 N5 N6 N7 N8 : Int} (H0 : N4 = (-1)+(1)*N1) (H1 : cJwo F0 F1 N0 N4 N2 N3) (H2 : N5 = (-1)+(7)*N1) (H3 : F0 N5 = N6) (H4 : N7 = (0)+(6)*N6) (H5 : F1 N7 = N8) (H6 : 0 ≤ (0)+(1)*N8+(-1)*N4) (H7 : 0 ≤ (0)+(1)*N4+(-1)*N8) (H8 : 0 ≤ (0)+(1)*N6) (H9 : 0 ≤ (-1)+(1)*N2+(-1)*N6) : (cJwo F0 F1 N0 N1 N2 N3) := by
  unfold cJwo at *
  by_cases ee : 0 ≤ N3
  · exact Or.inl ee
  right
  rcases H1 with H1 | H1
  · exfalso; omega
  intro x g0 g1
  first | (have c0 : F0 (7*x+6) = F0 (N5) := (ucg F0 (7*x+6) (N5)).resolve_left (fun h => h (by omega))) | (have c0 : (7*x+6) ≠ (N5) := by omega; clear c0) | (have c0 := ucg F0 (7*x+6) (N5))
  first | (have c1 : F1 (6*F0 (7*x+6)) = F1 (N7) := (ucg F1 (6*F0 (7*x+6)) (N7)).resolve_left (fun h => h (by omega))) | (have c1 : (6*F0 (7*x+6)) ≠ (N7) := by omega; clear c1) | (have c1 := ucg F1 (6*F0 (7*x+6)) (N7))
  have q0 := uni2 (H1 (x))
  clear H1
  omega
theorem L_jwQ {F0 F1 : Int → Int} {N0 N1 N2 N3 N4 N5 N6 N7 N8 N9 N10 N11 : Int} (H0 : N4 = (-1)+(1)*N1) (H1 : cJwo F0 F1 N0 N4 N2 N3) (H2 : cJwa F1 N4 N2 N5 N3) (H3 : N6 = (-7)+(7)*N1) (H4 : F0 N6 = N7) (H5 : 0 ≤ (0)+(1)*N7+(-1)*N5) (H6 : 0 ≤ (0)+(1)*N5+(-1)*N7) (H7 : N8 = (-1)+(7)*N1) (H8 : F0 N8 = N11) (H9 : 0 ≤ (1)+(1)*N11+(-1)*N2) (H10 : 0 ≤ (-1)+(1)*N2+(-1)*N11) : (cJwo F0 F1 N0 N1 N2 N3) := by
  unfold cJwa cJwo at *
  by_cases ee : 0 ≤ N3
  · exact Or.inl ee
  right
  rcases H1 with H1 | H1
  · exfalso; omega
  intro x g0 g1
  first | (have c0 : F0 (7*x) = F0 (N6) := (ucg F0 (7*x) (N6)).resolve_left (fun h => h (by omega))) | (have c0 : (7*x) ≠ (N6) := by omega; clear c0) | (have c0 := ucg F0 (7*x) (N6))
  first | (have c1 : F0 (7*x+6) = F0 (N8) := (ucg F0 (7*x+6) (N8)).resolve_left (fun h => h (by omega))) | (have c1 : (7*x+6) ≠ (N8) := by omega; clear c1) | (have c1 := ucg F0 (7*x+6) (N8))
  first | (have c2 : F1 (6*(N2-1)) = F1 (6*F0 (7*x+6)) := (ucg F1 (6*(N2-1)) (6*F0 (7*x+6))).resolve_left (fun h => h (by omega))) | (have c2 : (6*(N2-1)) ≠ (6*F0 (7*x+6)) := by omega; clear c2) | (have c2 := ucg F1 (6*(N2-1)) (6*F0 (7*x+6)))
  have q0 := uni2 (H1 (x))
  clear H1
  omega
theorem L_jy0 {F0 F1 : Int → Int} {N0 N1 N2 N3 N4 : Int} (H0 : 0 ≤ (3)+(-1)*N2) (H1 : 0 ≤ (0)) (H2 : 0 ≤ (0)) (H3 : 0 ≤ (0)) (H4 : 0 ≤ (0)) : (cJwa F1 N0 N1 N2 N3) := by
  unfold cJwa at *
  omega
theorem L_jys {F0 F1 : Int → Int} {N0 N1 N2 N3 N4 : Int} (H0 : 0 ≤ (0)+(1)*N3) (H1 : 0 ≤ (0)) (H2 : 0 ≤ (0)) (H3 : 0 ≤ (0)) (H4 : 0 ≤ (0)) : (cJwa F1 N0 N1 N2 N3) := by
  unfold cJwa at *
  omega
theorem L_jyX {F0 F1 : Int → Int} {N0 N1 N2 N3 N4 N5 N6 : Int} (H0 : 0 ≤ (-1)+(1)*N1) (H1 : N5 = (-6)+(6)*N1) (H2 : F1 N5 = N6) (H3 : 0 ≤ (0)+(1)*N6+(-1)*N0) (H4 : 0 ≤ (0)+(1)*N0+(-1)*N6) (H5 : 0 ≤ (0)) (H6 : 0 ≤ (0)) (H7 : 0 ≤ (0)) : (cJwa F1 N0 N1 N2 N3) := by
  unfold cJwa at *
  first | (have c0 : F1 (6*(N1-1)) = F1 (N5) := (ucg F1 (6*(N1-1)) (N5)).resolve_left (fun h => h (by omega))) | (have c0 : (6*(N1-1)) ≠ (N5) := by omega; clear c0) | (have c0 := ucg F1 (6*(N1-1)) (N5))
  omega
theorem L_jyW {F0 F1 F2 : Int → Int} {N0 N1 N2 N3 N4 N5 N6 : Int} (H0 : ∀ x : Int, F2 x = if x = N5 then N6 else F0 x) (H1 : cJwa F1 N0 N1 N2 N3) : (cJwa F1 N0 N1 N2 N3) := by
  unfold cJwa at *
  omega
theorem L_sqE {F0 F1 : Int → Int} {N0 N1 : Int} (H0 : 0 ≤ (0)+(1)*N0+(-1)*N1) : (cShq F0 F1 N0 N1) := by
  unfold cShq at *
  intro x g0 g1
  omega
theorem L_sqX {F0 F1 : Int → Int} {N0 N1 N2 N3 N4 : Int} (H0 : N2 = (-1)+(1)*N1) (H1 : cShq F0 F1 N0 N2) (H2 : N3 = (-7)+(7)*N1) (H3 : F0 N3 = N4) (H4 : 0 ≤ (4)+(-1)*N4) : (cShq F0 F1 N0 N1) := by
  unfold cShq at *
  intro x g0 g1
  first | (have c0 : F0 (7*x) = F0 (N3) := (ucg F0 (7*x) (N3)).resolve_left (fun h => h (by omega))) | (have c0 : (7*x) ≠ (N3) := by omega; clear c0) | (have c0 := ucg F0 (7*x) (N3))
  have q0 := uni2 (H1 (x))
  clear H1
  omega
theorem L_sqY0 {F0 F1 : Int → Int} {N0 N1 N2 N3 N4 N5 N6 N7 N8 N9 : Int} (H0 : N2 = (-1)+(1)*N1) (H1 : cShq F0 F1 N0 N2) (H2 : N3 = (-1)+(7)*N1) (H3 : F0 N3 = N4) (H4 : 0 ≤ (0)+(1)*N4) (H5 : N5 = (0)+(6)*N4) (H6 : F1 N5 = N6) (H7 : 0 ≤ (0)+(1)*N6+(-1)*N2) (H8 : 0 ≤ (0)+(1)*N2+(-1)*N6) (H9 : N7 = (4)+(6)*N4) (H10 : F1 N7 = N9) (H11 : 0 ≤ (-2)+(-1)*N9) : (cShq F0 F1 N0 N1) := by
  unfold cShq at *
  intro x g0 g1
  first | (have c0 : F0 (7*x+6) = F0 (N3) := (ucg F0 (7*x+6) (N3)).resolve_left (fun h => h (by omega))) | (have c0 : (7*x+6) ≠ (N3) := by omega; clear c0) | (have c0 := ucg F0 (7*x+6) (N3))
  first | (have c1 : F1 (6*F0 (7*x+6)) = F1 (N5) := (ucg F1 (6*F0 (7*x+6)) (N5)).resolve_left (fun h => h (by omega))) | (have c1 : (6*F0 (7*x+6)) ≠ (N5) := by omega; clear c1) | (have c1 := ucg F1 (6*F0 (7*x+6)) (N5))
  first | (have c2 : F1 (6*F0 (7*x+6)+4) = F1 (N7) := (ucg F1 (6*F0 (7*x+6)+4) (N7)).resolve_left (fun h => h (by omega))) | (have c2 : (6*F0 (7*x+6)+4) ≠ (N7) := by omega; clear c2) | (have c2 := ucg F1 (6*F0 (7*x+6)+4) (N7))
  have q0 := uni2 (H1 (x))
  clear H1
  omega
theorem L_sqY1 {F0 F1 : Int → Int} {N0 N1 N2 N3 N4 N5 N6 N7 N8 N9 : Int} (H0 : N2 = (-1)+(1)*N1) (H1 : cShq F0 F1 N0 N2) (H2 : N3 = (-1)+(7)*N1) (H3 : F0 N3 = N4) (H4 : 0 ≤ (0)+(1)*N4) (H5 : N5 = (0)+(6)*N4) (H6 : F1 N5 = N6) (H7 : 0 ≤ (0)+(1)*N6+(-1)*N2) (H8 : 0 ≤ (0)+(1)*N2+(-1)*N6) (H9 : N7 = (4)+(6)*N4) (H10 : F1 N7 = N9) (H11 : 0 ≤ (0)+(1)*N9) : (cShq F0 F1 N0 N1) := by
  unfold cShq at *
  intro x g0 g1
  first | (have c0 : F0 (7*x+6) = F0 (N3) := (ucg F0 (7*x+6) (N3)).resolve_left (fun h => h (by omega))) | (have c0 : (7*x+6) ≠ (N3) := by omega; clear c0) | (have c0 := ucg F0 (7*x+6) (N3))
  first | (have c1 : F1 (6*F0 (7*x+6)) = F1 (N5) := (ucg F1 (6*F0 (7*x+6)) (N5)).resolve_left (fun h => h (by omega))) | (have c1 : (6*F0 (7*x+6)) ≠ (N5) := by omega; clear c1) | (have c1 := ucg F1 (6*F0 (7*x+6)) (N5))
  first | (have c2 : F1 (6*F0 (7*x+6)+4) = F1 (N7) := (ucg F1 (6*F0 (7*x+6)+4) (N7)).resolve_left (fun h => h (by omega))) | (have c2 : (6*F0 (7*x+6)+4) ≠ (N7) := by omega; clear c2) | (have c2 := ucg F1 (6*F0 (7*x+6)+4) (N7))
  have q0 := uni2 (H1 (x))
  clear H1
  omega
theorem L_sqW {F0 F1 F2 : Int → Int} {N0 N1 N2 N3 N4 N5 : Int} (H0 : ∀ x : Int, F2 x = if x = N4 then N5 else F0 x) (H1 : cShq F0 F1 N0 N1) (H2 : 0 ≤ (0)+(1)*N4+(-7)*N1) : (cShq F2 F1 N0 N1) := by
  unfold cShq at *
  intro x g0 g1
  first | (have w0 := (uwr2 H0 (7*x)).resolve_left (fun h => by omega)) | (have w0 := (uwr2 H0 (7*x)).resolve_right (fun h => by omega)) | (have w0 := uwr2 H0 (7*x))
  first | (have w1 := (uwr2 H0 (7*x+6)).resolve_left (fun h => by omega)) | (have w1 := (uwr2 H0 (7*x+6)).resolve_right (fun h => by omega)) | (have w1 := uwr2 H0 (7*x+6))
  first | (have c2 : F1 (6*F0 (7*x+6)) = F1 (6*F2 (7*x+6)) := (ucg F1 (6*F0 (7*x+6)) (6*F2 (7*x+6))).resolve_left (fun h => h (by omega))) | (have c2 : (6*F0 (7*x+6)) ≠ (6*F2 (7*x+6)) := by omega; clear c2) | (have c2 := ucg F1 (6*F0 (7*x+6)) (6*F2 (7*x+6)))
  first | (have c3 : F1 (6*F0 (7*x+6)+4) = F1 (6*F2 (7*x+6)+4) := (ucg F1 (6*F0 (7*x+6)+4) (6*F2 (7*x+6)+4)).resolve_left (fun h => h (by omega))) | (have c3 : (6*F0 (7*x+6)+4) ≠ (6*F2 (7*x+6)+4) := by omega; clear c3) | (have c3 := ucg F1 (6*F0 (7*x+6)+4) (6*F2 (7*x+6)+4))
  have q0 := uni2 (H1 (x))
  clear H1
  omega
theorem L_sqV {F0 F1 F2 : Int → Int} {N0 N1 N2 N3 N4 N5 N6 N7 N8 N9 N10 N11 : Int} (H0 : ∀ x : Int, F2 x = if x = N4 then N5 else F0 x) (H1 : cUs N10 N11) (H2 : cShq F0 F1 N0 N1) (H3 : 0 ≤ (-1)+(1)*N4+(-7)*N10) (H4 : 0 ≤ (5)+(7)*N10+(-1)*N4) : (cShq F2 F1 N0 N1) := by
  unfold cShq cUs at *
  intro x g0 g1
  first | (have w0 := (uwr2 H0 (7*x)).resolve_left (fun h => by omega)) | (have w0 := (uwr2 H0 (7*x)).resolve_right (fun h => by omega)) | (have w0 := uwr2 H0 (7*x))
  first | (have w1 := (uwr2 H0 (7*x+6)).resolve_left (fun h => by omega)) | (have w1 := (uwr2 H0 (7*x+6)).resolve_right (fun h => by omega)) | (have w1 := uwr2 H0 (7*x+6))
  first | (have c2 : F1 (6*F0 (7*x+6)) = F1 (6*F2 (7*x+6)) := (ucg F1 (6*F0 (7*x+6)) (6*F2 (7*x+6))).resolve_left (fun h => h (by omega))) | (have c2 : (6*F0 (7*x+6)) ≠ (6*F2 (7*x+6)) := by omega; clear c2) | (have c2 := ucg F1 (6*F0 (7*x+6)) (6*F2 (7*x+6)))
  first | (have c3 : F1 (6*F0 (7*x+6)+4) = F1 (6*F2 (7*x+6)+4) := (ucg F1 (6*F0 (7*x+6)+4) (6*F2 (7*x+6)+4)).resolve_left (fun h => h (by omega))) | (have c3 : (6*F0 (7*x+6)+4) ≠ (6*F2 (7*x+6)+4) := by omega; clear c3) | (have c3 := ucg F1 (6*F0 (7*x+6)+4) (6*F2 (7*x+6)+4))
  have q1 := uni2 (H2 (x))
  clear H2
  omega
theorem L_sqK {F0 F1 F2 : Int → Int} {N0 N1 N2 N3 N4 N5 N6 N7 N8 N9 N10 N11 : Int} (H0 : ∀ x : Int, F2 x = if x = N4 then N5 else F0 x) (H1 : cUs N10 N11) (H2 : cShq F0 F1 N0 N1) (H3 : 0 ≤ (0)+(1)*N4+(-7)*N10) (H4 : 0 ≤ (0)+(7)*N10+(-1)*N4) (H5 : 0 ≤ (4)+(-1)*N5) : (cShq F2 F1 N0 N1) := by
  unfold cShq cUs at *
  intro x g0 g1
  first | (have w0 := (uwr2 H0 (7*x)).resolve_left (fun h => by omega)) | (have w0 := (uwr2 H0 (7*x)).resolve_right (fun h => by omega)) | (have w0 := uwr2 H0 (7*x))
  first | (have w1 := (uwr2 H0 (7*x+6)).resolve_left (fun h => by omega)) | (have w1 := (uwr2 H0 (7*x+6)).resolve_right (fun h => by omega)) | (have w1 := uwr2 H0 (7*x+6))
  first | (have c2 : F1 (6*F0 (7*x+6)) = F1 (6*F2 (7*x+6)) := (ucg F1 (6*F0 (7*x+6)) (6*F2 (7*x+6))).resolve_left (fun h => h (by omega))) | (have c2 : (6*F0 (7*x+6)) ≠ (6*F2 (7*x+6)) := by omega; clear c2) | (have c2 := ucg F1 (6*F0 (7*x+6)) (6*F2 (7*x+6)))
  first | (have c3 : F1 (6*F0 (7*x+6)+4) = F1 (6*F2 (7*x+6)+4) := (ucg F1 (6*F0 (7*x+6)+4) (6*F2 (7*x+6)+4)).resolve_left (fun h => h (by omega))) | (have c3 : (6*F0 (7*x+6)+4) ≠ (6*F2 (7*x+6)+4) := by omega; clear c3) | (have c3 := ucg F1 (6*F0 (7*x+6)+4) (6*F2 (7*x+6)+4))
  have q1 := uni2 (H2 (x))
  clear H2
  omega
theorem L_sqA {F0 F1 F2 : Int → Int} {N0 N1 N2 N3 N4 N5 N6 N7 N8 N9 N10 N11 : Int} (H0 : ∀ x : Int, F2 x = if x = N4 then N5 else F1 x) (H1 : cUs N10 N11) (H2 : cShq F0 F1 N0 N1) (H3 : 0 ≤ (-1)+(1)*N4+(-6)*N10) (H4 : 0 ≤ (3)+(6)*N10+(-1)*N4) : (cShq F0 F2 N0 N1) := by
  unfold cShq cUs at *
  intro x g0 g1
  first | (have w0 := (uwr2 H0 (6*F0 (7*x+6))).resolve_left (fun h => by omega)) | (have w0 := (uwr2 H0 (6*F0 (7*x+6))).resolve_right (fun h => by omega)) | (have w0 := uwr2 H0 (6*F0 (7*x+6)))
  first | (have w1 := (uwr2 H0 (6*F0 (7*x+6)+4)).resolve_left (fun h => by omega)) | (have w1 := (uwr2 H0 (6*F0 (7*x+6)+4)).resolve_right (fun h => by omega)) | (have w1 := uwr2 H0 (6*F0 (7*x+6)+4))
  have q1 := uni2 (H2 (x))
  clear H2
  omega
theorem L_sqB {F0 F1 F2 : Int → Int} {N0 N1 N2 N3 N4 N5 N6 N7 N8 N9 N10 N11 : Int} (H0 : ∀ x : Int, F2 x = if x = N4 then N5 else F1 x) (H1 : cUs N10 N11) (H2 : cShq F0 F1 N0 N1) (H3 : 0 ≤ (-5)+(1)*N4+(-6)*N10) (H4 : 0 ≤ (5)+(6)*N10+(-1)*N4) : (cShq F0 F2 N0 N1) := by
  unfold cShq cUs at *
  intro x g0 g1
  first | (have w0 := (uwr2 H0 (6*F0 (7*x+6))).resolve_left (fun h => by omega)) | (have w0 := (uwr2 H0 (6*F0 (7*x+6))).resolve_right (fun h => by omega)) | (have w0 := uwr2 H0 (6*F0 (7*x+6)))
  first | (have w1 := (uwr2 H0 (6*F0 (7*x+6)+4)).resolve_left (fun h => by omega)) | (have w1 := (uwr2 H0 (6*F0 (7*x+6)+4)).resolve_right (fun h => by omega)) | (have w1 := uwr2 H0 (6*F0 (7*x+6)+4))
  have q1 := uni2 (H2 (x))
  clear H2
  omega
theorem L_sqC {F0 F1 F2 : Int → Int} {N0 N1 N2 N3 N4 N5 N6 N7 N8 N9 N10 N11 : Int} (H0 : ∀ x : Int, F2 x = if x = N4 then N5 else F1 x) (H1 : cUs N10 N11) (H2 : cShq F0 F1 N0 N1) (H3 : 0 ≤ (-4)+(1)*N4+(-6)*N10) (H4 : 0 ≤ (4)+(6)*N10+(-1)*N4) (H5 : N6 = (0)+(6)*N10) (H6 : F1 N6 = N7) (H7 : N8 = (0)+(7)*N7) (H8 : F0 N8 = N9) (H9 : 0 ≤ (4)+(-1)*N9) : (cShq F0 F2 N0 N1) := by
  unfold cShq cUs at *
  intro x g0 g1
  first | (have w0 := (uwr2 H0 (6*F0 (7*x+6))).resolve_left (fun h => by omega)) | (have w0 := (uwr2 H0 (6*F0 (7*x+6))).resolve_right (fun h => by omega)) | (have w0 := uwr2 H0 (6*F0 (7*x+6)))
  first | (have w1 := (uwr2 H0 (6*F0 (7*x+6)+4)).resolve_left (fun h => by omega)) | (have w1 := (uwr2 H0 (6*F0 (7*x+6)+4)).resolve_right (fun h => by omega)) | (have w1 := uwr2 H0 (6*F0 (7*x+6)+4))
  first | (have c2 : F1 (6*F0 (7*x+6)) = F1 (N6) := (ucg F1 (6*F0 (7*x+6)) (N6)).resolve_left (fun h => h (by omega))) | (have c2 : (6*F0 (7*x+6)) ≠ (N6) := by omega; clear c2) | (have c2 := ucg F1 (6*F0 (7*x+6)) (N6))
  first | (have c3 : F0 (7*x) = F0 (N8) := (ucg F0 (7*x) (N8)).resolve_left (fun h => h (by omega))) | (have c3 : (7*x) ≠ (N8) := by omega; clear c3) | (have c3 := ucg F0 (7*x) (N8))
  have q1 := uni2 (H2 (x))
  clear H2
  omega
theorem L_sqI {F0 F1 : Int → Int} {N0 N1 N2 N3 N4 N5 N6 N7 N8 N9 N10 N11 N12 N13 N14 N15 N16 N17 N18 N19 : Int} (H0 : cUs N10 N11) (H1 : cShq F0 F1 N12 N13) (H2 : 0 ≤ (0)+(1)*N10+(-1)*N12) (H3 : 0 ≤ (-1)+(1)*N13+(-1)*N10) (H4 : N14 = (0)+(7)*N10) (H5 : F0 N14 = N15) (H6 : 0 ≤ (-5)+(1)*N15) (H7 : N16 = (6)+(7)*N10) (H8 : F0 N16 = N17) (H9 : N18 = (4)+(6)*N17) (H10 : F1 N18 = N19) (H11 : 0 ≤ (0)+(1)*N0) (H12 : 0 ≤ (0)+(-1)*N0) (H13 : 0 ≤ (-1)+(1)*N1) (H14 : 0 ≤ (1)+(-1)*N1) (H15 : 0 ≤ (0)+(1)*N3+(-1)*N19) (H16 : 0 ≤ (0)+(1)*N19+(-1)*N3) (H17 : 0 ≤ (2)+(1)*N2+(1)*N19) (H18 : 0 ≤ (-2)+(-1)*N19+(-1)*N2) : (N1 ≤ N0 ∨ 0 ≤ N2 ∨ 0 ≤ N3) := by
  unfold cShq cUs at *
  first | (have c0 : F0 (7*N10) = F0 (N14) := (ucg F0 (7*N10) (N14)).resolve_left (fun h => h (by omega))) | (have c0 : (7*N10) ≠ (N14) := by omega; clear c0) | (have c0 := ucg F0 (7*N10) (N14))
  first | (have c1 : F0 (7*N10+6) = F0 (N16) := (ucg F0 (7*N10+6) (N16)).resolve_left (fun h => h (by omega))) | (have c1 : (7*N10+6) ≠ (N16) := by omega; clear c1) | (have c1 := ucg F0 (7*N10+6) (N16))
  first | (have c2 : F1 (6*F0 (7*N10+6)+4) = F1 (N18) := (ucg F1 (6*F0 (7*N10+6)+4) (N18)).resolve_left (fun h => h (by omega))) | (have c2 : (6*F0 (7*N10+6)+4) ≠ (N18) := by omega; clear c2) | (have c2 := ucg F1 (6*F0 (7*N10+6)+4) (N18))
  have q1 := uni2 (H1 (N10))
  clear H1
  omega
theorem L_pcE {F0 F1 F2 : Int → Int} {N0 N1 N2 N3 : Int} (H0 : 0 ≤ (0)+(1)*N1) (H1 : 0 ≤ (0)+(-1)*N1) (H2 : 0 ≤ (0)+(1)*N2) (H3 : 0 ≤ (0)+(-1)*N2) (H4 : 0 ≤ (0)) (H5 : 0 ≤ (0)) : (cPlc F0 F1 F2 N0 N1 N2 N3) := by
  unfold cPlc at *
  intro x y k0 k1 t0 t1 t2
  omega
theorem L_pcX0 {F0 F1 F2 : Int → Int} {N0 N1 N2 N3 N4 N5 N6 : Int} (H0 : N4 = (-1)+(1)*N2) (H1 : cPlc F0 F1 F2 N0 N1 N4 N3) (H2 : N5 = (-4)+(4)*N2+(1)*N1) (H3 : F1 N5 = N6) (H4 : 0 ≤ (0)+(1)*N6) (H5 : 0 ≤ (0)+(-1)*N6) : (cPlc F0 F1 F2 N0 N1 N2 N3) := by
  unfold cPlc at *
  intro x y k0 k1 t0 t1 t2
  first | (have c0 : F1 (4*x+y) = F1 (N5) := (ucg F1 (4*x+y) (N5)).resolve_left (fun h => h (by omega))) | (have c0 : (4*x+y) ≠ (N5) := by omega; clear c0) | (have c0 := ucg F1 (4*x+y) (N5))
  have q0 := uni5 (H1 (x) (y))
  omega
theorem L_pcX1 {F0 F1 F2 : Int → Int} {N0 N1 N2 N3 N4 N5 N6 N7 N8 N9 : Int} (H0 : N4 = (-1)+(1)*N2) (H1 : cPlc F0 F1 F2 N0 N1 N4 N7) (H2 : 0 ≤ (0)+(1)*N3+(-1)*N7) (H3 : N5 = (-4)+(4)*N2+(1)*N1) (H4 : F0 N5 = N6) (H5 : 0 ≤ (-4194304)+(1)*N6) (H6 : N8 = (-8)+(17)*N2+(1)*N1) (H7 : F2 N8 = N9) (H8 : 0 ≤ (0)+(1)*N3+(-1)*N6+(-1)*N9) : (cPlc F0 F1 F2 N0 N1 N2 N3) := by
  unfold cPlc at *
  intro x y k0 k1 t0 t1 t2
  first | (have c0 : F0 (4*x+y) = F0 (N5) := (ucg F0 (4*x+y) (N5)).resolve_left (fun h => h (by omega))) | (have c0 : (4*x+y) ≠ (N5) := by omega; clear c0) | (have c0 := ucg F0 (4*x+y) (N5))
  first | (have c1 : F2 (17*x+y+9) = F2 (N8) := (ucg F2 (17*x+y+9) (N8)).resolve_left (fun h => h (by omega))) | (have c1 : (17*x+y+9) ≠ (N8) := by omega; clear c1) | (have c1 := ucg F2 (17*x+y+9) (N8))
  have q0 := uni5 (H1 (x) (y))
  omega
theorem L_pcS {F0 F1 F2 : Int → Int} {N0 N1 N2 N3 N4 N5 N6 : Int} (H0 : N4 = (-1)+(1)*N1) (H1 : cPlc F0 F1 F2 N0 N4 N5 N6) (H2 : 0 ≤ (0)+(1)*N5+(-1)*N0) (H3 : 0 ≤ (0)+(1)*N3+(-1)*N6) (H4 : 0 ≤ (0)+(-1)*N2) (H5 : 0 ≤ (0)+(1)*N2) : (cPlc F0 F1 F2 N0 N1 N2 N3) := by
  unfold cPlc at *
  intro x y k0 k1 t0 t1 t2
  have q0 := uni5 (H1 (x) (y))
  omega
theorem L_pcU {F0 F1 F2 F3 : Int → Int} {N0 N1 N2 N3 N4 N5 : Int} (H0 : ∀ x : Int, F3 x = if x = N4 then N5 else F0 x) (H1 : cPlc F0 F1 F2 N0 N1 N2 N3) (H2 : 0 ≤ (0)+(1)*N4+(-4)*N2+(-1)*N1) (H3 : 0 ≤ (0)+(4)*N2+(1)*N1+(-1)*N4) (H4 : 0 ≤ (0)+(1)*N1) (H5 : 0 ≤ (3)+(-1)*N1) : (cPlc F3 F1 F2 N0 N1 N2 N3) := by
  unfold cPlc at *
  intro x y k0 k1 t0 t1 t2
  first | (have w0 := (uwr2 H0 (4*x+y)).resolve_left (fun h => by omega)) | (have w0 := (uwr2 H0 (4*x+y)).resolve_right (fun h => by omega)) | (have w0 := uwr2 H0 (4*x+y))
  have q0 := uni5 (H1 (x) (y))
  omega
theorem L_pcZ {F0 F1 F2 : Int → Int} {N0 N1 N2 N3 N4 : Int} (H0 : cPlc F0 F1 F2 N0 N1 N2 N4) (H1 : 0 ≤ (0)+(1)*N3+(-1)*N4) : (cPlc F0 F1 F2 N0 N1 N2 N3) := by
  unfold cPlc at *
  intro x y k0 k1 t0 t1 t2
  have q0 := uni5 (H0 (x) (y))
  omega
theorem L_pcI {F0 F1 F2 : Int → Int} {N0 N1 N2 N3 N4 N5 N6 N7 N8 N9 N10 : Int} (H0 : cUs N4 N5) (H1 : cPlc F0 F1 F2 N0 N1 N2 N3) (H2 : 0 ≤ (-4)+(1)*N1) (H3 : 0 ≤ (0)+(1)*N4) (H4 : 0 ≤ (-1)+(1)*N0+(-1)*N4) (H5 : 0 ≤ (0)+(1)*N5) (H6 : 0 ≤ (3)+(-1)*N5) (H7 : N6 = (0)+(4)*N4+(1)*N5) (H8 : F1 N6 = N7) (H9 : 0 ≤ (-1)+(1)*N7) (H10 : F0 N6 = N8) (H11 : N9 = (9)+(17)*N4+(1)*N5) (H12 : F2 N9 = N10) : (0 ≤ (-4194304)+(1)*N8) ∧ (0 ≤ (0)+(1)*N3+(-1)*N8+(-1)*N10) := by
  unfold cPlc cUs at *
  first | (have c0 : F1 (4*N4+N5) = F1 (N6) := (ucg F1 (4*N4+N5) (N6)).resolve_left (fun h => h (by omega))) | (have c0 : (4*N4+N5) ≠ (N6) := by omega; clear c0) | (have c0 := ucg F1 (4*N4+N5) (N6))
  first | (have c1 : F0 (4*N4+N5) = F0 (N6) := (ucg F0 (4*N4+N5) (N6)).resolve_left (fun h => h (by omega))) | (have c1 : (4*N4+N5) ≠ (N6) := by omega; clear c1) | (have c1 := ucg F0 (4*N4+N5) (N6))
  first | (have c2 : F2 (17*N4+N5+9) = F2 (N9) := (ucg F2 (17*N4+N5+9) (N9)).resolve_left (fun h => h (by omega))) | (have c2 : (17*N4+N5+9) ≠ (N9) := by omega; clear c2) | (have c2 := ucg F2 (17*N4+N5+9) (N9))
  have q1 := uni5 (H1 (N4) (N5))
  omega
theorem L_curLM {F0 F1 : Int → Int} {N0 N1 N2 N3 N4 N5 : Int} (H0 : cCurL F0 F1 N0 N1 N2 N3 N5) (H1 : 0 ≤ (9)+(10)*N4+(-1)*N5) : (cCurL F0 F1 N0 N1 N2 N3 N4) := by
  unfold cCurL at *
  by_cases ee : 0 ≤ N4
  · exact Or.inl ee
  right
  rcases H0 with H0 | H0
  · exfalso; omega
  intro x g0 g1
  have q0 := uni2 (H0 (x))
  clear H0
  omega
theorem L_jwoM {F0 F1 : Int → Int} {N0 N1 N2 N3 N4 : Int} (H0 : cJwo F0 F1 N0 N1 N2 N4) (H1 : 0 ≤ (9)+(10)*N3+(-1)*N4) : (cJwo F0 F1 N0 N1 N2 N3) := by
  unfold cJwo at *
  by_cases ee : 0 ≤ N3
  · exact Or.inl ee
  right
  rcases H0 with H0 | H0
  · exfalso; omega
  intro x g0 g1
  have q0 := uni2 (H0 (x))
  clear H0
  omega
theorem L_sloM {F0 : Int → Int} {N0 N1 N2 N3 : Int} (H0 : ∀ x : Int, N0 ≤ x → x < N1 → (0 ≤ 131072+(-1)*F0 (7*x+4)) ∨ (0 ≤ 0+(1)*N3)) (H1 : 0 ≤ (9)+(10)*N2+(-1)*N3) : (∀ x : Int, N0 ≤ x → x < N1 → (0 ≤ 131072+(-1)*F0 (7*x+4)) ∨ (0 ≤ 0+(1)*N2)) := by
  intro x g0 g1
  have q0 := uni2 (H0 (x))
  clear H0
  omega
theorem L_oflM {F0 : Int → Int} {N0 N1 N2 N3 N4 : Int} (H0 : ∀ x : Int, N0 ≤ x → x < N1 → (0 ≤ -1+(1)*N2+(-1)*F0 (6*x)) ∨ (0 ≤ 0+(1)*N4)) (H1 : 0 ≤ (9)+(10)*N3+(-1)*N4) : (∀ x : Int, N0 ≤ x → x < N1 → (0 ≤ -1+(1)*N2+(-1)*F0 (6*x)) ∨ (0 ≤ 0+(1)*N3)) := by
  intro x g0 g1
  have q0 := uni2 (H0 (x))
  clear H0
  omega
theorem L_po0M {F0 : Int → Int} {N0 N1 N2 N3 N4 : Int} (H0 : ∀ x : Int, N0 ≤ x → x < N1 → (0 ≤ -1+(1)*F0 (7*x)) ∨ (0 ≤ -3+(1)*F0 (7*x+1)) ∨ (0 ≤ 0+(1)*N2+(-1)*F0 (7*x+5)+(-1)*F0 (7*x+4)) ∨ (0 ≤ 0+(1)*N4)) (H1 : 0 ≤ (9)+(10)*N3+(-1)*N4) : (∀ x : Int, N0 ≤ x → x < N1 → (0 ≤ -1+(1)*F0 (7*x)) ∨ (0 ≤ -3+(1)*F0 (7*x+1)) ∨ (0 ≤ 0+(1)*N2+(-1)*F0 (7*x+5)+(-1)*F0 (7*x+4)) ∨ (0 ≤ 0+(1)*N3)) := by
  intro x g0 g1
  have q0 := uni2 (H0 (x))
  clear H0
  omega
theorem L_po3M {F0 : Int → Int} {N0 N1 N2 N3 N4 : Int} (H0 : ∀ x : Int, N0 ≤ x → x < N1 → (0 ≤ 2+(-1)*F0 (7*x)) ∨ (0 ≤ -4+(1)*F0 (7*x)) ∨ (0 ≤ -3+(1)*F0 (7*x+1)) ∨ (0 ≤ 0+(1)*N2+(-1)*F0 (7*x+5)+(-1)*F0 (7*x+4)) ∨ (0 ≤ 0+(1)*N4)) (H1 : 0 ≤ (9)+(10)*N3+(-1)*N4) : (∀ x : Int, N0 ≤ x → x < N1 → (0 ≤ 2+(-1)*F0 (7*x)) ∨ (0 ≤ -4+(1)*F0 (7*x)) ∨ (0 ≤ -3+(1)*F0 (7*x+1)) ∨ (0 ≤ 0+(1)*N2+(-1)*F0 (7*x+5)+(-1)*F0 (7*x+4)) ∨ (0 ≤ 0+(1)*N3)) := by
  intro x g0 g1
  have q0 := uni2 (H0 (x))
  clear H0
  omega
theorem L_pg0M {F0 : Int → Int} {N0 N1 N2 N3 N4 : Int} (H0 : ∀ x : Int, N0 ≤ x → x < N1 → (0 ≤ -1+(1)*F0 (7*x)) ∨ (0 ≤ -3+(1)*F0 (7*x+1)) ∨ (0 ≤ 0+(1)*F0 (7*x+5)) ∨ (0 ≤ 0+(1)*N4)) (H1 : 0 ≤ (9)+(10)*N3+(-1)*N4) : (∀ x : Int, N0 ≤ x → x < N1 → (0 ≤ -1+(1)*F0 (7*x)) ∨ (0 ≤ -3+(1)*F0 (7*x+1)) ∨ (0 ≤ 0+(1)*F0 (7*x+5)) ∨ (0 ≤ 0+(1)*N3)) := by
  intro x g0 g1
  have q0 := uni2 (H0 (x))
  clear H0
  omega
theorem L_pg3M {F0 : Int → Int} {N0 N1 N2 N3 N4 : Int} (H0 : ∀ x : Int, N0 ≤ x → x < N1 → (0 ≤ 2+(-1)*F0 (7*x)) ∨ (0 ≤ -4+(1)*F0 (7*x)) ∨ (0 ≤ -3+(1)*F0 (7*x+1)) ∨ (0 ≤ 0+(1)*F0 (7*x+5)) ∨ (0 ≤ 0+(1)*N4)) (H1 : 0 ≤ (9)+(10)*N3+(-1)*N4) : (∀ x : Int, N0 ≤ x → x < N1 → (0 ≤ 2+(-1)*F0 (7*x)) ∨ (0 ≤ -4+(1)*F0 (7*x)) ∨ (0 ≤ -3+(1)*F0 (7*x+1)) ∨ (0 ≤ 0+(1)*F0 (7*x+5)) ∨ (0 ≤ 0+(1)*N3)) := by
  intro x g0 g1
  have q0 := uni2 (H0 (x))
  clear H0
  omega
theorem L_sloT {F0 : Int → Int} {N0 N1 N2 : Int} (H0 : 0 ≤ (0)+(1)*N2) (H1 : 0 ≤ (0)) (H2 : 0 ≤ (0)) : (∀ x : Int, N0 ≤ x → x < N1 → (0 ≤ 131072+(-1)*F0 (7*x+4)) ∨ (0 ≤ 0+(1)*N2)) := by
  intro x g0 g1
  omega
theorem L_oflT {F0 : Int → Int} {N0 N1 N2 N3 : Int} (H0 : 0 ≤ (0)+(1)*N3) (H1 : 0 ≤ (0)) (H2 : 0 ≤ (0)) (H3 : 0 ≤ (0)) : (∀ x : Int, N0 ≤ x → x < N1 → (0 ≤ -1+(1)*N2+(-1)*F0 (6*x)) ∨ (0 ≤ 0+(1)*N3)) := by
  intro x g0 g1
  omega
theorem L_po0T {F0 : Int → Int} {N0 N1 N2 N3 : Int} (H0 : 0 ≤ (0)+(1)*N3) (H1 : 0 ≤ (0)) (H2 : 0 ≤ (0)) (H3 : 0 ≤ (0)) : (∀ x : Int, N0 ≤ x → x < N1 → (0 ≤ -1+(1)*F0 (7*x)) ∨ (0 ≤ -3+(1)*F0 (7*x+1)) ∨ (0 ≤ 0+(1)*N2+(-1)*F0 (7*x+5)+(-1)*F0 (7*x+4)) ∨ (0 ≤ 0+(1)*N3)) := by
  intro x g0 g1
  omega
theorem L_po3T {F0 : Int → Int} {N0 N1 N2 N3 : Int} (H0 : 0 ≤ (0)+(1)*N3) (H1 : 0 ≤ (0)) (H2 : 0 ≤ (0)) (H3 : 0 ≤ (0)) : (∀ x : Int, N0 ≤ x → x < N1 → (0 ≤ 2+(-1)*F0 (7*x)) ∨ (0 ≤ -4+(1)*F0 (7*x)) ∨ (0 ≤ -3+(1)*F0 (7*x+1)) ∨ (0 ≤ 0+(1)*N2+(-1)*F0 (7*x+5)+(-1)*F0 (7*x+4)) ∨ (0 ≤ 0+(1)*N3)) := by
  intro x g0 g1
  omega
theorem L_pg0T {F0 : Int → Int} {N0 N1 N2 N3 : Int} (H0 : 0 ≤ (0)+(1)*N3) (H1 : 0 ≤ (0)) (H2 : 0 ≤ (0)) (H3 : 0 ≤ (0)) : (∀ x : Int, N0 ≤ x → x < N1 → (0 ≤ -1+(1)*F0 (7*x)) ∨ (0 ≤ -3+(1)*F0 (7*x+1)) ∨ (0 ≤ 0+(1)*F0 (7*x+5)) ∨ (0 ≤ 0+(1)*N3)) := by
  intro x g0 g1
  omega
theorem L_pg3T {F0 : Int → Int} {N0 N1 N2 N3 : Int} (H0 : 0 ≤ (0)+(1)*N3) (H1 : 0 ≤ (0)) (H2 : 0 ≤ (0)) (H3 : 0 ≤ (0)) : (∀ x : Int, N0 ≤ x → x < N1 → (0 ≤ 2+(-1)*F0 (7*x)) ∨ (0 ≤ -4+(1)*F0 (7*x)) ∨ (0 ≤ -3+(1)*F0 (7*x+1)) ∨ (0 ≤ 0+(1)*F0 (7*x+5)) ∨ (0 ≤ 0+(1)*N3)) := by
  intro x g0 g1
  omega
theorem L_jyM {F0 F1 : Int → Int} {N0 N1 N2 N3 N4 N5 : Int} (H0 : cJwa F1 N0 N1 N2 N5) (H1 : 0 ≤ (0)+(1)*N3+(-1)*N5) : (cJwa F1 N0 N1 N2 N3) := by
  unfold cJwa at *
  omega
theorem L_nf0 {N0 N1 : Int} (H0 : 0 ≤ (0)+(-1)*N1) (H1 : 0 ≤ (0)) : (cNft N0 N1) := by
  unfold cNft at *
  omega
theorem L_nf4 {N0 N1 : Int} (H0 : 0 ≤ (-4)+(1)*N0) (H1 : 0 ≤ (4)+(-1)*N0) (H2 : 0 ≤ (4)+(-1)*N1) : (cNft N0 N1) := by
  unfold cNft at *
  omega
theorem L_nf5 {N0 N1 : Int} (H0 : 0 ≤ (-5)+(1)*N0) (H1 : 0 ≤ (5)+(-1)*N0) (H2 : 0 ≤ (8)+(-1)*N1) : (cNft N0 N1) := by
  unfold cNft at *
  omega
theorem L_rwA {F0 : Int → Int} {N0 N1 N2 N3 : Int} (H0 : N2 = (3)+(1)*N0) (H1 : F0 N2 = N3) (H2 : cNft N3 N1) : (cRwn F0 N0 N1) := by
  try unfold cRwn at *
  try unfold cKna at *
  try unfold cNft at *
  first | (have c0 : F0 (N0+2) = F0 (N2) := (ucg F0 (N0+2) (N2)).resolve_left (fun h => h (by omega))) | (have c0 : (N0+2) ≠ (N2) := by omega; clear c0) | (have c0 := ucg F0 (N0+2) (N2))
  first | (have c1 : F0 (N0+3) = F0 (N2) := (ucg F0 (N0+3) (N2)).resolve_left (fun h => h (by omega))) | (have c1 : (N0+3) ≠ (N2) := by omega; clear c1) | (have c1 := ucg F0 (N0+3) (N2))
  first | (have c2 : F0 (N0+3) = F0 (N0+2) := (ucg F0 (N0+3) (N0+2)).resolve_left (fun h => h (by omega))) | (have c2 : (N0+3) ≠ (N0+2) := by omega; clear c2) | (have c2 := ucg F0 (N0+3) (N0+2))
  omega
theorem L_rwB {F0 : Int → Int} {N0 N1 N2 N3 N4 : Int} (H0 : N2 = (2)+(1)*N0) (H1 : F0 N2 = N3) (H2 : cKna N3 N4) (H3 : 0 ≤ (-1)+(-1)*N4) (H4 : 0 ≤ (0)) : (cRwn F0 N0 N1) := by
  try unfold cRwn at *
  try unfold cKna at *
  try unfold cNft at *
  first | (have c0 : F0 (N0+2) = F0 (N2) := (ucg F0 (N0+2) (N2)).resolve_left (fun h => h (by omega))) | (have c0 : (N0+2) ≠ (N2) := by omega; clear c0) | (have c0 := ucg F0 (N0+2) (N2))
  first | (have c1 : F0 (N0+3) = F0 (N2) := (ucg F0 (N0+3) (N2)).resolve_left (fun h => h (by omega))) | (have c1 : (N0+3) ≠ (N2) := by omega; clear c1) | (have c1 := ucg F0 (N0+3) (N2))
  first | (have c2 : F0 (N0+3) = F0 (N0+2) := (ucg F0 (N0+3) (N0+2)).resolve_left (fun h => h (by omega))) | (have c2 : (N0+3) ≠ (N0+2) := by omega; clear c2) | (have c2 := ucg F0 (N0+3) (N0+2))
  omega
theorem L_rwN {F0 : Int → Int} {N0 N1 : Int} (H0 : 0 ≤ (-1)+(-1)*N0) (H1 : 0 ≤ (0)) : (cRwn F0 N0 N1) := by
  try unfold cRwn at *
  try unfold cKna at *
  try unfold cNft at *
  first | (have c0 : F0 (N0+3) = F0 (N0+2) := (ucg F0 (N0+3) (N0+2)).resolve_left (fun h => h (by omega))) | (have c0 : (N0+3) ≠ (N0+2) := by omega; clear c0) | (have c0 := ucg F0 (N0+3) (N0+2))
  omega
theorem L_rwI {F0 : Int → Int} {N0 N1 N2 N3 N4 N5 N6 N7 : Int} (H0 : cRwn F0 N0 N1) (H1 : 0 ≤ (0)+(1)*N0) (H2 : cKna N3 N4) (H3 : 0 ≤ (0)+(1)*N4) (H4 : N2 = (2)+(1)*N0) (H5 : F0 N2 = N3) (H6 : N5 = (3)+(1)*N0) (H7 : F0 N5 = N6) (H8 : cKwi N6 N7) : (0 ≤ (0)+(1)*N7+(-1)*N1) := by
  try unfold cRwn at *
  try unfold cKna at *
  try unfold cKwi at *
  try unfold cNft at *
  first | (have c0 : F0 (N0+2) = F0 (N2) := (ucg F0 (N0+2) (N2)).resolve_left (fun h => h (by omega))) | (have c0 : (N0+2) ≠ (N2) := by omega; clear c0) | (have c0 := ucg F0 (N0+2) (N2))
  first | (have c1 : F0 (N0+2) = F0 (N5) := (ucg F0 (N0+2) (N5)).resolve_left (fun h => h (by omega))) | (have c1 : (N0+2) ≠ (N5) := by omega; clear c1) | (have c1 := ucg F0 (N0+2) (N5))
  first | (have c2 : F0 (N0+3) = F0 (N2) := (ucg F0 (N0+3) (N2)).resolve_left (fun h => h (by omega))) | (have c2 : (N0+3) ≠ (N2) := by omega; clear c2) | (have c2 := ucg F0 (N0+3) (N2))
  first | (have c3 : F0 (N0+3) = F0 (N5) := (ucg F0 (N0+3) (N5)).resolve_left (fun h => h (by omega))) | (have c3 : (N0+3) ≠ (N5) := by omega; clear c3) | (have c3 := ucg F0 (N0+3) (N5))
  first | (have c4 : F0 (N0+3) = F0 (N0+2) := (ucg F0 (N0+3) (N0+2)).resolve_left (fun h => h (by omega))) | (have c4 : (N0+3) ≠ (N0+2) := by omega; clear c4) | (have c4 := ucg F0 (N0+3) (N0+2))
  omega
theorem L_nm_loJ {F0 F1 : Int → Int} {N0 N1 N2 N3 : Int} (H0 : ∀ x : Int, N0 ≤ x → x < N2 → (0 ≤ 0+(-1)*F0 (x)) ∨ (0 ≤ -2+(1)*F0 (x)) ∨ (0 ≤ 1+(1)*F1 (x))) (H1 : ∀ x : Int, N3 ≤ x → x < N1 → (0 ≤ 0+(-1)*F0 (x)) ∨ (0 ≤ -2+(1)*F0 (x)) ∨ (0 ≤ 1+(1)*F1 (x))) (H2 : 0 ≤ (0)+(1)*N2+(-1)*N3) : (∀ x : Int, N0 ≤ x → x < N1 → (0 ≤ 0+(-1)*F0 (x)) ∨ (0 ≤ -2+(1)*F0 (x)) ∨ (0 ≤ 1+(1)*F1 (x))) := by
  intro x g0 g1
  have q0 := uni2 (H0 (x))
  clear H0
  have q1 := uni2 (H1 (x))
  clear H1
  omega
theorem L_nm_hiJ {F0 F1 : Int → Int} {N0 N1 N2 N3 : Int} (H0 : ∀ x : Int, N0 ≤ x → x < N2 → (0 ≤ 0+(-1)*F0 (x)) ∨ (0 ≤ -2+(1)*F0 (x)) ∨ (0 ≤ 188+(-1)*F1 (x))) (H1 : ∀ x : Int, N3 ≤ x → x < N1 → (0 ≤ 0+(-1)*F0 (x)) ∨ (0 ≤ -2+(1)*F0 (x)) ∨ (0 ≤ 188+(-1)*F1 (x))) (H2 : 0 ≤ (0)+(1)*N2+(-1)*N3) : (∀ x : Int, N0 ≤ x → x < N1 → (0 ≤ 0+(-1)*F0 (x)) ∨ (0 ≤ -2+(1)*F0 (x)) ∨ (0 ≤ 188+(-1)*F1 (x))) := by
  intro x g0 g1
  have q0 := uni2 (H0 (x))
  clear H0
  have q1 := uni2 (H1 (x))
  clear H1
  omega
theorem L_o34b {N0 N1 N2 N3 N4 N5 : Int} (H0 : N1 ≤ N0 ∨ 0 ≤ N2 ∨ 0 ≤ N3 ∨ 0 ≤ N4) (H1 : 0 ≤ (0)) : (N1 ≤ N0 ∨ 0 ≤ N2 ∨ 0 ≤ N3 ∨ 0 ≤ N4 ∨ 0 ≤ N5) := by
  omega
theorem L_o43 {N0 N1 N2 N3 N4 N5 : Int} (H0 : N1 ≤ N0 ∨ 0 ≤ N2 ∨ 0 ≤ N3 ∨ 0 ≤ N4 ∨ 0 ≤ N5) (H1 : 0 ≤ (-1)+(-1)*N5) : (N1 ≤ N0 ∨ 0 ≤ N2 ∨ 0 ≤ N3 ∨ 0 ≤ N4) := by
  omega
theorem L_sqk {F0 F1 : Int → Int} {N0 N1 : Int} (H0 : ∀ x : Int, N0 ≤ x → x < N1 → (0 ≤ 4+(-1)*F0 (7*x))) : (cShq F0 F1 N0 N1) := by
  unfold cShq at *
  intro x g0 g1
  have q0 := uni2 (H0 (x))
  clear H0
  omega
theorem L_wpA {F0 : Int → Int} {N0 N1 N2 : Int} (H0 : N1 = (4)+(6)*N0) (H1 : F0 N1 = N2) (H2 : 0 ≤ (-2)+(-1)*N2) : (cWpl F0 N0) := by
  unfold cWpl at *
  first | (have c0 : F0 (6*N0+4) = F0 (N1) := (ucg F0 (6*N0+4) (N1)).resolve_left (fun h => h (by omega))) | (have c0 : (6*N0+4) ≠ (N1) := by omega; clear c0) | (have c0 := ucg F0 (6*N0+4) (N1))
  omega
theorem L_wpB {F0 : Int → Int} {N0 N1 N2 : Int} (H0 : N1 = (4)+(6)*N0) (H1 : F0 N1 = N2) (H2 : 0 ≤ (0)+(1)*N2) : (cWpl F0 N0) := by
  unfold cWpl at *
  first | (have c0 : F0 (6*N0+4) = F0 (N1) := (ucg F0 (6*N0+4) (N1)).resolve_left (fun h => h (by omega))) | (have c0 : (6*N0+4) ≠ (N1) := by omega; clear c0) | (have c0 := ucg F0 (6*N0+4) (N1))
  omega
theorem L_sqSw {F0 F1 F2 : Int → Int} {N0 N1 N2 N3 N4 N5 N6 N7 N8 N9 N10 N11 N12 : Int} (H0 : ∀ x : Int, F2 x = if x = N4 then N5 else F0 x) (H1 : cUs N10 N11) (H2 : cShq F0 F1 N0 N1) (H3 : 0 ≤ (0)+(1)*N4+(-7)*N10) (H4 : 0 ≤ (0)+(7)*N10+(-1)*N4) (H5 : N12 = (6)+(7)*N10) (H6 : F0 N12 = N6) (H7 : 0 ≤ (0)+(1)*N6) (H8 : N7 = (0)+(6)*N6) (H9 : F1 N7 = N8) (H10 : 0 ≤ (0)+(1)*N8+(-1)*N10) (H11 : 0 ≤ (0)+(1)*N10+(-1)*N8) (H12 : cWpl F1 N6) : (cShq F2 F1 N0 N1) := by
  unfold cShq cUs cWpl at *
  intro x g0 g1
  first | (have w0 := (uwr2 H0 (7*x)).resolve_left (fun h => by omega)) | (have w0 := (uwr2 H0 (7*x)).resolve_right (fun h => by omega)) | (have w0 := uwr2 H0 (7*x))
  first | (have w1 := (uwr2 H0 (7*x+6)).resolve_left (fun h => by omega)) | (have w1 := (uwr2 H0 (7*x+6)).resolve_right (fun h => by omega)) | (have w1 := uwr2 H0 (7*x+6))
  first | (have c2 : F0 (7*x+6) = F0 (N12) := (ucg F0 (7*x+6) (N12)).resolve_left (fun h => h (by omega))) | (have c2 : (7*x+6) ≠ (N12) := by omega; clear c2) | (have c2 := ucg F0 (7*x+6) (N12))
  first | (have c3 : F1 (6*F2 (7*x+6)) = F1 (N7) := (ucg F1 (6*F2 (7*x+6)) (N7)).resolve_left (fun h => h (by omega))) | (have c3 : (6*F2 (7*x+6)) ≠ (N7) := by omega; clear c3) | (have c3 := ucg F1 (6*F2 (7*x+6)) (N7))
  first | (have c4 : F1 (6*F0 (7*x+6)) = F1 (N7) := (ucg F1 (6*F0 (7*x+6)) (N7)).resolve_left (fun h => h (by omega))) | (have c4 : (6*F0 (7*x+6)) ≠ (N7) := by omega; clear c4) | (have c4 := ucg F1 (6*F0 (7*x+6)) (N7))
  first | (have c5 : F1 (6*F0 (7*x+6)) = F1 (6*F2 (7*x+6)) := (ucg F1 (6*F0 (7*x+6)) (6*F2 (7*x+6))).resolve_left (fun h => h (by omega))) | (have c5 : (6*F0 (7*x+6)) ≠ (6*F2 (7*x+6)) := by omega; clear c5) | (have c5 := ucg F1 (6*F0 (7*x+6)) (6*F2 (7*x+6)))
  first | (have c6 : F1 (6*F0 (7*x+6)+4) = F1 (6*F2 (7*x+6)+4) := (ucg F1 (6*F0 (7*x+6)+4) (6*F2 (7*x+6)+4)).resolve_left (fun h => h (by omega))) | (have c6 : (6*F0 (7*x+6)+4) ≠ (6*F2 (7*x+6)+4) := by omega; clear c6) | (have c6 := ucg F1 (6*F0 (7*x+6)+4) (6*F2 (7*x+6)+4))
  first | (have c7 : F1 (6*N6+4) = F1 (6*F2 (7*x+6)+4) := (ucg F1 (6*N6+4) (6*F2 (7*x+6)+4)).resolve_left (fun h => h (by omega))) | (have c7 : (6*N6+4) ≠ (6*F2 (7*x+6)+4) := by omega; clear c7) | (have c7 := ucg F1 (6*N6+4) (6*F2 (7*x+6)+4))
  first | (have c8 : F1 (6*N6+4) = F1 (6*F0 (7*x+6)+4) := (ucg F1 (6*N6+4) (6*F0 (7*x+6)+4)).resolve_left (fun h => h (by omega))) | (have c8 : (6*N6+4) ≠ (6*F0 (7*x+6)+4) := by omega; clear c8) | (have c8 := ucg F1 (6*N6+4) (6*F0 (7*x+6)+4))
  have q1 := uni2 (H2 (x))
  clear H2
  omega
theorem L_sqS0 {F0 F1 F2 : Int → Int} {N0 N1 N2 N3 N4 N5 N6 N7 N8 N9 N10 N11 N12 N13 : Int} (H0 : ∀ x : Int, F2 x = if x = N4 then N5 else F0 x) (H1 : cUs N10 N11) (H2 : cShq F0 F1 N0 N1) (H3 : 0 ≤ (0)+(1)*N4+(-7)*N10) (H4 : 0 ≤ (0)+(7)*N10+(-1)*N4) (H5 : N12 = (6)+(7)*N10) (H6 : F0 N12 = N6) (H7 : 0 ≤ (0)+(1)*N6) (H8 : N7 = (0)+(6)*N6) (H9 : F1 N7 = N8) (H10 : 0 ≤ (0)+(1)*N8+(-1)*N10) (H11 : 0 ≤ (0)+(1)*N10+(-1)*N8) (H12 : N13 = (4)+(6)*N6) (H13 : F1 N13 = N9) (H14 : 0 ≤ (-2)+(-1)*N9) : (cShq F2 F1 N0 N1) := by
  unfold cShq cUs at *
  intro x g0 g1
  first | (have w0 := (uwr2 H0 (7*x)).resolve_left (fun h => by omega)) | (have w0 := (uwr2 H0 (7*x)).resolve_right (fun h => by omega)) | (have w0 := uwr2 H0 (7*x))
  first | (have w1 := (uwr2 H0 (7*x+6)).resolve_left (fun h => by omega)) | (have w1 := (uwr2 H0 (7*x+6)).resolve_right (fun h => by omega)) | (have w1 := uwr2 H0 (7*x+6))
  first | (have c2 : F0 (7*x+6) = F0 (N12) := (ucg F0 (7*x+6) (N12)).resolve_left (fun h => h (by omega))) | (have c2 : (7*x+6) ≠ (N12) := by omega; clear c2) | (have c2 := ucg F0 (7*x+6) (N12))
  first | (have c3 : F1 (6*F2 (7*x+6)) = F1 (N7) := (ucg F1 (6*F2 (7*x+6)) (N7)).resolve_left (fun h => h (by omega))) | (have c3 : (6*F2 (7*x+6)) ≠ (N7) := by omega; clear c3) | (have c3 := ucg F1 (6*F2 (7*x+6)) (N7))
  first | (have c4 : F1 (6*F2 (7*x+6)+4) = F1 (N13) := (ucg F1 (6*F2 (7*x+6)+4) (N13)).resolve_left (fun h => h (by omega))) | (have c4 : (6*F2 (7*x+6)+4) ≠ (N13) := by omega; clear c4) | (have c4 := ucg F1 (6*F2 (7*x+6)+4) (N13))
  first | (have c5 : F1 (6*F0 (7*x+6)) = F1 (N7) := (ucg F1 (6*F0 (7*x+6)) (N7)).resolve_left (fun h => h (by omega))) | (have c5 : (6*F0 (7*x+6)) ≠ (N7) := by omega; clear c5) | (have c5 := ucg F1 (6*F0 (7*x+6)) (N7))
  first | (have c6 : F1 (6*F0 (7*x+6)) = F1 (6*F2 (7*x+6)) := (ucg F1 (6*F0 (7*x+6)) (6*F2 (7*x+6))).resolve_left (fun h => h (by omega))) | (have c6 : (6*F0 (7*x+6)) ≠ (6*F2 (7*x+6)) := by omega; clear c6) | (have c6 := ucg F1 (6*F0 (7*x+6)) (6*F2 (7*x+6)))
  first | (have c7 : F1 (6*F0 (7*x+6)+4) = F1 (N13) := (ucg F1 (6*F0 (7*x+6)+4) (N13)).resolve_left (fun h => h (by omega))) | (have c7 : (6*F0 (7*x+6)+4) ≠ (N13) := by omega; clear c7) | (have c7 := ucg F1 (6*F0 (7*x+6)+4) (N13))
  first | (have c8 : F1 (6*F0 (7*x+6)+4) = F1 (6*F2 (7*x+6)+4) := (ucg F1 (6*F0 (7*x+6)+4) (6*F2 (7*x+6)+4)).resolve_left (fun h => h (by omega))) | (have c8 : (6*F0 (7*x+6)+4) ≠ (6*F2 (7*x+6)+4) := by omega; clear c8) | (have c8 := ucg F1 (6*F0 (7*x+6)+4) (6*F2 (7*x+6)+4))
  have q1 := uni2 (H2 (x))
  clear H2
  omega
theorem L_sqS1 {F0 F1 F2 : Int → Int} {N0 N1 N2 N3 N4 N5 N6 N7 N8 N9 N10 N11 N12 N13 : Int} (H0 : ∀ x : Int, F2 x = if x = N4 then N5 else F0 x) (H1 : cUs N10 N11) (H2 : cShq F0 F1 N0 N1) (H3 : 0 ≤ (0)+(1)*N4+(-7)*N10) (H4 : 0 ≤ (0)+(7)*N10+(-1)*N4) (H5 : N12 = (6)+(7)*N10) (H6 : F0 N12 = N6) (H7 : 0 ≤ (0)+(1)*N6) (H8 : N7 = (0)+(6)*N6) (H9 : F1 N7 = N8) (H10 : 0 ≤ (0)+(1)*N8+(-1)*N10) (H11 : 0 ≤ (0)+(1)*N10+(-1)*N8) (H12 : N13 = (4)+(6)*N6) (H13 : F1 N13 = N9) (H14 : 0 ≤ (0)+(1)*N9) : (cShq F2 F1 N0 N1) := by
  unfold cShq cUs at *
  intro x g0 g1
  first | (have w0 := (uwr2 H0 (7*x)).resolve_left (fun h => by omega)) | (have w0 := (uwr2 H0 (7*x)).resolve_right (fun h => by omega)) | (have w0 := uwr2 H0 (7*x))
  first | (have w1 := (uwr2 H0 (7*x+6)).resolve_left (fun h => by omega)) | (have w1 := (uwr2 H0 (7*x+6)).resolve_right (fun h => by omega)) | (have w1 := uwr2 H0 (7*x+6))
  first | (have c2 : F0 (7*x+6) = F0 (N12) := (ucg F0 (7*x+6) (N12)).resolve_left (fun h => h (by omega))) | (have c2 : (7*x+6) ≠ (N12) := by omega; clear c2) | (have c2 := ucg F0 (7*x+6) (N12))
  first | (have c3 : F1 (6*F2 (7*x+6)) = F1 (N7) := (ucg F1 (6*F2 (7*x+6)) (N7)).resolve_left (fun h => h (by omega))) | (have c3 : (6*F2 (7*x+6)) ≠ (N7) := by omega; clear c3) | (have c3 := ucg F1 (6*F2 (7*x+6)) (N7))
  first | (have c4 : F1 (6*F2 (7*x+6)+4) = F1 (N13) := (ucg F1 (6*F2 (7*x+6)+4) (N13)).resolve_left (fun h => h (by omega))) | (have c4 : (6*F2 (7*x+6)+4) ≠ (N13) := by omega; clear c4) | (have c4 := ucg F1 (6*F2 (7*x+6)+4) (N13))
  first | (have c5 : F1 (6*F0 (7*x+6)) = F1 (N7) := (ucg F1 (6*F0 (7*x+6)) (N7)).resolve_left (fun h => h (by omega))) | (have c5 : (6*F0 (7*x+6)) ≠ (N7) := by omega; clear c5) | (have c5 := ucg F1 (6*F0 (7*x+6)) (N7))
  first | (have c6 : F1 (6*F0 (7*x+6)) = F1 (6*F2 (7*x+6)) := (ucg F1 (6*F0 (7*x+6)) (6*F2 (7*x+6))).resolve_left (fun h => h (by omega))) | (have c6 : (6*F0 (7*x+6)) ≠ (6*F2 (7*x+6)) := by omega; clear c6) | (have c6 := ucg F1 (6*F0 (7*x+6)) (6*F2 (7*x+6)))
  first | (have c7 : F1 (6*F0 (7*x+6)+4) = F1 (N13) := (ucg F1 (6*F0 (7*x+6)+4) (N13)).resolve_left (fun h => h (by omega))) | (have c7 : (6*F0 (7*x+6)+4) ≠ (N13) := by omega; clear c7) | (have c7 := ucg F1 (6*F0 (7*x+6)+4) (N13))
  first | (have c8 : F1 (6*F0 (7*x+6)+4) = F1 (6*F2 (7*x+6)+4) := (ucg F1 (6*F0 (7*x+6)+4) (6*F2 (7*x+6)+4)).resolve_left (fun h => h (by omega))) | (have c8 : (6*F0 (7*x+6)+4) ≠ (6*F2 (7*x+6)+4) := by omega; clear c8) | (have c8 := ucg F1 (6*F0 (7*x+6)+4) (6*F2 (7*x+6)+4))
  have q1 := uni2 (H2 (x))
  clear H2
  omega
theorem L_jwI {F0 F1 : Int → Int} {N0 N1 N2 N3 N4 N5 N6 N7 N8 N9 N10 N11 : Int} (H0 : cUs N10 N11) (H1 : cJwo F0 F1 N0 N1 N2 N3) (H2 : 0 ≤ (-1)+(-1)*N3) (H3 : 0 ≤ (0)+(1)*N10+(-1)*N0) (H4 : 0 ≤ (-1)+(1)*N1+(-1)*N10) (H5 : N4 = (0)+(7)*N10) (H6 : F0 N4 = N5) (H7 : 0 ≤ (-4)+(1)*N5) (H8 : N6 = (6)+(7)*N10) (H9 : F0 N6 = N7) : (0 ≤ (0)+(1)*N7) ∧ (0 ≤ (-1)+(1)*N2+(-1)*N7) := by
  unfold cJwo cUs at *
  rcases H1 with H1 | H1
  · exfalso; omega
  first | (have c0 : F0 (7*N10) = F0 (N4) := (ucg F0 (7*N10) (N4)).resolve_left (fun h => h (by omega))) | (have c0 : (7*N10) ≠ (N4) := by omega; clear c0) | (have c0 := ucg F0 (7*N10) (N4))
  first | (have c1 : F0 (7*N10+6) = F0 (N6) := (ucg F0 (7*N10+6) (N6)).resolve_left (fun h => h (by omega))) | (have c1 : (7*N10+6) ≠ (N6) := by omega; clear c1) | (have c1 := ucg F0 (7*N10+6) (N6))
  have q1 := uni2 (H1 (N10))
  clear H1
  omega
theorem L_jwJ {F0 F1 : Int → Int} {N0 N1 N2 N3 N4 N5 N6 N7 N8 N9 N10 N11 : Int} (H0 : cUs N10 N11) (H1 : cJwo F0 F1 N0 N1 N2 N3) (H2 : 0 ≤ (-1)+(-1)*N3) (H3 : 0 ≤ (0)+(1)*N10+(-1)*N0) (H4 : 0 ≤ (-1)+(1)*N1+(-1)*N10) (H5 : N4 = (0)+(7)*N10) (H6 : F0 N4 = N5) (H7 : 0 ≤ (-4)+(1)*N5) (H8 : N6 = (6)+(7)*N10) (H9 : F0 N6 = N7) (H10 : N8 = (0)+(6)*N7) (H11 : F1 N8 = N9) : (0 ≤ (0)+(1)*N9+(-1)*N10) ∧ (0 ≤ (0)+(1)*N10+(-1)*N9) := by
  unfold cJwo cUs at *
  rcases H1 with H1 | H1
  · exfalso; omega
  first | (have c0 : F0 (7*N10) = F0 (N4) := (ucg F0 (7*N10) (N4)).resolve_left (fun h => h (by omega))) | (have c0 : (7*N10) ≠ (N4) := by omega; clear c0) | (have c0 := ucg F0 (7*N10) (N4))
  first | (have c1 : F0 (7*N10+6) = F0 (N6) := (ucg F0 (7*N10+6) (N6)).resolve_left (fun h => h (by omega))) | (have c1 : (7*N10+6) ≠ (N6) := by omega; clear c1) | (have c1 := ucg F0 (7*N10+6) (N6))
  first | (have c2 : F1 (6*F0 (7*N10+6)) = F1 (N8) := (ucg F1 (6*F0 (7*N10+6)) (N8)).resolve_left (fun h => h (by omega))) | (have c2 : (6*F0 (7*N10+6)) ≠ (N8) := by omega; clear c2) | (have c2 := ucg F1 (6*F0 (7*N10+6)) (N8))
  have q1 := uni2 (H1 (N10))
  clear H1
  omega
theorem L_sqSj {F0 F1 F2 : Int → Int} {N0 N1 N2 N3 N4 N5 N6 N7 N8 N9 N10 N11 N12 N13 N14 N15 N16 N17 N18 N19 N20 N21 N22 N23 : Int} (H0 : ∀ x : Int, F2 x = if x = N4 then N5 else F0 x) (H1 : cUs N10 N11) (H2 : cShq F0 F1 N0 N1) (H3 : 0 ≤ (0)+(1)*N4+(-7)*N10) (H4 : 0 ≤ (0)+(7)*N10+(-1)*N4) (H5 : cJwo F0 F1 N20 N21 N22 N23) (H6 : 0 ≤ (-1)+(-1)*N23) (H7 : 0 ≤ (0)+(1)*N10+(-1)*N20) (H8 : 0 ≤ (-1)+(1)*N21+(-1)*N10) (H9 : N13 = (0)+(7)*N10) (H10 : F0 N13 = N14) (H11 : 0 ≤ (-4)+(1)*N14) (H12 : N12 = (6)+(7)*N10) (H13 : F0 N12 = N6) (H14 : cWpl F1 N6) : (cShq F2 F1 N0 N1) := by
  unfold cJwo cShq cUs cWpl at *
  rcases H5 with H5 | H5
  · exfalso; omega
  intro x g0 g1
  first | (have w0 := (uwr2 H0 (7*x)).resolve_left (fun h => by omega)) | (have w0 := (uwr2 H0 (7*x)).resolve_right (fun h => by omega)) | (have w0 := uwr2 H0 (7*x))
  first | (have w1 := (uwr2 H0 (7*x+6)).resolve_left (fun h => by omega)) | (have w1 := (uwr2 H0 (7*x+6)).resolve_right (fun h => by omega)) | (have w1 := uwr2 H0 (7*x+6))
  first | (have c2 : F0 (7*x) = F0 (N13) := (ucg F0 (7*x) (N13)).resolve_left (fun h => h (by omega))) | (have c2 : (7*x) ≠ (N13) := by omega; clear c2) | (have c2 := ucg F0 (7*x) (N13))
  first | (have c3 : F0 (7*x+6) = F0 (N12) := (ucg F0 (7*x+6) (N12)).resolve_left (fun h => h (by omega))) | (have c3 : (7*x+6) ≠ (N12) := by omega; clear c3) | (have c3 := ucg F0 (7*x+6) (N12))
  first | (have c4 : F1 (6*F0 (7*x+6)) = F1 (6*F2 (7*x+6)) := (ucg F1 (6*F0 (7*x+6)) (6*F2 (7*x+6))).resolve_left (fun h => h (by omega))) | (have c4 : (6*F0 (7*x+6)) ≠ (6*F2 (7*x+6)) := by omega; clear c4) | (have c4 := ucg F1 (6*F0 (7*x+6)) (6*F2 (7*x+6)))
  first | (have c5 : F1 (6*F0 (7*x+6)+4) = F1 (6*F2 (7*x+6)+4) := (ucg F1 (6*F0 (7*x+6)+4) (6*F2 (7*x+6)+4)).resolve_left (fun h => h (by omega))) | (have c5 : (6*F0 (7*x+6)+4) ≠ (6*F2 (7*x+6)+4) := by omega; clear c5) | (have c5 := ucg F1 (6*F0 (7*x+6)+4) (6*F2 (7*x+6)+4))
  first | (have c6 : F1 (6*N6+4) = F1 (6*F2 (7*x+6)+4) := (ucg F1 (6*N6+4) (6*F2 (7*x+6)+4)).resolve_left (fun h => h (by omega))) | (have c6 : (6*N6+4) ≠ (6*F2 (7*x+6)+4) := by omega; clear c6) | (have c6 := ucg F1 (6*N6+4) (6*F2 (7*x+6)+4))
  first | (have c7 : F1 (6*N6+4) = F1 (6*F0 (7*x+6)+4) := (ucg F1 (6*N6+4) (6*F0 (7*x+6)+4)).resolve_left (fun h => h (by omega))) | (have c7 : (6*N6+4) ≠ (6*F0 (7*x+6)+4) := by omega; clear c7) | (have c7 := ucg F1 (6*N6+4) (6*F0 (7*x+6)+4))
  have q1 := uni2 (H2 (x))
  clear H2
  have q2 := uni2 (H5 (x))
  clear H5
  omega
theorem L_pl1T {F0 : Int → Int} {N0 N1 N2 : Int} (H0 : 0 ≤ (0)+(1)*N2) (H1 : 0 ≤ (0)) (H2 : 0 ≤ (0)) : (∀ x : Int, N0 ≤ x → x < N1 → (0 ≤ 3+(-1)*F0 (7*x)) ∨ (0 ≤ -5+(1)*F0 (7*x)) ∨ (0 ≤ -5+(1)*F0 (7*x+4)) ∨ (0 ≤ 0+(1)*N2)) := by
  intro x g0 g1
  omega
theorem L_pl2T {F0 : Int → Int} {N0 N1 N2 : Int} (H0 : 0 ≤ (0)+(1)*N2) (H1 : 0 ≤ (0)) (H2 : 0 ≤ (0)) : (∀ x : Int, N0 ≤ x → x < N1 → (0 ≤ 3+(-1)*F0 (7*x)) ∨ (0 ≤ -5+(1)*F0 (7*x)) ∨ (0 ≤ -6+(1)*F0 (7*x+4)) ∨ (0 ≤ -1+(-1)*F0 (7*x+5)) ∨ (0 ≤ 0+(1)*N2)) := by
  intro x g0 g1
  omega
theorem L_spI1 {F0 : Int → Int} {N0 N1 N2 N3 N4 N5 N6 N7 N8 N9 N10 N11 N12 N13 N14 N15 N16 N17 N18 N19 : Int} (H0 : cUs N10 N11) (H1 : ∀ x : Int, N12 ≤ x → x < N13 → (0 ≤ -1+(-1)*F0 (6*x+5)) ∨ (0 ≤ -2+(-1)*F0 (6*x+4)) ∨ (0 ≤ 0+(1)*F0 (6*x+4))) (H2 : 0 ≤ (0)+(1)*N10+(-1)*N12) (H3 : 0 ≤ (-1)+(1)*N13+(-1)*N10) (H4 : N14 = (5)+(6)*N10) (H5 : F0 N14 = N15) (H6 : 0 ≤ (0)+(1)*N15) (H7 : N16 = (4)+(6)*N10) (H8 : F0 N16 = N19) (H9 : 0 ≤ (0)+(1)*N0) (H10 : 0 ≤ (0)+(-1)*N0) (H11 : 0 ≤ (-1)+(1)*N1) (H12 : 0 ≤ (1)+(-1)*N1) (H13 : 0 ≤ (0)+(1)*N3+(-1)*N19) (H14 : 0 ≤ (0)+(1)*N19+(-1)*N3) (H15 : 0 ≤ (2)+(1)*N2+(1)*N19) (H16 : 0 ≤ (-2)+(-1)*N19+(-1)*N2) : (N1 ≤ N0 ∨ 0 ≤ N2 ∨ 0 ≤ N3) := by
  unfold cUs at *
  first | (have c0 : F0 (6*N10+5) = F0 (N14) := (ucg F0 (6*N10+5) (N14)).resolve_left (fun h => h (by omega))) | (have c0 : (6*N10+5) ≠ (N14) := by omega; clear c0) | (have c0 := ucg F0 (6*N10+5) (N14))
  first | (have c1 : F0 (6*N10+4) = F0 (N16) := (ucg F0 (6*N10+4) (N16)).resolve_left (fun h => h (by omega))) | (have c1 : (6*N10+4) ≠ (N16) := by omega; clear c1) | (have c1 := ucg F0 (6*N10+4) (N16))
  have q1 := uni2 (H1 (N10))
  clear H1
  omega
theorem L_spI2 {F0 : Int → Int} {N0 N1 N2 N3 N4 N5 N6 N7 N8 N9 N10 N11 N12 N13 N14 N15 N16 N17 N18 N19 : Int} (H0 : cUs N10 N11) (H1 : ∀ x : Int, N12 ≤ x → x < N13 → (0 ≤ 1+(1)*F0 (6*x+5)) ∨ (0 ≤ -2+(-1)*F0 (6*x+4)) ∨ (0 ≤ 0+(1)*F0 (6*x+4))) (H2 : 0 ≤ (0)+(1)*N10+(-1)*N12) (H3 : 0 ≤ (-1)+(1)*N13+(-1)*N10) (H4 : N14 = (5)+(6)*N10) (H5 : F0 N14 = N15) (H6 : 0 ≤ (-2)+(-1)*N15) (H7 : N16 = (4)+(6)*N10) (H8 : F0 N16 = N19) (H9 : 0 ≤ (0)+(1)*N0) (H10 : 0 ≤ (0)+(-1)*N0) (H11 : 0 ≤ (-1)+(1)*N1) (H12 : 0 ≤ (1)+(-1)*N1) (H13 : 0 ≤ (0)+(1)*N3+(-1)*N19) (H14 : 0 ≤ (0)+(1)*N19+(-1)*N3) (H15 : 0 ≤ (2)+(1)*N2+(1)*N19) (H16 : 0 ≤ (-2)+(-1)*N19+(-1)*N2) : (N1 ≤ N0 ∨ 0 ≤ N2 ∨ 0 ≤ N3) := by
  unfold cUs at *
  first | (have c0 : F0 (6*N10+5) = F0 (N14) := (ucg F0 (6*N10+5) (N14)).resolve_left (fun h => h (by omega))) | (have c0 : (6*N10+5) ≠ (N14) := by omega; clear c0) | (have c0 := ucg F0 (6*N10+5) (N14))
  first | (have c1 : F0 (6*N10+4) = F0 (N16) := (ucg F0 (6*N10+4) (N16)).resolve_left (fun h => h (by omega))) | (have c1 : (6*N10+4) ≠ (N16) := by omega; clear c1) | (have c1 := ucg F0 (6*N10+4) (N16))
  have q1 := uni2 (H1 (N10))
  clear H1
  omega
theorem L_cLP {F0 F1 F2 : Int → Int} {N0 N1 N2 N3 N4 N5 N6 N7 N8 N9 N10 N11 : Int} (H0 : ∀ x : Int, F2 x = if x = N5 then N6 else F0 x) (H1 : cUs N10 N11) (H2 : cCurL F0 F1 N0 N1 N2 N3 N4) (H3 : 0 ≤ (-3)+(1)*N5+(-6)*N10) (H4 : 0 ≤ (5)+(6)*N10+(-1)*N5) : (cCurL F2 F1 N0 N1 N2 N3 N4) := by
  unfold cCurL cUs at *
  by_cases ee : 0 ≤ N4
  · exact Or.inl ee
  right
  rcases H2 with H2 | H2
  · exfalso; omega
  intro x g0 g1
  first | (have w0 := (uwr2 H0 (6*x)).resolve_left (fun h => by omega)) | (have w0 := (uwr2 H0 (6*x)).resolve_right (fun h => by omega)) | (have w0 := uwr2 H0 (6*x))
  first | (have w1 := (uwr2 H0 (6*x+1)).resolve_left (fun h => by omega)) | (have w1 := (uwr2 H0 (6*x+1)).resolve_right (fun h => by omega)) | (have w1 := uwr2 H0 (6*x+1))
  first | (have w2 := (uwr2 H0 (6*x+2)).resolve_left (fun h => by omega)) | (have w2 := (uwr2 H0 (6*x+2)).resolve_right (fun h => by omega)) | (have w2 := uwr2 H0 (6*x+2))
  first | (have c3 : F1 (7*F0 (6*x)) = F1 (7*F2 (6*x)) := (ucg F1 (7*F0 (6*x)) (7*F2 (6*x))).resolve_left (fun h => h (by omega))) | (have c3 : (7*F0 (6*x)) ≠ (7*F2 (6*x)) := by omega; clear c3) | (have c3 := ucg F1 (7*F0 (6*x)) (7*F2 (6*x)))
  first | (have c4 : F1 (7*F0 (6*x)+4) = F1 (7*F2 (6*x)+4) := (ucg F1 (7*F0 (6*x)+4) (7*F2 (6*x)+4)).resolve_left (fun h => h (by omega))) | (have c4 : (7*F0 (6*x)+4) ≠ (7*F2 (6*x)+4) := by omega; clear c4) | (have c4 := ucg F1 (7*F0 (6*x)+4) (7*F2 (6*x)+4))
  first | (have c5 : F1 (7*F0 (6*x)+5) = F1 (7*F2 (6*x)+5) := (ucg F1 (7*F0 (6*x)+5) (7*F2 (6*x)+5)).resolve_left (fun h => h (by omega))) | (have c5 : (7*F0 (6*x)+5) ≠ (7*F2 (6*x)+5) := by omega; clear c5) | (have c5 := ucg F1 (7*F0 (6*x)+5) (7*F2 (6*x)+5))
  have q1 := uni2 (H2 (x))
  clear H2
  omega
theorem L_cLw {F0 F1 F2 : Int → Int} {N0 N1 N2 N3 N4 N5 N6 N7 N8 N9 N10 N11 : Int} (H0 : ∀ x : Int, F2 x = if x = N5 then N6 else F0 x) (H1 : cUs N10 N11) (H2 : cCurL F0 F1 N0 N1 N2 N3 N4) (H3 : 0 ≤ (-2)+(1)*N5+(-6)*N10) (H4 : 0 ≤ (2)+(6)*N10+(-1)*N5) (H5 : 0 ≤ (0)+(-1)*N6) (H6 : 0 ≤ (0)+(1)*N6) : (cCurL F2 F1 N0 N1 N2 N3 N4) := by
  unfold cCurL cUs at *
  by_cases ee : 0 ≤ N4
  · exact Or.inl ee
  right
  rcases H2 with H2 | H2
  · exfalso; omega
  intro x g0 g1
  first | (have w0 := (uwr2 H0 (6*x)).resolve_left (fun h => by omega)) | (have w0 := (uwr2 H0 (6*x)).resolve_right (fun h => by omega)) | (have w0 := uwr2 H0 (6*x))
  first | (have w1 := (uwr2 H0 (6*x+1)).resolve_left (fun h => by omega)) | (have w1 := (uwr2 H0 (6*x+1)).resolve_right (fun h => by omega)) | (have w1 := uwr2 H0 (6*x+1))
  first | (have w2 := (uwr2 H0 (6*x+2)).resolve_left (fun h => by omega)) | (have w2 := (uwr2 H0 (6*x+2)).resolve_right (fun h => by omega)) | (have w2 := uwr2 H0 (6*x+2))
  first | (have c3 : F1 (7*F0 (6*x)) = F1 (7*F2 (6*x)) := (ucg F1 (7*F0 (6*x)) (7*F2 (6*x))).resolve_left (fun h => h (by omega))) | (have c3 : (7*F0 (6*x)) ≠ (7*F2 (6*x)) := by omega; clear c3) | (have c3 := ucg F1 (7*F0 (6*x)) (7*F2 (6*x)))
  first | (have c4 : F1 (7*F0 (6*x)+4) = F1 (7*F2 (6*x)+4) := (ucg F1 (7*F0 (6*x)+4) (7*F2 (6*x)+4)).resolve_left (fun h => h (by omega))) | (have c4 : (7*F0 (6*x)+4) ≠ (7*F2 (6*x)+4) := by omega; clear c4) | (have c4 := ucg F1 (7*F0 (6*x)+4) (7*F2 (6*x)+4))
  first | (have c5 : F1 (7*F0 (6*x)+5) = F1 (7*F2 (6*x)+5) := (ucg F1 (7*F0 (6*x)+5) (7*F2 (6*x)+5)).resolve_left (fun h => h (by omega))) | (have c5 : (7*F0 (6*x)+5) ≠ (7*F2 (6*x)+5) := by omega; clear c5) | (have c5 := ucg F1 (7*F0 (6*x)+5) (7*F2 (6*x)+5))
  have q1 := uni2 (H2 (x))
  clear H2
  omega
theorem L_wcXJ {F0 F1 : Int → Int} {N0 N1 N2 N3 N4 N5 N6 N7 N8 N9 N10 N11 N12 N13 N14 N15 N16 N17 N18 N19 N20 N21 N22 N23 : Int} (H0 : N2 = (-1)+(1)*N1) (H1 : cWlc F0 F1 N0 N2) (H2 : cCurL F0 F1 N3 N4 N5 N6 N7) (H3 : 0 ≤ (-1)+(-1)*N7) (H4 : 0 ≤ (0)+(1)*N2+(-1)*N3) (H5 : 0 ≤ (0)+(1)*N4+(-1)*N1) (H6 : N12 = (-6)+(6)*N1) (H7 : F0 N12 = N8) (H8 : 0 ≤ (-1)+(1)*N5+(-1)*N8) (H9 : N13 = (0)+(7)*N8) (H10 : F1 N13 = N9) (H11 : 0 ≤ (4)+(-1)*N9) (H12 : ∀ x : Int, N20 ≤ x → x < N21 → (0 ≤ 3+(-1)*F1 (7*x)) ∨ (0 ≤ -5+(1)*F1 (7*x)) ∨ (0 ≤ -5+(1)*F1 (7*x+4)) ∨ (0 ≤ 0+(1)*N22)) (H13 : 0 ≤ (-1)+(-1)*N22) (H14 : 0 ≤ (0)+(1)*N8+(-1)*N20) (H15 : 0 ≤ (-1)+(1)*N21+(-1)*N8) (H16 : ∀ x : Int, N20 ≤ x → x < N21 → (0 ≤ 3+(-1)*F1 (7*x)) ∨ (0 ≤ -5+(1)*F1 (7*x)) ∨ (0 ≤ -6+(1)*F1 (7*x+4)) ∨ (0 ≤ -1+(-1)*F1 (7*x+5)) ∨ (0 ≤ 0+(1)*N23)) (H17 : 0 ≤ (-1)+(-1)*N23) : (cWlc F0 F1 N0 N1) := by
  unfold cCurL cWlc at *
  rcases H2 with H2 | H2
  · exfalso; omega
  intro x g0 g1
  first | (have c0 : F0 (6*x) = F0 (N12) := (ucg F0 (6*x) (N12)).resolve_left (fun h => h (by omega))) | (have c0 : (6*x) ≠ (N12) := by omega; clear c0) | (have c0 := ucg F0 (6*x) (N12))
  first | (have c1 : F1 (7*F0 (6*x)) = F1 (N13) := (ucg F1 (7*F0 (6*x)) (N13)).resolve_left (fun h => h (by omega))) | (have c1 : (7*F0 (6*x)) ≠ (N13) := by omega; clear c1) | (have c1 := ucg F1 (7*F0 (6*x)) (N13))
  first | (have c2 : F1 (7*N8) = F1 (N13) := (ucg F1 (7*N8) (N13)).resolve_left (fun h => h (by omega))) | (have c2 : (7*N8) ≠ (N13) := by omega; clear c2) | (have c2 := ucg F1 (7*N8) (N13))
  first | (have c3 : F1 (7*N8) = F1 (7*F0 (6*x)) := (ucg F1 (7*N8) (7*F0 (6*x))).resolve_left (fun h => h (by omega))) | (have c3 : (7*N8) ≠ (7*F0 (6*x)) := by omega; clear c3) | (have c3 := ucg F1 (7*N8) (7*F0 (6*x)))
  first | (have c4 : F1 (7*N8+4) = F1 (7*F0 (6*x)+4) := (ucg F1 (7*N8+4) (7*F0 (6*x)+4)).resolve_left (fun h => h (by omega))) | (have c4 : (7*N8+4) ≠ (7*F0 (6*x)+4) := by omega; clear c4) | (have c4 := ucg F1 (7*N8+4) (7*F0 (6*x)+4))
  first | (have c5 : F1 (7*N8+5) = F1 (7*F0 (6*x)+5) := (ucg F1 (7*N8+5) (7*F0 (6*x)+5)).resolve_left (fun h => h (by omega))) | (have c5 : (7*N8+5) ≠ (7*F0 (6*x)+5) := by omega; clear c5) | (have c5 := ucg F1 (7*N8+5) (7*F0 (6*x)+5))
  have q0 := uni2 (H1 (x))
  clear H1
  have q1 := uni2 (H2 (x))
  clear H2
  have q2 := uni2 (H12 (N8))
  clear H12
  have q3 := uni2 (H16 (N8))
  clear H16
  omega
theorem L_wcH {F0 F1 : Int → Int} {N0 N1 N2 : Int} (H0 : cWlc F0 F1 N0 N2) (H1 : 0 ≤ (0)+(1)*N2+(-1)*N1) : (cWlc F0 F1 N0 N1) := by
  unfold cWlc at *
  intro x g0 g1
  have q0 := uni2 (H0 (x))
  clear H0
  omega
theorem L_leX {F0 : Int → Int} {N0 N1 N2 N3 N4 N5 : Int} (H0 : ∀ x : Int, N0 ≤ x → x < N2 → (0 ≤ 2+(-1)*F0 (7*x)) ∨ (0 ≤ -1+(1)*F0 (7*x+4))) (H1 : ∀ x : Int, N3 ≤ x → x < N1 → (0 ≤ 2+(-1)*F0 (7*x)) ∨ (0 ≤ -4+(1)*F0 (7*x)) ∨ (0 ≤ -1+(1)*F0 (7*x+4))) (H2 : ∀ x : Int, N4 ≤ x → x < N5 → (0 ≤ 3+(-1)*F0 (7*x)) ∨ (0 ≤ -2+(1)*F0 (7*x+4))) (H3 : 0 ≤ (0)+(1)*N2+(-1)*N3) (H4 : 0 ≤ (0)+(1)*N2+(-1)*N4) (H5 : 0 ≤ (0)+(1)*N5+(-1)*N1) : (∀ x : Int, N0 ≤ x → x < N1 → (0 ≤ 2+(-1)*F0 (7*x)) ∨ (0 ≤ -1+(1)*F0 (7*x+4))) := by
  intro x g0 g1
  have q0 := uni2 (H0 (x))
  clear H0
  have q1 := uni2 (H1 (x))
  clear H1
  have q2 := uni2 (H2 (x))
  clear H2
  omega
theorem L_sqWb {F0 F1 : Int → Int} {N0 N1 N2 N3 N4 N5 N6 N7 N8 N9 N10 N11 N12 N13 N14 N15 N16 N17 : Int} (H0 : cUs N10 N11) (H1 : cShq F0 F1 N12 N13) (H2 : 0 ≤ (0)+(1)*N10+(-1)*N12) (H3 : 0 ≤ (-1)+(1)*N13+(-1)*N10) (H4 : N14 = (0)+(7)*N10) (H5 : F0 N14 = N15) (H6 : 0 ≤ (-5)+(1)*N15) (H7 : N16 = (6)+(7)*N10) (H8 : F0 N16 = N17) : (0 ≤ (0)+(1)*N17) := by
  unfold cShq cUs at *
  first | (have c0 : F0 (7*N10) = F0 (N14) := (ucg F0 (7*N10) (N14)).resolve_left (fun h => h (by omega))) | (have c0 : (7*N10) ≠ (N14) := by omega; clear c0) | (have c0 := ucg F0 (7*N10) (N14))
  first | (have c1 : F0 (7*N10+6) = F0 (N16) := (ucg F0 (7*N10+6) (N16)).resolve_left (fun h => h (by omega))) | (have c1 : (7*N10+6) ≠ (N16) := by omega; clear c1) | (have c1 := ucg F0 (7*N10+6) (N16))
  have q1 := uni2 (H1 (N10))
  clear H1
  omega
theorem L_fpS {F0 F1 F2 : Int → Int} {N0 N1 N2 N3 N4 N5 N6 N7 N8 N9 N10 N11 : Int} (H0 : cUs N4 N11) (H1 : cPlc F0 F1 F2 N0 N1 N2 N3) (H2 : 0 ≤ (-4)+(1)*N1) (H3 : 0 ≤ (0)+(1)*N4) (H4 : 0 ≤ (-1)+(1)*N0+(-1)*N4) (H5 : F1 N6 = N7) (H6 : 0 ≤ (-1)+(1)*N7) (H7 : N5 = (0)+(1)*N6+(-4)*N4) (H8 : 0 ≤ (0)+(1)*N5) (H9 : 0 ≤ (3)+(-1)*N5) (H10 : F0 N6 = N8) (H11 : N10 = (9)+(17)*N4+(1)*N5) (H12 : F2 N10 = N9) : (0 ≤ (-4194304)+(1)*N8) ∧ (0 ≤ (0)+(1)*N3+(-1)*N8+(-1)*N9) := by
  unfold cPlc cUs at *
  first | (have c0 : F1 (4*N4+N5) = F1 (N6) := (ucg F1 (4*N4+N5) (N6)).resolve_left (fun h => h (by omega))) | (have c0 : (4*N4+N5) ≠ (N6) := by omega; clear c0) | (have c0 := ucg F1 (4*N4+N5) (N6))
  first | (have c1 : F0 (4*N4+N5) = F0 (N6) := (ucg F0 (4*N4+N5) (N6)).resolve_left (fun h => h (by omega))) | (have c1 : (4*N4+N5) ≠ (N6) := by omega; clear c1) | (have c1 := ucg F0 (4*N4+N5) (N6))
  first | (have c2 : F2 (17*N4+N5+9) = F2 (N10) := (ucg F2 (17*N4+N5+9) (N10)).resolve_left (fun h => h (by omega))) | (have c2 : (17*N4+N5+9) ≠ (N10) := by omega; clear c2) | (have c2 := ucg F2 (17*N4+N5+9) (N10))
  have q0 := uni5 (H1 (N4) (N5))
  omega
theorem L_fwK {F0 F1 : Int → Int} {N0 N1 N2 N3 N4 N5 N6 N7 N8 N9 : Int} (H0 : cUs N2 N9) (H1 : cWlk F0 F1 N0 N1) (H2 : 0 ≤ (0)+(1)*N2) (H3 : 0 ≤ (-1)+(1)*N0+(-1)*N2) (H4 : N3 = (0)+(6)*N2) (H5 : F0 N3 = N4) : (0 ≤ (0)+(1)*N4) ∧ (0 ≤ (-1)+(1)*N1+(-1)*N4) := by
  unfold cUs cWlk at *
  first | (have c0 : F0 (6*N2) = F0 (N3) := (ucg F0 (6*N2) (N3)).resolve_left (fun h => h (by omega))) | (have c0 : (6*N2) ≠ (N3) := by omega; clear c0) | (have c0 := ucg F0 (6*N2) (N3))
  have q1 := uni2 (H1 (N2))
  clear H1
  omega
theorem L_lzW {F0 F1 : Int → Int} {N0 N1 N2 N3 N4 N5 N6 N7 N8 N9 N10 N11 N12 N13 N14 N15 N16 N17 N18 N19 N20 N21 N22 : Int} (H0 : cUs N2 N9) (H1 : cWlk F0 F1 N0 N1) (H2 : 0 ≤ (0)+(1)*N2) (H3 : 0 ≤ (-1)+(1)*N0+(-1)*N2) (H4 : 0 ≤ (-2)+(1)*N20+(-6)*N2) (H5 : 0 ≤ (2)+(6)*N2+(-1)*N20) (H6 : 0 ≤ (1)+(1)*N20+(-1)*N21) (H7 : N3 = (0)+(6)*N2) (H8 : F0 N3 = N4) (H9 : N5 = (1)+(6)*N2) (H10 : F0 N5 = N6) (H11 : N10 = (4)+(7)*N4) (H12 : F1 N10 = N11) (H13 : 0 ≤ (0)+(1)*N22+(-1)*N11+(1)*N6) : (∀ x : Int, N20 ≤ x → x < N21 → (0 ≤ 0+(-1)*F0 (x)) ∨ (0 ≤ 0+(1)*N22+(-1)*F0 (x))) := by
  unfold cUs cWlk at *
  intro x g0 g1
  first | (have c0 : F0 (x) = F0 (N3) := (ucg F0 (x) (N3)).resolve_left (fun h => h (by omega))) | (have c0 : (x) ≠ (N3) := by omega; clear c0) | (have c0 := ucg F0 (x) (N3))
  first | (have c1 : F0 (x) = F0 (N5) := (ucg F0 (x) (N5)).resolve_left (fun h => h (by omega))) | (have c1 : (x) ≠ (N5) := by omega; clear c1) | (have c1 := ucg F0 (x) (N5))
  first | (have c2 : F0 (6*N2) = F0 (N3) := (ucg F0 (6*N2) (N3)).resolve_left (fun h => h (by omega))) | (have c2 : (6*N2) ≠ (N3) := by omega; clear c2) | (have c2 := ucg F0 (6*N2) (N3))
  first | (have c3 : F0 (6*N2) = F0 (x) := (ucg F0 (6*N2) (x)).resolve_left (fun h => h (by omega))) | (have c3 : (6*N2) ≠ (x) := by omega; clear c3) | (have c3 := ucg F0 (6*N2) (x))
  first | (have c4 : F0 (6*N2+1) = F0 (N5) := (ucg F0 (6*N2+1) (N5)).resolve_left (fun h => h (by omega))) | (have c4 : (6*N2+1) ≠ (N5) := by omega; clear c4) | (have c4 := ucg F0 (6*N2+1) (N5))
  first | (have c5 : F0 (6*N2+1) = F0 (x) := (ucg F0 (6*N2+1) (x)).resolve_left (fun h => h (by omega))) | (have c5 : (6*N2+1) ≠ (x) := by omega; clear c5) | (have c5 := ucg F0 (6*N2+1) (x))
  first | (have c6 : F0 (6*N2+2) = F0 (x) := (ucg F0 (6*N2+2) (x)).resolve_left (fun h => h (by omega))) | (have c6 : (6*N2+2) ≠ (x) := by omega; clear c6) | (have c6 := ucg F0 (6*N2+2) (x))
  first | (have c7 : F1 (7*F0 (6*N2)+4) = F1 (N10) := (ucg F1 (7*F0 (6*N2)+4) (N10)).resolve_left (fun h => h (by omega))) | (have c7 : (7*F0 (6*N2)+4) ≠ (N10) := by omega; clear c7) | (have c7 := ucg F1 (7*F0 (6*N2)+4) (N10))
  have q0 := uni2 (H1 (N2))
  clear H1
  omega
theorem L_eoE {F0 F1 : Int → Int} {N0 N1 N2 N3 N4 : Int} (H0 : ∀ x : Int, N2 ≤ x → x < N3 → 0 ≤ N4 - F1 x) (H1 : N2 ≤ 0) (H2 : 4 ≤ N3) (H3 : N4 ≤ 0) : cEo F0 F1 N0 N1 := by
  intro t a b; left; have q := H0 t (by omega) (by omega); omega
theorem L_eoS {F0 F1 F2 : Int → Int} {N0 N1 N2 N3 : Int} (H0 : ∀ x : Int, F2 x = if x = N2 then N3 else F0 x) (H1 : cEo F0 F1 N0 N1) (H2 : 0 ≤ N2 - 7*N1) : cEo F2 F1 N0 N1 := by
  intro t a b
  rcases H1 t a b with q | ⟨j, p1, p2, p3⟩
  · exact Or.inl q
  · have w3 := ((uwr2 H0 (7*j+3)).resolve_left (fun h => by omega)).2
    have w4 := ((uwr2 H0 (7*j+4)).resolve_left (fun h => by omega)).2
    exact Or.inr ⟨j, p1, p2, by omega⟩
theorem L_eoK {F0 F1 F2 : Int → Int} {N0 N1 N2 N3 N10 : Int} (H0 : ∀ x : Int, F2 x = if x = N2 then N3 else F0 x) (H1 : cEo F0 F1 N0 N1) (H2 : 0 ≤ N2 - 7*N10) (H3 : 0 ≤ 7*N10 - N2) : cEo F2 F1 N0 N1 := by
  intro t a b
  rcases H1 t a b with q | ⟨j, p1, p2, p3⟩
  · exact Or.inl q
  · have w3 := ((uwr2 H0 (7*j+3)).resolve_left (fun h => by omega)).2
    have w4 := ((uwr2 H0 (7*j+4)).resolve_left (fun h => by omega)).2
    exact Or.inr ⟨j, p1, p2, by omega⟩
theorem L_eoM {F0 F1 : Int → Int} {N0 N1 : Int} (H0 : cEo F0 F1 N0 (N1 - 1)) : cEo F0 F1 N0 N1 := by
  intro t a b
  rcases H0 t a b with q | ⟨j, p1, p2, p3⟩
  · exact Or.inl q
  · exact Or.inr ⟨j, p1, by omega, p3⟩
theorem L_eoX {F0 F1 F2 : Int → Int} {N0 N1 N2 N3 N4 N5 N6 N7 N8 : Int} (H0 : ∀ x : Int, F2 x = if x = N2 then N3 else F1 x) (H1 : N4 = N1 - 1) (H2 : cEo F0 F1 N0 N4) (H3 : 0 ≤ N4 - N0) (H4 : N5 = 7*N1 - 4) (H5 : F0 N5 = N6) (H6 : N7 = 7*N1 - 3) (H7 : F0 N7 = N8) (H8 : 0 ≤ N6 + N8 - N3) : cEo F0 F2 N0 N1 := by
  intro t a b
  rcases uwr2 H0 t with w | w
  · have e5 : N5 = 7*(N1-1)+3 := by omega
    have e7 : N7 = 7*(N1-1)+4 := by omega
    rw [e5] at H5; rw [e7] at H7
    exact Or.inr ⟨N1 - 1, by omega, by omega, by omega⟩
  · rcases H2 t a b with q | ⟨j, p1, p2, p3⟩
    · left; omega
    · exact Or.inr ⟨j, p1, by omega, by omega⟩
theorem L_eoL {F0 F1 : Int → Int} {N0 N1 N2 N3 N4 N5 N6 : Int} (H0 : cEo F0 F1 N0 N1) (H1 : ∀ x : Int, N5 ≤ x → x < N6 → 0 ≤ 65536 - F0 (7*x+3) - F0 (7*x+4)) (H2 : 0 ≤ N0 - N5) (H3 : 0 ≤ N6 - N1) (H4 : 0 ≤ N2) (H5 : 0 ≤ 4 - N3) (H6 : 0 ≤ N4 - 65536) : ∀ x : Int, N2 ≤ x → x < N3 → 0 ≤ N4 - F1 x := by
  intro x a b
  rcases H0 x (by omega) (by omega) with q | ⟨j, p1, p2, p3⟩
  · omega
  · have r := H1 j (by omega) (by omega); omega
theorem L_cuS {F0 F1 F2 : Int → Int} {N0 N1 N2 N3 N4 : Int} (H0 : cFits F0 F2 N1 N2) (H1 : ∀ x : Int, N3 ≤ x → x < N4 → 0 ≤ F1 (x+17*N0+9) - F2 x) (H2 : 0 ≤ 0 - N3) (H3 : 4 ≤ N4) : cCurS F0 F1 N0 N1 N2 := by
  intro j a b c d
  have q := H0 j a b
  have r := H1 (F0 (7*j+1)) (by omega) (by omega)
  rw [show F0 (7*j+1)+17*N0+9 = 17*N0+F0 (7*j+1)+9 by omega] at r
  omega
theorem L_stE {F0 F1 : Int → Int} {N0 N1 : Int} (H0 : 0 ≤ 0 - N0) : cStu F0 F1 N0 N1 := by intro u a b; exfalso; omega
theorem L_stW {F0 F1 F2 : Int → Int} {N0 N1 N2 N3 : Int} (H0 : ∀ x : Int, F2 x = if x = N2 then N3 else F0 x) (H1 : cStu F0 F1 N0 N1) (H2 : 0 ≤ N2 - 7*N1) : cStu F2 F1 N0 N1 := by
  intro u a b
  have q := H1 u a b
  refine ⟨q.1, fun j c d e f g => ?_⟩
  have w1 := ((uwr2 H0 (7*j+1)).resolve_left (fun h => by omega)).2
  have w3 := ((uwr2 H0 (7*j+3)).resolve_left (fun h => by omega)).2
  have w4 := ((uwr2 H0 (7*j+4)).resolve_left (fun h => by omega)).2
  rw [w1] at f g ⊢
  rw [w3, w4]; exact q.2 j c d e f g
theorem L_stR {F0 F1 F2 : Int → Int} {N0 N1 N2 N3 : Int} (H0 : ∀ x : Int, F2 x = if x = N2 then N3 else F1 x) (H1 : cStu F0 F1 N0 N1) (H2 : 0 ≤ N2 - 17*N0) : cStu F0 F2 N0 N1 := by
  intro u a b
  have q := H1 u a b
  refine ⟨fun h => ?_, fun j c d e f g => ?_⟩
  · have w := ((uwr2 H0 (17*u+18)).resolve_left (fun h => by omega)).2
    rw [w]; exact q.1 h
  · have w1 := ((uwr2 H0 (17*u+1)).resolve_left (fun h => by omega)).2
    have w9 := ((uwr2 H0 (17*u+F0 (7*j+1)+9)).resolve_left (fun h => by omega)).2
    rw [w1] at c; rw [w9]
    refine q.2 j c ?_ e f g
    rcases d with d | d
    · exact Or.inl d
    · by_cases h : u + 1 = N0
      · exact Or.inl h
      · have w := ((uwr2 H0 (17*u+18)).resolve_left (fun h => by omega)).2
        rw [w] at d; exact Or.inr d
theorem L_stX {F0 F1 : Int → Int} {N0 N1 N2 N3 N4 N5 : Int} (H0 : N2 = N0 - 1) (H1 : cCurS F0 F1 N2 N3 N1) (H2 : cStu F0 F1 N2 N3) (H3 : 0 ≤ N1 - N3) (H4 : N4 = 17*N0 - 16) (H5 : F1 N4 = N5) (H6 : 0 ≤ N5 - N3) (H7 : 0 ≤ N3 - N5) : cStu F0 F1 N0 N1 := by
  intro u a b
  have e4 : N4 = 17*N2+1 := by omega
  rw [e4] at H5
  by_cases h : u = N2
  · subst h
    refine ⟨fun k => by omega, fun j c d e f g => ?_⟩
    exact H1 j (by omega) e f g
  · have q := H2 u a (by omega)
    have r : u + 1 < N0 → F1 (17*u+18) ≤ N3 := by
      intro k
      by_cases m : u + 1 = N2
      · have z : (17*u+18 : Int) = 17*N2+1 := by omega
        rw [z]; omega
      · exact q.1 (by omega)
    refine ⟨fun k => by have := r k; omega, fun j c d e f g => ?_⟩
    have k := r (by omega)
    refine q.2 j c ?_ (by omega) f g
    rcases d with d | d
    · omega
    · exact Or.inr d
theorem L_stI {F0 F1 : Int → Int} {N0 N1 N2 N3 N4 N5 N6 N7 N8 N9 N12 N13 N14 N15 N16 N17 : Int} (H0 : cStu F0 F1 N0 N1) (H1 : 0 ≤ N2) (H2 : 0 ≤ N0 - N2 - 1) (H3 : N4 = 17*N2+1) (H4 : F1 N4 = N5) (H5 : N6 = 17*N2+18) (H6 : F1 N6 = N7) (H7 : 0 ≤ N3 - N5) (H8 : 0 ≤ N7 - N3 - 1) (H9 : 0 ≤ N1 - N7) (H10 : N8 = 7*N3+3) (H11 : F0 N8 = N9) (H12 : N12 = 7*N3+4) (H13 : F0 N12 = N13) (H14 : N14 = 7*N3+1) (H15 : F0 N14 = N15) (H16 : N16 = 17*N2+N15+9) (H17 : F1 N16 = N17) (G1 : 0 ≤ N15) (G2 : 0 ≤ 3 - N15) : 0 ≤ N17 - N9 - N13 := by
  subst H3; subst H5; subst H10; subst H12; subst H14; subst H16
  have q := (H0 N2 H1 (by omega)).2 N3 (by omega) (Or.inr (by omega)) (by omega) (by omega) (by omega)
  rw [H15] at q; omega
theorem L_waE {F0 F1 : Int → Int} {N0 N1 N2 : Int} (H0 : 0 ≤ 0 - N0) : cWau F0 F1 N0 N1 N2 := by intro u a b; exfalso; omega
theorem L_waW {F0 F1 F2 : Int → Int} {N0 N1 N2 N3 N4 : Int} (H0 : ∀ x : Int, F2 x = if x = N3 then N4 else F0 x) (H1 : cWau F0 F1 N0 N1 N2) (H2 : 0 ≤ N3 - 6*N1) : cWau F2 F1 N0 N1 N2 := by
  intro u a b
  have q := H1 u a b
  refine ⟨q.1, fun i c d e => ?_⟩
  have w := ((uwr2 H0 (6*i)).resolve_left (fun h => by omega)).2
  rw [w]; exact q.2 i c d e
theorem L_waR {F0 F1 F2 : Int → Int} {N0 N1 N2 N3 N4 : Int} (H0 : ∀ x : Int, F2 x = if x = N3 then N4 else F1 x) (H1 : cWau F0 F1 N0 N1 N2) (H2 : 0 ≤ N3 - 17*N0) : cWau F0 F2 N0 N1 N2 := by
  intro u a b
  have q := H1 u a b
  have w1 := ((uwr2 H0 (17*u+1)).resolve_left (fun h => by omega)).2
  have w2 := ((uwr2 H0 (17*u+2)).resolve_left (fun h => by omega)).2
  refine ⟨fun h => ?_, fun i c d e => ?_⟩
  · have w := ((uwr2 H0 (17*u+19)).resolve_left (fun h => by omega)).2
    rw [w]; exact q.1 h
  · rw [w2] at c
    have d2 : u + 1 = N0 ∨ i < F1 (17*u+19) := by
      rcases d with d | d
      · exact Or.inl d
      · by_cases h : u + 1 = N0
        · exact Or.inl h
        · have w := ((uwr2 H0 (17*u+19)).resolve_left (fun h => by omega)).2
          rw [w] at d; exact Or.inr d
    have r := q.2 i c d2 e
    rw [w1]
    refine ⟨r.1, r.2.1, ?_⟩
    rcases r.2.2 with h | h
    · exact Or.inl h
    · by_cases k : u + 1 = N0
      · exact Or.inl k
      · have w := ((uwr2 H0 (17*u+18)).resolve_left (fun h => by omega)).2
        rw [w]; exact Or.inr h
theorem L_waX {F0 F1 : Int → Int} {N0 N1 N2 N3 N4 N5 N6 N7 N8 N9 N10 N11 N12 N13 N14 N15 N16 : Int} (H0 : N3 = N0 - 1) (H1 : cWau F0 F1 N3 N4 N5) (H2 : 0 ≤ N1 - N4) (H3 : N6 = 17*N0 - 15) (H4 : F1 N6 = N7) (H5 : 0 ≤ N7 - N4) (H6 : 0 ≤ N4 - N7) (H7 : N8 = 17*N0 - 16) (H8 : F1 N8 = N9) (H9 : 0 ≤ N9 - N5) (H10 : 0 ≤ N5 - N9) (H11 : ∀ x : Int, N10 ≤ x → x < N11 → 0 ≤ -1 + N12 - F0 (6*x) ∨ 0 ≤ N13) (H12 : 0 ≤ 0 - 1 - N13) (H13 : 0 ≤ N4 - N10) (H14 : 0 ≤ N11 - N1) (H15 : 0 ≤ N2 - N12) (H16 : ∀ x : Int, N14 ≤ x → x < N15 → 0 ≤ F0 (6*x) - N16) (H17 : 0 ≤ N4 - N14) (H18 : 0 ≤ N15 - N1) (H19 : 0 ≤ N16 - N5) (G : 0 ≤ N2 - N5) : cWau F0 F1 N0 N1 N2 := by
  intro u a b
  have e6 : N6 = 17*N3+2 := by omega
  have e8 : N8 = 17*N3+1 := by omega
  rw [e6] at H4; rw [e8] at H8
  by_cases h : u = N3
  · subst h
    refine ⟨fun k => by omega, fun i c d e => ?_⟩
    have p := H11 i (by omega) (by omega)
    have r := H16 i (by omega) (by omega)
    exact ⟨by omega, by omega, Or.inl (by omega)⟩
  · have q := H1 u a (by omega)
    have r : F1 (17*u+19) ≤ N4 := by
      by_cases m : u + 1 = N3
      · rw [show (17*u+19 : Int) = 17*N3+2 by omega]; omega
      · exact q.1 (by omega)
    refine ⟨fun k => by omega, fun i c d e => ?_⟩
    have d2 : i < F1 (17*u+19) := by rcases d with d | d; omega; exact d
    have s := q.2 i c (Or.inr d2) (by omega)
    refine ⟨s.1, by omega, Or.inr ?_⟩
    by_cases m : u + 1 = N3
    · rw [show (17*u+18 : Int) = 17*N3+1 by omega]; omega
    · rcases s.2.2 with k | k; exact absurd k m; exact k
theorem L_wsI {F0 F1 F2 : Int → Int} {N0 N1 N2 N3 N4 N5 N6 N7 N8 N9 N10 N11 N12 N13 N14 N15 N16 N17 N18 : Int} (H0 : cWau F0 F1 N0 N1 N4) (H1 : cStu F2 F1 N0 N4) (H2 : 0 ≤ N2) (H3 : 0 ≤ N0 - N2 - 1) (H4 : N5 = 17*N2+2) (H5 : F1 N5 = N6) (H6 : N7 = 17*N2+19) (H7 : F1 N7 = N8) (H8 : 0 ≤ N3 - N6) (H9 : 0 ≤ N8 - N3 - 1) (H10 : 0 ≤ N1 - N8) (H11 : N9 = 6*N3) (H12 : F0 N9 = N10) (H13 : N11 = 7*N10+3) (H14 : F2 N11 = N12) (H15 : N13 = 7*N10+4) (H16 : F2 N13 = N14) (H17 : N15 = 7*N10+1) (H18 : F2 N15 = N16) (H19 : N17 = 17*N2+N16+9) (H20 : F1 N17 = N18) (G1 : 0 ≤ N16) (G2 : 0 ≤ 3 - N16) : 0 ≤ N18 - N12 - N14 := by
  subst H4; subst H6; subst H11; subst H13; subst H15; subst H17; subst H19
  have q := (H0 N2 H2 (by omega)).2 N3 (by omega) (Or.inr (by omega)) (by omega)
  rw [H12] at q
  have r := (H1 N2 H2 (by omega)).2 N10 (by omega) q.2.2 (by omega) (by omega) (by omega)
  rw [H18] at r; omega
/-! counting -/
theorem CnK_nonneg {S : Int → Int} {k a : Int} : ∀ n : Nat, 0 ≤ cCnK S k a n
  | 0 => Int.le_refl 0
  | n + 1 => by have := CnK_nonneg (S := S) (k := k) (a := a) n; unfold cCnK; split <;> omega
theorem CnK_congr {S T : Int → Int} {k a : Int} : ∀ n : Nat, (∀ i : Nat, i < n → (k ≤ T (7*(a+i)) → k ≤ S (7*(a+i)))) → cCnK T k a n ≤ cCnK S k a n
  | 0, _ => Int.le_refl 0
  | n + 1, h => by
    have q := CnK_congr n (fun i hi => h i (by omega))
    have r := h n (by omega)
    unfold cCnK
    split <;> split <;> first | omega | (exfalso; rename_i p1 p2; exact p2 (r p1))
theorem Cnt_ext {S : Int → Int} {k a b : Int} (h : a ≤ b) : cCntK S k a (b + 1) = cCntK S k a b + if k ≤ S (7*b) then 1 else 0 := by
  unfold cCntK
  rw [show (b + 1 - a).toNat = (b - a).toNat + 1 by omega]
  show cCnK S k a (b - a).toNat + (if k ≤ S (7*(a+((b - a).toNat : Int))) then 1 else 0) = _
  rw [show a + ((b - a).toNat : Int) = b by omega]
theorem Cnt_nil {S : Int → Int} {k a b : Int} (h : b ≤ a) : cCntK S k a b = 0 := by
  unfold cCntK; rw [show (b - a).toNat = 0 by omega]; rfl
theorem Cnt_nonneg {S : Int → Int} {k a b : Int} : 0 ≤ cCntK S k a b := CnK_nonneg _
theorem Cnt_mono {S T : Int → Int} {k a b : Int} (h : ∀ j : Int, a ≤ j → j < b → k ≤ T (7*j) → k ≤ S (7*j)) : cCntK T k a b ≤ cCntK S k a b :=
  CnK_congr _ (fun i hi => h _ (by omega) (by omega))
theorem Cnt_45 {S : Int → Int} {a b : Int} : cCntK S 5 a b ≤ cCntK S 4 a b := by
  unfold cCntK; generalize (b - a).toNat = n
  induction n with
  | zero => exact Int.le_refl 0
  | succ n ih => unfold cCnK; split <;> split <;> omega
/-- one place that no longer counts -/
theorem CnK_less {S T : Int → Int} {k a : Int} {m : Nat} (h : k ≤ S (7*(a+m))) (h2 : ¬ k ≤ T (7*(a+m))) : ∀ n : Nat, m < n → (∀ i : Nat, i < n → k ≤ T (7*(a+i)) → k ≤ S (7*(a+i))) → cCnK T k a n + 1 ≤ cCnK S k a n
  | 0, hm, _ => absurd hm (by omega)
  | n + 1, hm, hc => by
    by_cases e : m = n
    · subst e
      have q := CnK_congr m (fun i hi => hc i (by omega))
      unfold cCnK; rw [if_pos h, if_neg h2]; omega
    · have q := CnK_less h h2 n (by omega) (fun i hi => hc i (by omega))
      have r := hc n (by omega)
      unfold cCnK
      split <;> split <;> first | omega | (exfalso; rename_i p1 p2; exact p2 (r p1))
theorem Cnt_less {S T : Int → Int} {k a b j : Int} (h0 : a ≤ j) (h1 : j < b) (h : k ≤ S (7*j)) (h2 : ¬ k ≤ T (7*j)) (hc : ∀ i : Int, a ≤ i → i < b → k ≤ T (7*i) → k ≤ S (7*i)) : cCntK T k a b + 1 ≤ cCntK S k a b := by
  unfold cCntK
  have e : a + ((j - a).toNat : Int) = j := by omega
  exact CnK_less (m := (j - a).toNat) (by rw [e]; exact h) (by rw [e]; exact h2) _ (by omega) (fun i hi => hc _ (by omega) (by omega))
theorem L_ns0 {F0 : Int → Int} {N0 N1 N2 : Int} (H0 : cNsh F0 N0 N1 N2) : 0 ≤ N2 := Int.le_trans Cnt_nonneg H0
theorem L_nsJ {F0 : Int → Int} {N0 N1 N2 N3 N4 : Int} (H0 : cJcn F0 N0 N1 N3 N4) (H1 : 0 ≤ 0 - 1 - N4) (H2 : 0 ≤ N2 - N3) : cNsh F0 N0 N1 N2 := by
  rcases H0 with h | h
  · omega
  · have := Cnt_45 (S := F0) (a := N0) (b := N1); unfold cNsh; omega
theorem L_nsZ {F0 : Int → Int} {N0 N1 N2 N3 : Int} (H0 : cNsh F0 N0 N1 N3) (H1 : 0 ≤ N2 - N3) : cNsh F0 N0 N1 N2 := by unfold cNsh at *; omega
theorem L_nsW {F0 F1 : Int → Int} {N0 N1 N2 N5 N6 : Int} (H0 : ∀ x : Int, F1 x = if x = N5 then N6 else F0 x) (H1 : cNsh F0 N0 N1 N2) (H2 : 0 ≤ N5 - 7*N1) : cNsh F1 N0 N1 N2 := by
  refine Int.le_trans (Cnt_mono fun j a b h => ?_) H1
  rcases uwr2 H0 (7*j) with w | w <;> omega
theorem L_nsV {F0 F1 : Int → Int} {N0 N1 N2 N5 N6 N10 : Int} (H0 : ∀ x : Int, F1 x = if x = N5 then N6 else F0 x) (H1 : cNsh F0 N0 N1 N2) (H2 : 0 ≤ N5 - 7*N10 - 1) (H3 : 0 ≤ 7*N10 + 6 - N5) : cNsh F1 N0 N1 N2 := by
  refine Int.le_trans (Cnt_mono fun j a b h => ?_) H1
  rcases uwr2 H0 (7*j) with w | w <;> omega
theorem L_nsD {F0 F1 : Int → Int} {N0 N1 N2 N3 N5 N6 N7 N10 : Int} (H0 : ∀ x : Int, F1 x = if x = N5 then N6 else F0 x) (H1 : cNsh F0 N0 N1 N3) (H2 : 0 ≤ N2 - N3 + 1) (H3 : 0 ≤ N5 - 7*N10) (H4 : 0 ≤ 7*N10 - N5) (H5 : 0 ≤ N10 - N0) (H6 : 0 ≤ N1 - N10 - 1) (H7 : F0 N5 = N7) (H8 : 5 ≤ N7) (H9 : N6 ≤ 4) : cNsh F1 N0 N1 N2 := by
  have e : N5 = 7*N10 := by omega
  subst e
  have q := Cnt_less (S := F0) (T := F1) (k := 5) (a := N0) (b := N1) (j := N10) (by omega) (by omega) (by omega) (by rcases uwr2 H0 (7*N10) with w | w <;> omega) (fun i a b h => by rcases uwr2 H0 (7*i) with w | w <;> omega)
  unfold cNsh at *; omega
theorem L_nsI {F0 : Int → Int} {N0 N1 N2 N5 N6 N10 : Int} (H1 : cNsh F0 N0 N1 N2) (H2 : 0 ≤ N10 - N0) (H3 : 0 ≤ N1 - N10 - 1) (H4 : N5 = 7*N10) (H5 : F0 N5 = N6) (H6 : 5 ≤ N6) : 0 ≤ N2 - 1 := by
  subst H4
  have q := Cnt_less (S := F0) (T := fun _ => 0) (k := 5) (a := N0) (b := N1) (j := N10) (by omega) (by omega) (by omega) (by omega) (fun i a b h => by omega)
  have r := Cnt_nonneg (S := fun _ => 0) (k := 5) (a := N0) (b := N1)
  unfold cNsh at *; omega
theorem L_jcE {F0 : Int → Int} {N0 N1 N2 N3 : Int} (H0 : 0 ≤ N0 - N1) (H1 : 0 ≤ N2) : cJcn F0 N0 N1 N2 N3 := Or.inr (by rw [Cnt_nil (by omega)]; exact H1)
theorem L_jcs {F0 : Int → Int} {N0 N1 N2 N3 : Int} (H0 : 0 ≤ N3) : cJcn F0 N0 N1 N2 N3 := Or.inl H0
theorem L_jcZ {F0 : Int → Int} {N0 N1 N2 N3 N4 N5 : Int} (H0 : cJcn F0 N0 N1 N4 N5) (H1 : 0 ≤ N2 - N4) (H2 : 0 ≤ N3 - N5) : cJcn F0 N0 N1 N2 N3 := by unfold cJcn at *; omega
theorem L_jcO {F0 : Int → Int} {N0 N1 N2 N3 N4 N5 : Int} (H0 : cJcn F0 N0 N1 N4 N5) (H1 : 0 ≤ N2 - N4) (H2 : 0 ≤ 0 - 1 - N5) : cJcn F0 N0 N1 N2 N3 := by unfold cJcn at *; omega
theorem jc_ext {F0 : Int → Int} {N0 N1 N4 : Int} (h : N4 = N1 - 1) : cCntK F0 4 N0 N1 ≤ cCntK F0 4 N0 N4 + 1 ∧ (F0 (7*N4) ≤ 3 → cCntK F0 4 N0 N1 ≤ cCntK F0 4 N0 N4) := by
  have e : N1 = N4 + 1 := by omega
  subst e
  by_cases c : N0 ≤ N4
  · rw [Cnt_ext c]; constructor
    · split <;> omega
    · intro g; rw [if_neg (by omega)]; omega
  · have n := Cnt_nonneg (S := F0) (k := 4) (a := N0) (b := N4)
    rw [Cnt_nil (S := F0) (k := 4) (a := N0) (b := N4 + 1) (by omega)]; constructor
    · omega
    · intro _; exact n
theorem L_jcX1 {F0 : Int → Int} {N0 N1 N2 N3 N4 N5 N6 : Int} (H0 : N4 = N1 - 1) (H1 : cJcn F0 N0 N4 N2 N3) (H2 : N5 = 7*N1 - 7) (H3 : F0 N5 = N6) (H4 : 0 ≤ 3 - N6) : cJcn F0 N0 N1 N2 N3 := by
  have e : N5 = 7*N4 := by omega
  rw [e] at H3
  have q := (jc_ext (F0 := F0) (N0 := N0) H0).2 (by omega)
  unfold cJcn at *; omega
theorem L_jcX2 {F0 : Int → Int} {N0 N1 N2 N3 N4 N5 N6 : Int} (H0 : N4 = N1 - 1) (H1 : cJcn F0 N0 N4 N5 N6) (H2 : 0 ≤ N3 - N6) (H3 : 0 ≤ N2 - N5 - 1) : cJcn F0 N0 N1 N2 N3 := by
  have q := (jc_ext (F0 := F0) (N0 := N0) H0).1
  unfold cJcn at *; omega
theorem L_jcW {F0 F1 : Int → Int} {N0 N1 N2 N3 N5 N6 : Int} (H0 : ∀ x : Int, F1 x = if x = N5 then N6 else F0 x) (H1 : cJcn F0 N0 N1 N2 N3) (H2 : 0 ≤ N5 - 7*N1) : cJcn F1 N0 N1 N2 N3 := by
  rcases H1 with h | h
  · exact Or.inl h
  · refine Or.inr (Int.le_trans (Cnt_mono fun j a b h => ?_) h); rcases uwr2 H0 (7*j) with w | w <;> omega
theorem L_jcV {F0 F1 : Int → Int} {N0 N1 N2 N3 N5 N6 N10 : Int} (H0 : ∀ x : Int, F1 x = if x = N5 then N6 else F0 x) (H1 : cJcn F0 N0 N1 N2 N3) (H2 : 0 ≤ N5 - 7*N10 - 1) (H3 : 0 ≤ 7*N10 + 6 - N5) : cJcn F1 N0 N1 N2 N3 := by
  rcases H1 with h | h
  · exact Or.inl h
  · refine Or.inr (Int.le_trans (Cnt_mono fun j a b h => ?_) h); rcases uwr2 H0 (7*j) with w | w <;> omega
theorem L_jcK {F0 F1 : Int → Int} {N0 N1 N2 N3 N5 N6 N7 N10 : Int} (H0 : ∀ x : Int, F1 x = if x = N5 then N6 else F0 x) (H1 : cJcn F0 N0 N1 N2 N3) (H2 : 0 ≤ N5 - 7*N10) (H3 : 0 ≤ 7*N10 - N5) (H4 : F0 N5 = N7) (H5 : 4 ≤ N7) : cJcn F1 N0 N1 N2 N3 := by
  have e : N5 = 7*N10 := by omega
  subst e
  rcases H1 with h | h
  · exact Or.inl h
  · refine Or.inr (Int.le_trans (Cnt_mono fun j a b h => ?_) h)
    rcases uwr2 H0 (7*j) with w | w
    · rw [w.1]; omega
    · omega
theorem L_ja0 {F0 : Int → Int} {N0 N1 N2 N3 N4 : Int} (H0 : 0 ≤ 3 - N4) (H1 : cJcn F0 N0 N1 N2 N3) : cJca F0 N0 N1 N2 N3 N4 := by unfold cJcn cJca at *; omega
theorem L_ja1 {F0 : Int → Int} {N0 N1 N2 N3 N4 : Int} (H1 : cJcn F0 N0 N1 (N2 - 1) N3) : cJca F0 N0 N1 N2 N3 N4 := by unfold cJcn cJca at *; omega
theorem L_jas {F0 : Int → Int} {N0 N1 N2 N3 N4 : Int} (H0 : 0 ≤ N3) : cJca F0 N0 N1 N2 N3 N4 := Or.inl H0
theorem L_jaX {F0 : Int → Int} {N0 N1 N2 N3 N4 N5 N6 N7 : Int} (H0 : N4 = N1 - 1) (H1 : cJca F0 N0 N4 N2 N3 N5) (H2 : N6 = 7*N1 - 7) (H3 : F0 N6 = N7) (H4 : 0 ≤ N7 - N5) (H5 : 0 ≤ N5 - N7) : cJcn F0 N0 N1 N2 N3 := by
  have e : N6 = 7*N4 := by omega
  rw [e] at H3
  have q := jc_ext (F0 := F0) (N0 := N0) H0
  have q1 := q.1
  have q2 := uni1 q.2
  unfold cJca at H1; unfold cJcn
  omega
