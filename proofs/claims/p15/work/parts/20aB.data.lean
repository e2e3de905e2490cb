/-! DATA: parts of a statement with data, their bytes -/
/-- the whole of a part of data from a on ends at r -/
def ePe2 (K V : Int → Int) (a t r : Int) : Prop := K a = 3 ∨ dEv 1023 [K, V] [a, 0, t] = some r
def eFlg (z : Int) : Int := if z = 1 then 1 else 0
def ePrt (K V : Int → Int) (t z a b : Int) : Prop := a < t ∧ ∃ r, dEv 1024 [K, V] [a, eFlg z, t] = some r ∧ a ≤ r ∧ b = r + 1
def eChS (K V : Int → Int) (t z a b : Int) : Prop := ePrt K V t z a b ∧ ePe2 K V a t (b - 1)
def eChn (K V : Int → Int) (a b t z : Int) : Prop := ∃ k : Nat, eIt (eChS K V t z) k a b
def eAcS (K V S L B : Int → Int) (z t e : Int) (a b : Int × Int) : Prop := ePrt K V t z a.1 b.1 ∧ ∃ x : Int, b.2 = a.2 + x ∧ ((K a.1 = 3 ∧ eTle S L B a.1 x e) ∨ (K a.1 ≠ 3 ∧ x = z))
def eAcc (K V S L B : Int → Int) (a b c z t e : Int) : Prop := ∃ k : Nat, eIt (eAcS K V S L B z t e) k (a, 0) (b, c)
theorem eRs_no {S L : Int → Int} {n s : Int} (h : eRs S L n s) (g : s ≤ 0) : ∀ j : Int, 0 ≤ j → j < n → 1 ≤ L j ∧ S j + L j ≤ S (j + 1) := by
  rcases h with h | h
  · omega
  · exact h
theorem eFlg1 {z f : Int} (h : z = 1) (g : f = 1) : f = eFlg z := by unfold eFlg; rw [if_pos h]; exact g
theorem eFlg0 {z f : Int} (h : 2 ≤ z) (g : f = 0) : f = eFlg z := by unfold eFlg; rw [if_neg (by omega)]; exact g
theorem ePrt_f {K V : Int → Int} {t z : Int} {a b c : Int} (h : ePrt K V t z a b) (g : ePrt K V t z a c) : b = c := by
  obtain ⟨-, r, h1, -, h2⟩ := h
  obtain ⟨-, q, g1, -, g2⟩ := g
  rw [h1] at g1; cases g1; omega
theorem ePrt_i {K V : Int → Int} {t z : Int} {a b : Int} (h : ePrt K V t z a b) : a < b := by obtain ⟨-, r, -, h1, h2⟩ := h; omega
theorem eChS_f {K V : Int → Int} {t z : Int} : ∀ a b c, eChS K V t z a b → eChS K V t z a c → b = c := fun _ _ _ h g => ePrt_f h.1 g.1
theorem eChS_i {K V : Int → Int} {t z : Int} : ∀ a b, eChS K V t z a b → a < b := fun _ _ h => ePrt_i h.1
theorem eChn_next {K V : Int → Int} {a b c t z : Int} (h : eChn K V a b t z) (g : eChn K V a c t z) (d : c < b) : ∃ m, eChS K V t z c m ∧ m ≤ b := by
  obtain ⟨k, h⟩ := h
  obtain ⟨l, g⟩ := g
  exact eIt_next eChS_f eChS_i g h d
theorem eAcS_f {K V S L B : Int → Int} {z t e : Int} : ∀ a b c, eAcS K V S L B z t e a b → eAcS K V S L B z t e a c → b = c := by
  rintro ⟨a1, a2⟩ ⟨b1, b2⟩ ⟨c1, c2⟩ ⟨h, x, hx, h2⟩ ⟨g, y, gy, g2⟩
  have e1 : b1 = c1 := ePrt_f h g
  have e2 : x = y := by
    rcases h2 with ⟨p, h2⟩ | ⟨p, h2⟩ <;> rcases g2 with ⟨q, g2⟩ | ⟨q, g2⟩
    · exact eTle_f h2 g2
    · exact absurd p q
    · exact absurd q p
    · omega
  have e3 : b2 = c2 := by
    have h3 : b2 = a2 + x := hx
    have g3 : c2 = a2 + y := gy
    omega
  rw [e1, e3]
theorem eAcS_up {K V S L B : Int → Int} {z t e : Int} (hz : 0 ≤ z) {a b : Int × Int} (h : eAcS K V S L B z t e a b) : a.1 < b.1 ∧ a.2 ≤ b.2 := by
  obtain ⟨g, x, hx, h2⟩ := h
  refine ⟨ePrt_i g, ?_⟩
  rcases h2 with ⟨-, h2⟩ | ⟨-, h2⟩
  · have := (eTle_n h2).1; omega
  · omega
theorem eAcI_up {K V S L B : Int → Int} {z t e : Int} (hz : 0 ≤ z) : ∀ {k : Nat} {a b : Int × Int}, eIt (eAcS K V S L B z t e) k a b → a.1 ≤ b.1 ∧ a.2 ≤ b.2
  | 0, a, b, h => by cases h; omega
  | k + 1, a, b, h => by
    obtain ⟨m, h1, h2⟩ := h
    have := eAcI_up hz h1
    have := eAcS_up hz h2
    omega
theorem eAcc_next {K V S L B : Int → Int} {a b c d y z t e : Int} (hz : 0 ≤ z) (h : eAcc K V S L B a b c z t e) (g : eAcc K V S L B a d y z t e) (hd : d < b) : ∃ m : Int × Int, eAcS K V S L B z t e (d, y) m ∧ m.2 ≤ c := by
  obtain ⟨k, h⟩ := h
  obtain ⟨l, g⟩ := g
  rcases Nat.le_total l k with q | q
  · have w := eIt_to eAcS_f g h q
    cases n : k - l with
    | zero =>
      rw [n] at w
      have w : ((d, y) : Int × Int) = (b, c) := w
      cases w; omega
    | succ n1 =>
      rw [n] at w
      obtain ⟨m, w1, w2⟩ := eIt_first w
      exact ⟨m, w1, (eAcI_up hz w2).2⟩
  · have w := (eAcI_up hz (eIt_to eAcS_f h g q)).1
    have w : b ≤ d := w
    omega
theorem eAcc_go {K V S L B : Int → Int} {a b c d y z t e x f r : Int} (h : eAcc K V S L B a d y z t e) (h1 : d < t) (h2 : dEv 1024 [K, V] [d, f, t] = some r) (hf : f = eFlg z) (h3 : d ≤ r) (hb : b = r + 1) (hx : (K d = 3 ∧ eTle S L B d x e) ∨ (K d ≠ 3 ∧ x = z)) (hc : c = y + x) : eAcc K V S L B a b c z t e := by
  obtain ⟨k, h⟩ := h
  exact ⟨k + 1, (d, y), h, ⟨h1, r, by rw [← hf]; exact h2, h3, hb⟩, x, hc, hx⟩
theorem eChn_go {K V : Int → Int} {a b d z t f r : Int} (h : eChn K V a d t z) (h1 : d < t) (h2 : dEv 1024 [K, V] [d, f, t] = some r) (hf : f = eFlg z) (h3 : d ≤ r) (hb : b = r + 1) (hp : ePe2 K V d t r) : eChn K V a b t z := by
  obtain ⟨k, h⟩ := h
  exact ⟨k + 1, d, h, ⟨h1, r, by rw [← hf]; exact h2, h3, hb⟩, by rw [hb, show r + 1 - 1 = r by omega]; exact hp⟩
