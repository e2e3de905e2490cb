/-! STEPS, ANSWERS -/
/-- so many steps of a relation -/
def eIt {α : Type} (R : α → α → Prop) : Nat → α → α → Prop
  | 0, a, b => a = b
  | k + 1, a, b => ∃ m, eIt R k a m ∧ R m b
theorem eIt_add {α : Type} {R : α → α → Prop} {k : Nat} {a b : α} (h : eIt R k a b) : ∀ {l : Nat} {c : α}, eIt R l b c → eIt R (k + l) a c
  | 0, c, g => by cases g; exact h
  | l + 1, c, g => by obtain ⟨m, g1, g2⟩ := g; exact ⟨m, eIt_add h g1, g2⟩
theorem eIt_split {α : Type} {R : α → α → Prop} {k : Nat} {a : α} : ∀ {l : Nat} {c : α}, eIt R (k + l) a c → ∃ b, eIt R k a b ∧ eIt R l b c
  | 0, c, g => ⟨c, g, rfl⟩
  | l + 1, c, g => by
    obtain ⟨m, g1, g2⟩ := g
    obtain ⟨b, h1, h2⟩ := eIt_split g1
    exact ⟨b, h1, m, h2, g2⟩
theorem eIt_fun {α : Type} {R : α → α → Prop} (hf : ∀ a b c, R a b → R a c → b = c) : ∀ {k : Nat} {a b c : α}, eIt R k a b → eIt R k a c → b = c
  | 0, a, b, c, g, h => by cases g; cases h; rfl
  | k + 1, a, b, c, g, h => by
    obtain ⟨m, g1, g2⟩ := g
    obtain ⟨n, h1, h2⟩ := h
    have := eIt_fun hf g1 h1
    subst this
    exact hf _ _ _ g2 h2
theorem eIt_first {α : Type} {R : α → α → Prop} {k : Nat} {a c : α} (h : eIt R (k + 1) a c) : ∃ b, R a b ∧ eIt R k b c := by
  rw [Nat.add_comm] at h
  obtain ⟨b, ⟨m, h1, h2⟩, h3⟩ := eIt_split (k := 1) h
  cases h1
  exact ⟨b, h2, h3⟩
theorem eIt_one {α : Type} {R : α → α → Prop} {a b : α} (h : R a b) : eIt R 1 a b := ⟨a, rfl, h⟩
theorem eIt_le {R : Int → Int → Prop} (hi : ∀ a b, R a b → a < b) : ∀ {k : Nat} {a b : Int}, eIt R k a b → a + k ≤ b
  | 0, a, b, g => by cases g; omega
  | k + 1, a, b, g => by
    obtain ⟨m, g1, g2⟩ := g
    have := eIt_le hi g1
    have := hi _ _ g2
    omega
theorem eIt_to {α : Type} {R : α → α → Prop} (hf : ∀ a b c, R a b → R a c → b = c) {k l : Nat} {a x y : α} (h : eIt R k a x) (g : eIt R l a y) (c : k ≤ l) : eIt R (l - k) x y := by
  obtain ⟨d, rfl⟩ : ∃ d, l = k + d := ⟨l - k, by omega⟩
  obtain ⟨b, h1, h2⟩ := eIt_split g
  have := eIt_fun hf h h1
  subst this
  rw [show k + d - k = d by omega]; exact h2
/-- from the nearer of two places one goes on, and doesn't pass the other -/
theorem eIt_next {R : Int → Int → Prop} (hf : ∀ a b c, R a b → R a c → b = c) (hi : ∀ a b, R a b → a < b) {k l : Nat} {a x y : Int} (h : eIt R k a x) (g : eIt R l a y) (c : x < y) : ∃ m, R x m ∧ m ≤ y := by
  rcases Nat.le_total k l with d | d
  · have e := eIt_to hf h g d
    cases q : l - k with
    | zero => rw [q] at e; cases e; omega
    | succ n =>
      rw [q] at e
      obtain ⟨b, h1, h2⟩ := eIt_first e
      have := eIt_le hi h2
      exact ⟨b, h1, by omega⟩
  · have e := eIt_le hi (eIt_to hf g h d)
    omega
/-! TEXTS, TOKENS THAT RISE: what is said and the rules, over plain functions (nothing of the kit in it) -/
def eEx (F : Int → Int) (a b v : Int) : Prop := ∃ x : Int, a ≤ x ∧ x < b ∧ F x = v
/-- a sign of a text at a, the next at n -/
def eCst (F : Int → Int) (a n q e : Int) : Prop := (32 ≤ F a ∧ F a ≤ 126) ∧ ((F a ≠ 92 ∧ F a ≠ q ∧ a + 1 ≤ e ∧ n = a + 1) ∨ (F a = 92 ∧ q ≤ 91 ∧ a + 2 ≤ e ∧ 32 ≤ F (a + 1) ∧ F (a + 1) ≤ 126 ∧ n = a + 2))
def eNst (F : Int → Int) (a q e : Int) : Prop := e ≤ a ∨ F a = q ∨ F a ≤ 31 ∨ 127 ≤ F a ∨ (F a = 92 ∧ (e ≤ a + 1 ∨ F (a + 1) ≤ 31 ∨ 127 ≤ F (a + 1)))
def eSt (F : Int → Int) (e a b : Int) : Prop := eCst F a b 34 e
def eWk (F : Int → Int) (a b e s : Int) : Prop := 1 ≤ s ∨ ∃ k : Nat, eIt (eSt F e) k a b
def eTk3 (F : Int → Int) (k a b e : Int) : Prop := k ≠ 3 ∨ ∃ (n : Nat) (c : Int), eIt (eSt F e) n (a + 1) c ∧ b = c + 1 ∧ F c = 34 ∧ b ≤ e
def eTxt (K S L B : Int → Int) (n e : Int) : Prop := ∀ j : Int, 0 ≤ j → j < n → 0 ≤ S j ∧ eTk3 B (K j) (S j) (S j + L j) e
def eTls (S B : Int → Int) (t a c e : Int) : Prop := ∃ k : Nat, c = k ∧ eIt (eSt B e) k (S t + 1) a
def eTle (S L B : Int → Int) (t c e : Int) : Prop := ∃ (k : Nat) (a : Int), c = k ∧ eIt (eSt B e) k (S t + 1) a ∧ B a = 34 ∧ S t + L t = a + 1
def eRs (S L : Int → Int) (n s : Int) : Prop := 1 ≤ s ∨ ∀ j : Int, 0 ≤ j → j < n → 1 ≤ L j ∧ S j + L j ≤ S (j + 1)
def eRl (S L : Int → Int) (n m s : Int) : Prop := 1 ≤ s ∨ ((∀ j : Int, 0 ≤ j → j < n → 1 ≤ L j ∧ S j + L j ≤ m) ∧ (∀ j : Int, 0 ≤ j → j + 1 < n → S j + L j ≤ S (j + 1)))
theorem eSt_f {F : Int → Int} {e : Int} : ∀ a b c, eSt F e a b → eSt F e a c → b = c := by intro a b c h g; unfold eSt eCst at h g; omega
theorem eSt_i {F : Int → Int} {e : Int} : ∀ a b, eSt F e a b → a < b := by intro a b h; unfold eSt eCst at h; omega
theorem eSt_q {F : Int → Int} {e a b : Int} (h : eSt F e a b) : F a ≠ 34 ∧ ¬ eNst F a 34 e := by unfold eSt eCst at h; unfold eNst; omega
/-- two walks to a quote are one -/
theorem eSt_u {F : Int → Int} {e : Int} {k l : Nat} {a x y : Int} (h : eIt (eSt F e) k a x) (g : eIt (eSt F e) l a y) (hx : F x = 34) (hy : F y = 34) : k = l ∧ x = y := by
  have z : ∀ {n : Nat} {x y : Int}, F x = 34 → eIt (eSt F e) n x y → n = 0 := by
    intro n x y hx g
    cases n with
    | zero => rfl
    | succ n => obtain ⟨m, q, -⟩ := eIt_first g; exact absurd hx (eSt_q q).1
  rcases Nat.le_total k l with d | d
  · have e := eIt_to eSt_f h g d
    have := z hx e
    have c : k = l := by omega
    subst c
    exact ⟨rfl, eIt_fun eSt_f h g⟩
  · have e := eIt_to eSt_f g h d
    have := z hy e
    have c : k = l := by omega
    subst c
    exact ⟨rfl, eIt_fun eSt_f h g⟩
/-- a walk along a text token is a part of its whole -/
theorem eTk_go {B : Int → Int} {a b e x : Int} {k : Nat} (h : eTk3 B 3 a b e) (g : eIt (eSt B e) k (a + 1) x) : x + 1 ≤ b ∧ b ≤ e ∧ (x + 1 < b → ∃ m, eSt B e x m) ∧ (x + 1 = b → B x = 34) := by
  rcases h with h | ⟨n, c, h1, h2, h3, h4⟩
  · exact absurd rfl h
  · by_cases d : c < x
    · obtain ⟨m, q, -⟩ := eIt_next eSt_f eSt_i h1 g d
      exact absurd h3 (eSt_q q).1
    · refine ⟨by omega, h4, fun d2 => ?_, fun d2 => ?_⟩
      · obtain ⟨m, q, -⟩ := eIt_next eSt_f eSt_i g h1 (by omega)
        exact ⟨m, q⟩
      · have : x = c := by omega
        rw [this]; exact h3
theorem eTle_f {S L B : Int → Int} {t c d e : Int} (h : eTle S L B t c e) (g : eTle S L B t d e) : c = d := by
  obtain ⟨k, a, h1, h2, h3, -⟩ := h
  obtain ⟨l, b, g1, g2, g3, -⟩ := g
  have := (eSt_u h2 g2 h3 g3).1
  omega
theorem eTle_n {S L B : Int → Int} {t c e : Int} (h : eTle S L B t c e) : 0 ≤ c ∧ c + 2 ≤ L t := by
  obtain ⟨k, a, h1, h2, h3, h4⟩ := h
  have := eIt_le eSt_i h2
  omega
theorem eRs_far {S L : Int → Int} {n : Int} (h : ∀ j : Int, 0 ≤ j → j < n → 1 ≤ L j ∧ S j + L j ≤ S (j + 1)) (a : Int) (ha : 0 ≤ a) : ∀ d : Nat, a + d < n → S a + L a + d ≤ S (a + d + 1)
  | 0, c => by have := h a ha (by omega); rw [show a + ((0 : Nat) : Int) + 1 = a + 1 by omega]; omega
  | d + 1, c => by
    have q := eRs_far h a ha d (by omega)
    have := h (a + d + 1) (by omega) (by omega)
    rw [show a + ((d + 1 : Nat) : Int) + 1 = a + d + 1 + 1 by omega]; omega
theorem eRs_to {S L : Int → Int} {n a b : Int} (h : ∀ j : Int, 0 ≤ j → j < n → 1 ≤ L j ∧ S j + L j ≤ S (j + 1)) (ha : 0 ≤ a) (hb : a < b) (hn : b ≤ n) : S a + L a + (b - a - 1) ≤ S b ∧ 1 ≤ L a := by
  have := eRs_far h a ha (b - a - 1).toNat (by omega)
  rw [show a + ((b - a - 1).toNat : Int) + 1 = b by omega] at this
  have := h a ha (by omega)
  omega
