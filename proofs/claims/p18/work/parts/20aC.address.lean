/-! ADDRESSES AND OPERANDS PASSED OVER AND READ -/
/-- a term of an address from a to b -/
def eTm (K V : Int → Int) (t a b : Int) : Prop :=
  (∃ r, dEv 1031 [K] [a, t] = some r ∧ 1 ≤ r) ∧ (∃ q, dEv 1027 [] [V a] = some q ∧ 0 ≤ q) ∧
    ((∃ s, dEv 1032 [K, V] [a + 1, 42, t] = some s ∧ 1 ≤ s ∧ (V (a + 2) = 1 ∨ V (a + 2) = 2 ∨ V (a + 2) = 4 ∨ V (a + 2) = 8) ∧ a + 3 ≤ t ∧ b = a + 3) ∨
     (∃ s, dEv 1032 [K, V] [a + 1, 42, t] = some s ∧ s ≤ 0 ∧ b = a + 1)) ∨
  ((∃ r, dEv 1031 [K] [a, t] = some r ∧ r ≤ 0) ∨ ((∃ r, dEv 1031 [K] [a, t] = some r ∧ 1 ≤ r) ∧ ∃ q, dEv 1027 [] [V a] = some q ∧ q ≤ -1)) ∧ dEv 1023 [K, V] [a, 1, t] = some b ∧ a + 1 ≤ b
def eSn2 (K V : Int → Int) (a : Int) : Prop := K a = 4 ∧ (V a = 43 ∨ V a = 45)
def eAd (K V : Int → Int) (t a b : Int) : Prop := ∃ m, eTm K V t a m ∧ eSn2 K V m ∧ b = m + 1
def ePaw (K V : Int → Int) (a b t e : Int) : Prop := 1 ≤ e ∨ ∃ k : Nat, eIt (eAd K V t) k a b
def ePam (K V : Int → Int) (a b t e : Int) : Prop := 1 ≤ e ∨ ∃ (k : Nat) (m : Int), eIt (eAd K V t) k a m ∧ eTm K V t m b
def ePaf (K V : Int → Int) (a b t e : Int) : Prop := 1 ≤ e ∨ ((∃ (k : Nat) (m : Int), eIt (eAd K V t) k a m ∧ eTm K V t m b) ∧ K b = 4 ∧ V b = 93)
def ePad (K V : Int → Int) (a b t w : Int) : Prop := ∃ r, dEv 1033 [K, V] [a, w, t] = some r ∧ ((1 ≤ r ∧ RunT K V (a + 1) b 0 0) ∨ (r ≤ 0 ∧ ePaf K V a b t 0))
def eVsc (V : Int → Int) (a : Int) : Prop := V a = 1 ∨ V a = 2 ∨ V a = 4 ∨ V a = 8
def ePms (v : Int) : Prop := v = 43 ∨ v = 45
def eExz (K V : Int → Int) (a b e : Int) : Prop := 1 ≤ e ∨ RunT K V a b 0 0
def eRp (P K V : Int → Int) (n w : Int) : Prop := 1 ≤ w → RunP P K V n 0 1
def eRpz (P K V : Int → Int) (n : Int) : Prop := n ≤ 0 ∨ RunP P K V n 0 0
def ePmo (n v e : Int) : Prop := n ≤ 0 ∨ 1 ≤ e ∨ v = 43 ∨ v = 45
theorem eDv {p : Nat} {fs : List (Int → Int)} {zs : List Int} {a b : Int} (h : dEv p fs zs = some a) (g : dEv p fs zs = some b) : a = b := by rw [h] at g; cases g; rfl
theorem eTm_f {K V : Int → Int} {t a b c : Int} (h : eTm K V t a b) (g : eTm K V t a c) : b = c := by
  rcases h with ⟨⟨r, h1, h2⟩, ⟨q, h3, h4⟩, h5⟩ | ⟨h1, h2, h3⟩ <;> rcases g with ⟨⟨r', g1, g2⟩, ⟨q', g3, g4⟩, g5⟩ | ⟨g1, g2, g3⟩
  · rcases h5 with ⟨s, s1, s2, -, -, s3⟩ | ⟨s, s1, s2, s3⟩ <;> rcases g5 with ⟨s', z1, z2, -, -, z3⟩ | ⟨s', z1, z2, z3⟩ <;> have := eDv s1 z1 <;> omega
  · rcases g1 with ⟨r', a1, a2⟩ | ⟨-, q', a1, a2⟩
    · have := eDv h1 a1; omega
    · have := eDv h3 a1; omega
  · rcases h1 with ⟨r, a1, a2⟩ | ⟨-, q, a1, a2⟩
    · have := eDv g1 a1; omega
    · have := eDv g3 a1; omega
  · exact eDv h2 g2
theorem eTm_i {K V : Int → Int} {t a b : Int} (h : eTm K V t a b) : a + 1 ≤ b := by
  rcases h with ⟨-, -, h5⟩ | ⟨-, -, h3⟩
  · rcases h5 with ⟨s, s1, s2, -, -, s3⟩ | ⟨s, s1, s2, s3⟩ <;> omega
  · exact h3
theorem eAd_f {K V : Int → Int} {t : Int} : ∀ a b c, eAd K V t a b → eAd K V t a c → b = c := by
  rintro a b c ⟨m, h1, -, h2⟩ ⟨n, g1, -, g2⟩
  have := eTm_f h1 g1
  omega
theorem eAd_i {K V : Int → Int} {t : Int} : ∀ a b, eAd K V t a b → a < b := by
  rintro a b ⟨m, h1, -, h2⟩
  have := eTm_i h1
  omega
/-- a place ahead of a term, before the end: the term ends no later -/
theorem ePf_next {K V : Int → Int} {t a b c : Int} {k l : Nat} {m : Int} (h : eIt (eAd K V t) k a m) (h2 : eTm K V t m b) (hb : V b = 93) (g : eIt (eAd K V t) l a c) (d : c < b) : ∃ x, eTm K V t c x ∧ x ≤ b := by
  by_cases q : c < m
  · obtain ⟨y, ⟨x, y1, y2, y3⟩, y4⟩ := eIt_next eAd_f eAd_i g h q
    have := eTm_i h2
    exact ⟨x, y1, by omega⟩
  · by_cases q2 : m < c
    · obtain ⟨y, ⟨x, y1, y2, y3⟩, y4⟩ := eIt_next eAd_f eAd_i h g q2
      have e := eTm_f h2 y1
      subst e
      have := y2.2
      omega
    · have e : m = c := by omega
      subst e
      exact ⟨b, h2, by omega⟩
/-- a place behind a term, before the end: a sign stands there, and the walk goes on behind it -/
theorem ePm_next {K V : Int → Int} {t a b c : Int} {k l : Nat} {m n : Int} (h : eIt (eAd K V t) k a m) (h2 : eTm K V t m b) (hb : V b = 93) (g : eIt (eAd K V t) l a n) (g2 : eTm K V t n c) : c = b ∨ (c < b ∧ eSn2 K V c ∧ c + 2 ≤ b ∧ eIt (eAd K V t) (l + 1) a (c + 1)) := by
  by_cases q : n < m
  · obtain ⟨y, ⟨x, y1, y2, y3⟩, y4⟩ := eIt_next eAd_f eAd_i g h q
    have e := eTm_f g2 y1
    subst e
    have := eTm_i h2
    exact Or.inr ⟨by omega, y2, by omega, n, g, c, g2, y2, rfl⟩
  · by_cases q2 : m < n
    · obtain ⟨y, ⟨x, y1, y2, y3⟩, y4⟩ := eIt_next eAd_f eAd_i h g q2
      have e := eTm_f h2 y1
      subst e
      have := y2.2
      omega
    · have e : m = n := by omega
      subst e
      exact Or.inl (eTm_f g2 h2)
theorem ePaf_no {K V : Int → Int} {a b t e : Int} (h : ePaf K V a b t e) (g : e ≤ 0) : (∃ (k : Nat) (m : Int), eIt (eAd K V t) k a m ∧ eTm K V t m b) ∧ K b = 4 ∧ V b = 93 := by
  rcases h with h | h
  · omega
  · exact h
theorem ePaw_no {K V : Int → Int} {a b t e : Int} (h : ePaw K V a b t e) (g : e ≤ 0) : ∃ k : Nat, eIt (eAd K V t) k a b := by
  rcases h with h | h
  · omega
  · exact h
theorem ePam_no {K V : Int → Int} {a b t e : Int} (h : ePam K V a b t e) (g : e ≤ 0) : ∃ (k : Nat) (m : Int), eIt (eAd K V t) k a m ∧ eTm K V t m b := by
  rcases h with h | h
  · omega
  · exact h

theorem RnP_con {P' P T V : Int → Int} : ∀ {n : Nat} {o w : Int}, RnP P T V n o w → (∀ i : Int, 0 ≤ i → i < n → P' i = P i) → RnP P' T V n o w
  | 0, o, w, h, _ => h
  | n + 1, o, w, h, e => by
    obtain ⟨o1, w1, h, s⟩ := h
    refine ⟨o1, w1, RnP_con h (fun i a b => e i a (by omega)), ?_⟩
    have q : P' n = P n := e n (by omega) (by omega)
    unfold StP cChr at *
    rw [q]; exact s
theorem RunP.con {P' P T V : Int → Int} {k o w : Int} (h : RunP P T V k o w) (e : ∀ i : Int, 0 ≤ i → i < k → P' i = P i) : RunP P' T V k o w := ⟨h.1, RnP_con h.2 (fun i a b => e i a (by have := h.1; omega))⟩
theorem StT_toP {P T V : Int → Int} {i k o w o1 w1 : Int} (p : P k = i) (hi : 0 ≤ i) (s : StT T V i o1 w1 o w) : StP P T V k o1 w1 o w := by
  have q : cChr P T V k = if T i = 4 then V i else 0 := by
    unfold cChr
    rw [p, if_neg (by omega)]
  unfold StT at s
  unfold StP
  rw [q, p]
  by_cases c : T i = 4
  · rw [if_pos c]
    rcases s with ⟨a, b, d, e, f⟩ | ⟨a, b, d, e⟩ | ⟨a, b, d, e, f, g, i, l⟩ | ⟨a, b, d, e, f, g⟩ | ⟨a, b, d, e, f, g, i, l⟩
    · exact Or.inl ⟨a, d, e, f⟩
    · refine Or.inr (Or.inl ⟨a, Or.inl ?_, d, e⟩)
      rcases b with b | b | b
      · rw [b] at c; cases c
      · rw [b] at c; cases c
      · exact b.2
    · exact Or.inr (Or.inr (Or.inl ⟨a, d, f, g, i, l⟩))
    · exact Or.inr (Or.inr (Or.inr (Or.inl ⟨a, d, e, f, g⟩)))
    · exact Or.inr (Or.inr (Or.inr (Or.inr ⟨a, d, e, f, g, i, l⟩)))
  · rw [if_neg c]
    rcases s with ⟨a, b, d, e, f⟩ | ⟨a, b, d, e⟩ | ⟨a, b, d, e, f, g, i, l⟩ | ⟨a, b, d, e, f, g⟩ | ⟨a, b, d, e, f, g, i, l⟩
    · exact absurd b c
    · refine Or.inr (Or.inl ⟨a, Or.inr ⟨rfl, by omega, ?_⟩, d, e⟩)
      rcases b with b | b | b
      · exact Or.inl b
      · exact Or.inr b
      · exact absurd b.1 c
    · exact absurd b c
    · exact absurd b c
    · exact absurd b c
theorem RnT_on {P T V : Int → Int} {t : Int} {m : Nat} (ht : 0 ≤ t) (h0 : RnP P T V m 0 1) : ∀ {n : Nat} {o w : Int}, RnT T V t n o w → (∀ j : Int, m ≤ j → j < m + n → P j = t + (j - m)) → RnP P T V (m + n) o w
  | 0, o, w, h, _ => by obtain ⟨rfl, rfl⟩ : o = 0 ∧ w = 1 := h; exact h0
  | n + 1, o, w, h, hc => by
    obtain ⟨o1, w1, h, s⟩ := h
    refine ⟨o1, w1, RnT_on ht h0 h (fun j a b => hc j a (by omega)), ?_⟩
    have p := hc (m + n : Nat) (by omega) (by omega)
    exact StT_toP (k := ((m + n : Nat) : Int)) (by rw [p]; omega) (by omega) s
theorem RunP.on {P T V : Int → Int} {m t k o w : Int} (h0 : RunP P T V m 0 1) (ht : 0 ≤ t) (h : RunT T V t k o w) (hc : ∀ j, m ≤ j → j < m + (k - t) → P j = t + (j - m)) : RunP P T V (m + (k - t)) o w := by
  have a := h0.1
  have b := h.1
  refine ⟨by omega, ?_⟩
  rw [show (m + (k - t)).toNat = m.toNat + (k - t).toNat by omega]
  refine RnT_on ht h0.2 h.2 (fun j x y => ?_)
  rw [show (m.toNat : Int) = m by omega]
  exact hc j (by omega) (by omega)
