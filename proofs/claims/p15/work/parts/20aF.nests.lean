/-! NESTS; THE CLASS: letters, signs counted, sums -/
def eTop (F G H : Int → Int) (b : Int) : Nat → Int → Prop
  | 0, a => b ≤ a
  | n + 1, a => (F n = 110 ∧ eTop F G H b n a) ∨ ((F n = 111 ∨ F n = 112 ∨ 114 ≤ F n) ∧ eTop F G H b n (G n)) ∨ (F n = 113 ∧ eTop F G H b n (H n))
def eTopz (F G H : Int → Int) (n a b : Int) : Prop := eTop F G H b n.toNat a
def eNor (F : Int → Int) (n k e : Int) : Prop := k ≠ 115 ∨ 1 ≤ e ∨ ∀ j : Int, 0 ≤ j → j < n → F j = 110
def eTif (F : Int → Int) (n k e : Int) : Prop := k ≤ 110 ∨ 113 ≤ k ∨ 1 ≤ e ∨ F (n - 1) = 110
def eInn (F : Int → Int) (a : Int) : Prop := ∃ r, dEv 1082 [] [F a] = some r ∧ 1 ≤ r
def eCn4 (F : Int → Int) : Nat → Int
  | 0 => 0
  | n + 1 => eCn4 F n + if F n = 40 then 1 else 0
def eOpn (F : Int → Int) (n c : Int) : Prop := 0 ≤ n ∧ eCn4 F n.toNat = c
def eSh8 (a b c : Int) : Prop := 8 * (a - b) + c = 24
theorem eTop_mono {F G H : Int → Int} {b b' : Int} (hb : b' ≤ b) : ∀ {n : Nat} {a a' : Int}, eTop F G H b n a → a ≤ a' → eTop F G H b' n a'
  | 0, a, a', h, g => by have h : b ≤ a := h; show b' ≤ a'; omega
  | n + 1, a, a', h, g => by
    rcases h with ⟨h1, h2⟩ | ⟨h1, h2⟩ | ⟨h1, h2⟩
    · exact Or.inl ⟨h1, eTop_mono hb h2 g⟩
    · exact Or.inr (Or.inl ⟨h1, eTop_mono hb h2 (Int.le_refl _)⟩)
    · exact Or.inr (Or.inr ⟨h1, eTop_mono hb h2 (Int.le_refl _)⟩)
theorem eTop_con {F G H F' G' H' : Int → Int} {b : Int} : ∀ {n : Nat} {a : Int}, eTop F G H b n a → (∀ i : Int, 0 ≤ i → i < n → F' i = F i ∧ G' i = G i ∧ H' i = H i) → eTop F' G' H' b n a
  | 0, a, h, _ => h
  | n + 1, a, h, e => by
    obtain ⟨e1, e2, e3⟩ := e n (by omega) (by omega)
    have e0 : ∀ i : Int, 0 ≤ i → i < n → F' i = F i ∧ G' i = G i ∧ H' i = H i := fun i x y => e i x (by omega)
    unfold eTop
    rw [e1, e2, e3]
    rcases h with ⟨h1, h2⟩ | ⟨h1, h2⟩ | ⟨h1, h2⟩
    · exact Or.inl ⟨h1, eTop_con h2 e0⟩
    · exact Or.inr (Or.inl ⟨h1, eTop_con h2 e0⟩)
    · exact Or.inr (Or.inr ⟨h1, eTop_con h2 e0⟩)
/-- over a word that isn't 110 the number above doesn't matter -/
theorem eTop_any {F G H : Int → Int} {b : Int} : ∀ {n : Nat} {a a' j : Int}, eTop F G H b n a → 0 ≤ j → j < n → F j ≠ 110 → eTop F G H b n a'
  | 0, a, a', j, h, x, y, z => by omega
  | n + 1, a, a', j, h, x, y, z => by
    rcases h with ⟨h1, h2⟩ | ⟨h1, h2⟩ | ⟨h1, h2⟩
    · have c : j ≠ n := fun c => z (by rw [c]; exact h1)
      exact Or.inl ⟨h1, eTop_any h2 x (by omega) z⟩
    · exact Or.inr (Or.inl ⟨h1, h2⟩)
    · exact Or.inr (Or.inr ⟨h1, h2⟩)
theorem eTop_all {F G H : Int → Int} {b : Int} : ∀ {n : Nat} {a : Int}, eTop F G H b n a → (∀ j : Int, 0 ≤ j → j < n → F j = 110) → b ≤ a
  | 0, a, h, _ => h
  | n + 1, a, h, e => by
    have c := e n (by omega) (by omega)
    rcases h with ⟨h1, h2⟩ | ⟨h1, h2⟩ | ⟨h1, h2⟩
    · exact eTop_all h2 (fun j x y => e j x (by omega))
    · omega
    · omega
theorem eTop_of {F G H : Int → Int} {b : Int} : ∀ {n : Nat} {a : Int}, (∀ j : Int, 0 ≤ j → j < n → F j = 110) → b ≤ a → eTop F G H b n a
  | 0, a, _, h => h
  | n + 1, a, e, h => Or.inl ⟨e n (by omega) (by omega), eTop_of (fun j x y => e j x (by omega)) h⟩
theorem eTopz_s {F G H : Int → Int} {n m a b : Int} (h : eTopz F G H m a b) (e : m = n + 1) (hn : 0 ≤ n) : (F n = 110 ∧ eTopz F G H n a b) ∨ ((F n = 111 ∨ F n = 112 ∨ 114 ≤ F n) ∧ eTopz F G H n (G n) b) ∨ (F n = 113 ∧ eTopz F G H n (H n) b) := by
  unfold eTopz at *
  rw [show m.toNat = n.toNat + 1 by omega] at h
  unfold eTop at h
  rw [show (n.toNat : Int) = n by omega] at h
  exact h
theorem eTopz_u {F G H : Int → Int} {n m a b : Int} (e : m = n + 1) (hn : 0 ≤ n) (h : (F n = 110 ∧ eTopz F G H n a b) ∨ ((F n = 111 ∨ F n = 112 ∨ 114 ≤ F n) ∧ eTopz F G H n (G n) b) ∨ (F n = 113 ∧ eTopz F G H n (H n) b)) : eTopz F G H m a b := by
  unfold eTopz at *
  rw [show m.toNat = n.toNat + 1 by omega]
  unfold eTop
  rw [show (n.toNat : Int) = n by omega]
  exact h
theorem eTopz_m {F G H : Int → Int} {n a a' b b' : Int} (h : eTopz F G H n a b) (g : a ≤ a') (k : b' ≤ b) : eTopz F G H n a' b' := eTop_mono k h g
theorem eTopz_c {F G H F' G' H' : Int → Int} {n a b : Int} (h : eTopz F G H n a b) (e : ∀ i : Int, 0 ≤ i → i < n → F' i = F i ∧ G' i = G i ∧ H' i = H i) : eTopz F' G' H' n a b := eTop_con h (fun i x y => e i x (by omega))
theorem eTopz_a {F G H : Int → Int} {n a b j : Int} (a' : Int) (h : eTopz F G H n a b) (x : 0 ≤ j) (y : j < n) (z : F j ≠ 110) : eTopz F G H n a' b := eTop_any h x (by omega) z
theorem eCn4_c {F G : Int → Int} : ∀ {n : Nat}, (∀ i : Int, 0 ≤ i → i < n → G i = F i) → eCn4 G n = eCn4 F n
  | 0, _ => rfl
  | n + 1, e => by
    show eCn4 G n + (if G n = 40 then 1 else 0) = eCn4 F n + (if F n = 40 then 1 else 0)
    rw [eCn4_c (fun i a b => e i a (by omega)), e n (by omega) (by omega)]
theorem eOpn_s {F : Int → Int} {n m c : Int} (h : eOpn F m c) (e : m = n + 1) (hn : 0 ≤ n) : eOpn F n (c - if F n = 40 then 1 else 0) := by
  obtain ⟨-, h⟩ := h
  refine ⟨hn, ?_⟩
  rw [show m.toNat = n.toNat + 1 by omega] at h
  have h : eCn4 F n.toNat + (if F n.toNat = 40 then 1 else 0) = c := h
  rw [show (n.toNat : Int) = n by omega] at h
  omega
theorem eOpn_w {F G : Int → Int} {n v c : Int} (e : ∀ x : Int, G x = if x = n then v else F x) (h : eOpn F n c) : eOpn G (n + 1) (c + if v = 40 then 1 else 0) := by
  obtain ⟨hn, h⟩ := h
  refine ⟨by omega, ?_⟩
  rw [show (n + 1).toNat = n.toNat + 1 by omega]
  show eCn4 G n.toNat + (if G n.toNat = 40 then 1 else 0) = _
  rw [show (n.toNat : Int) = n by omega, e n, if_pos rfl, eCn4_c (F := F) (fun i a b => by rw [e i, if_neg (by omega)]), h]
