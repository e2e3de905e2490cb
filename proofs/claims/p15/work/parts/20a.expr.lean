/-! EXPRESSIONS: the tokens' automaton, the pieces', the stack of signs (nothing of the kit in it) -/
def cChr (P T V : Int → Int) (k : Int) : Int := if P k < 0 then -1 - P k else if T (P k) = 4 then V (P k) else 0
/-- one step of the tokens' automaton: w = 1: a value is wanted -/
def StT (T V : Int → Int) (k o w o' w' : Int) : Prop :=
  (w = 1 ∧ T k = 4 ∧ V k = 40 ∧ o' = o + 1 ∧ w' = 1) ∨ (w = 1 ∧ (T k = 1 ∨ T k = 2 ∨ (T k = 4 ∧ V k = 36)) ∧ o' = o ∧ w' = 0) ∨
  (w = 1 ∧ T k = 4 ∧ 1 ≤ V k ∧ V k ≤ 999 ∧ V k ≠ 36 ∧ V k ≠ 40 ∧ o' = o ∧ w' = 1) ∨ (w = 0 ∧ T k = 4 ∧ V k = 41 ∧ 1 ≤ o ∧ o' = o - 1 ∧ w' = 0) ∨
  (w = 0 ∧ T k = 4 ∧ 1 ≤ V k ∧ V k ≤ 999 ∧ V k ≠ 40 ∧ V k ≠ 41 ∧ o' = o ∧ w' = 1)
def RnT (T V : Int → Int) (t : Int) : Nat → Int → Int → Prop
  | 0, o, w => o = 0 ∧ w = 1
  | n + 1, o, w => ∃ o1 w1, RnT T V t n o1 w1 ∧ StT T V (t + n) o1 w1 o w
/-- from t, nothing open and a value wanted, the automaton comes to k with o open -/
def RunT (T V : Int → Int) (t k o w : Int) : Prop := t ≤ k ∧ RnT T V t (k - t).toNat o w
/-- one step of the pieces' automaton -/
def StP (P T V : Int → Int) (k o w o' w' : Int) : Prop :=
  (w = 1 ∧ cChr P T V k = 40 ∧ o' = o + 1 ∧ w' = 1) ∨ (w = 1 ∧ (cChr P T V k = 36 ∨ (cChr P T V k = 0 ∧ 0 ≤ P k ∧ (T (P k) = 1 ∨ T (P k) = 2))) ∧ o' = o ∧ w' = 0) ∨
  (w = 1 ∧ 1 ≤ cChr P T V k ∧ cChr P T V k ≠ 36 ∧ cChr P T V k ≠ 40 ∧ o' = o ∧ w' = 1) ∨ (w = 0 ∧ cChr P T V k = 41 ∧ 1 ≤ o ∧ o' = o - 1 ∧ w' = 0) ∨
  (w = 0 ∧ 1 ≤ cChr P T V k ∧ cChr P T V k ≤ 999 ∧ cChr P T V k ≠ 40 ∧ cChr P T V k ≠ 41 ∧ o' = o ∧ w' = 1)
def RnP (P T V : Int → Int) : Nat → Int → Int → Prop
  | 0, o, w => o = 0 ∧ w = 1
  | n + 1, o, w => ∃ o1 w1, RnP P T V n o1 w1 ∧ StP P T V n o1 w1 o w
def RunP (P T V : Int → Int) (k o w : Int) : Prop := 0 ≤ k ∧ RnP P T V k.toNat o w
def CnO (O : Int → Int) : Nat → Int → Int → Prop
  | 0, o, b => o = 0 ∧ b = 0
  | n + 1, o, b => (O n = 40 ∧ CnO O n (o - 1) b) ∨ (1001 ≤ O n ∧ CnO O n o b) ∨ (O n ≤ 1000 ∧ O n ≠ 40 ∧ CnO O n o (b - 1))
/-- of the first n signs o are ( and b stand between two values -/
def CntO (O : Int → Int) (n o b : Int) : Prop := 0 ≤ n ∧ CnO O n.toNat o b
section
variable {P T V O : Int → Int}
theorem RnT_ge {t : Int} : ∀ {n : Nat} {o w : Int}, RnT T V t n o w → (w = 0 ∨ w = 1) ∧ (w = 0 → 1 ≤ n)
  | 0, o, w, h => by obtain ⟨h1, h2⟩ := h; omega
  | n + 1, o, w, h => by obtain ⟨o1, w1, _, s⟩ := h; unfold StT at s; omega
theorem RunT.gt {t k o w : Int} (h : RunT T V t k o w) : t ≤ k ∧ (w = 0 ∨ w = 1) ∧ (w = 0 → t + 1 ≤ k) := by
  have := RnT_ge h.2
  have h1 := h.1
  exact ⟨h1, this.1, fun e => by have := this.2 e; omega⟩
theorem RunT.zero {t : Int} : RunT T V t t 0 1 := ⟨by omega, by rw [show (t - t).toNat = 0 by omega]; exact ⟨rfl, rfl⟩⟩
theorem RunT.go {t k o w o' w' : Int} (h : RunT T V t k o w) (s : StT T V k o w o' w') : RunT T V t (k + 1) o' w' := by
  have h1 := h.1
  refine ⟨by omega, ?_⟩
  rw [show (k + 1 - t).toNat = (k - t).toNat + 1 by omega]
  refine ⟨o, w, h.2, ?_⟩
  rw [show t + ((k - t).toNat : Int) = k by omega]
  exact s
theorem RnP_ge : ∀ {n : Nat} {o w : Int}, RnP P T V n o w → (w = 0 ∨ w = 1) ∧ 0 ≤ o
  | 0, o, w, h => by obtain ⟨h1, h2⟩ := h; omega
  | n + 1, o, w, h => by
    obtain ⟨o1, w1, h, s⟩ := h
    have := RnP_ge h
    unfold StP at s; generalize cChr P T V n = c at s; omega
theorem RunP.ge {k o w : Int} (h : RunP P T V k o w) : 0 ≤ k ∧ (w = 0 ∨ w = 1) ∧ 0 ≤ o := ⟨h.1, RnP_ge h.2⟩
theorem RunP.zero : RunP P T V 0 0 1 := ⟨by omega, ⟨rfl, rfl⟩⟩
theorem RunP.go {k o w o' w' : Int} (h : RunP P T V k o w) (s : StP P T V k o w o' w') : RunP P T V (k + 1) o' w' := by
  have h1 := h.1
  refine ⟨by omega, ?_⟩
  rw [show (k + 1).toNat = k.toNat + 1 by omega]
  refine ⟨o, w, h.2, ?_⟩
  rw [show (k.toNat : Int) = k by omega]
  exact s
theorem RunP.inv {k o w : Int} (h : RunP P T V k o w) : (k = 0 ∧ o = 0 ∧ w = 1) ∨ ∃ o1 w1, RunP P T V (k - 1) o1 w1 ∧ StP P T V (k - 1) o1 w1 o w := by
  obtain ⟨h1, h2⟩ := h
  by_cases c : k = 0
  · subst c
    obtain ⟨a, b⟩ : o = 0 ∧ w = 1 := h2
    exact Or.inl ⟨rfl, a, b⟩
  · rw [show k.toNat = (k - 1).toNat + 1 by omega] at h2
    obtain ⟨o1, w1, h, s⟩ := h2
    rw [show (((k - 1).toNat : Nat) : Int) = k - 1 by omega] at s
    exact Or.inr ⟨o1, w1, ⟨by omega, h⟩, s⟩
theorem RunP.op {k o : Int} (h : RunP P T V k o 1) (a : cChr P T V k = 40) : RunP P T V (k + 1) (o + 1) 1 := h.go (Or.inl ⟨rfl, a, rfl, rfl⟩)
theorem RunP.va {k o : Int} (h : RunP P T V k o 1) (a : cChr P T V k = 36 ∨ (cChr P T V k = 0 ∧ 0 ≤ P k ∧ (T (P k) = 1 ∨ T (P k) = 2))) : RunP P T V (k + 1) o 0 := h.go (Or.inr (Or.inl ⟨rfl, a, rfl, rfl⟩))
theorem RunP.fr {k o : Int} (h : RunP P T V k o 1) (a : 1 ≤ cChr P T V k) (b : cChr P T V k ≠ 36) (c : cChr P T V k ≠ 40) : RunP P T V (k + 1) o 1 := h.go (Or.inr (Or.inr (Or.inl ⟨rfl, a, b, c, rfl, rfl⟩)))
theorem RunP.cl {k o : Int} (h : RunP P T V k o 0) (a : cChr P T V k = 41) (b : 1 ≤ o) : RunP P T V (k + 1) (o - 1) 0 := h.go (Or.inr (Or.inr (Or.inr (Or.inl ⟨rfl, a, b, rfl, rfl⟩))))
theorem RunP.bi {k o : Int} (h : RunP P T V k o 0) (a : 1 ≤ cChr P T V k) (b : cChr P T V k ≤ 999) (c : cChr P T V k ≠ 40) (d : cChr P T V k ≠ 41) : RunP P T V (k + 1) o 1 := h.go (Or.inr (Or.inr (Or.inr (Or.inr ⟨rfl, a, b, c, d, rfl, rfl⟩))))
theorem CnO_ge : ∀ {n : Nat} {o b : Int}, CnO O n o b → 0 ≤ o ∧ 0 ≤ b ∧ o + b ≤ n
  | 0, o, b, h => by obtain ⟨h1, h2⟩ := h; omega
  | n + 1, o, b, h => by
    rcases h with ⟨_, h⟩ | ⟨_, h⟩ | ⟨_, _, h⟩ <;> have := CnO_ge h <;> omega
theorem CntO.ge {n o b : Int} (h : CntO O n o b) : 0 ≤ o ∧ 0 ≤ b ∧ o + b ≤ n := by
  have := CnO_ge h.2
  have := h.1
  omega
theorem CntO.zero : CntO O 0 0 0 := ⟨by omega, rfl, rfl⟩
theorem CntO.up {n o b : Int} (hn : 0 ≤ n) (h : (O n = 40 ∧ CntO O n (o - 1) b) ∨ (1001 ≤ O n ∧ CntO O n o b) ∨ (O n ≤ 1000 ∧ O n ≠ 40 ∧ CntO O n o (b - 1))) : CntO O (n + 1) o b := by
  refine ⟨by omega, ?_⟩
  rw [show (n + 1).toNat = n.toNat + 1 by omega]
  have e : (n.toNat : Int) = n := by omega
  rcases h with ⟨a, h⟩ | ⟨a, h⟩ | ⟨a, c, h⟩
  · exact Or.inl ⟨by rw [e]; exact a, h.2⟩
  · exact Or.inr (Or.inl ⟨by rw [e]; exact a, h.2⟩)
  · exact Or.inr (Or.inr ⟨by rw [e]; exact a, by rw [e]; exact c, h.2⟩)
theorem CntO.op {n o b : Int} (h : CntO O n o b) (a : O n = 40) : CntO O (n + 1) (o + 1) b := CntO.up h.1 (Or.inl ⟨a, by rw [show o + 1 - 1 = o by omega]; exact h⟩)
theorem CntO.un {n o b : Int} (h : CntO O n o b) (a : 1001 ≤ O n) : CntO O (n + 1) o b := CntO.up h.1 (Or.inr (Or.inl ⟨a, h⟩))
theorem CntO.bi {n o b : Int} (h : CntO O n o b) (a : O n ≤ 1000) (c : O n ≠ 40) : CntO O (n + 1) o (b + 1) := CntO.up h.1 (Or.inr (Or.inr ⟨a, c, by rw [show b + 1 - 1 = b by omega]; exact h⟩))
theorem StP.det {k o w o1 w1 o2 w2 : Int} (h1 : StP P T V k o w o1 w1) (h2 : StP P T V k o w o2 w2) : o1 = o2 ∧ w1 = w2 := by
  unfold StP at h1 h2
  generalize cChr P T V k = c at h1 h2
  omega
theorem RunP.det (n : Nat) : ∀ {k o w o2 w2 : Int}, k ≤ n → RunP P T V k o w → RunP P T V k o2 w2 → o = o2 ∧ w = w2 := by
  induction n with
  | zero =>
    intro k o w o2 w2 hk h1 h2
    have g1 := h1.ge
    rcases h1.inv with a | ⟨o1, w1, a, _⟩
    · rcases h2.inv with b | ⟨_, _, b, _⟩
      · omega
      · have := b.ge; omega
    · have := a.ge; omega
  | succ n ih =>
    intro k o w o2 w2 hk h1 h2
    rcases h1.inv with a | ⟨o1, w1, a, sa⟩
    · rcases h2.inv with b | ⟨_, _, b, _⟩
      · omega
      · have := b.ge; omega
    · rcases h2.inv with b | ⟨o3, w3, b, sb⟩
      · have := a.ge; omega
      · obtain ⟨e1, e2⟩ := ih (by omega) a b
        subst e1; subst e2
        exact sa.det sb
/-- where the run comes to n, it goes on from each k before n -/
theorem RunP.next (d : Nat) : ∀ {k n o w o' w' : Int}, n ≤ k + 1 + d → k < n → RunP P T V k o w → RunP P T V n o' w' → ∃ o1 w1, StP P T V k o w o1 w1 := by
  induction d with
  | zero =>
    intro k n o w o' w' hd hk h1 h2
    rcases h2.inv with a | ⟨o1, w1, a, sa⟩
    · have := h1.ge; omega
    · have e : n - 1 = k := by omega
      rw [e] at a sa
      obtain ⟨e1, e2⟩ := RunP.det k.toNat (by omega) h1 a
      subst e1; subst e2
      exact ⟨_, _, sa⟩
  | succ d ih =>
    intro k n o w o' w' hd hk h1 h2
    by_cases c : n = k + 1
    · subst c
      rcases h2.inv with a | ⟨o1, w1, a, sa⟩
      · have := h1.ge; omega
      · have e : k + 1 - 1 = k := by omega
        rw [e] at a sa
        obtain ⟨e1, e2⟩ := RunP.det k.toNat (by omega) h1 a
        subst e1; subst e2
        exact ⟨_, _, sa⟩
    · rcases h2.inv with a | ⟨o1, w1, a, sa⟩
      · have := h1.ge; omega
      · exact ih (by omega) (by omega) h1 a
theorem RunP.step {k n o w o' w' : Int} (hk : k < n) (h1 : RunP P T V k o w) (h2 : RunP P T V n o' w') : ∃ o1 w1, StP P T V k o w o1 w1 := RunP.next (n - k).toNat (by omega) hk h1 h2
/-- pieces that are the tokens from t on -/
theorem RnT_toP {t : Int} (ht : 0 ≤ t) : ∀ {n : Nat} {o w : Int}, RnT T V t n o w → (∀ j : Int, 0 ≤ j → j < n → P j = t + j) → RnP P T V n o w
  | 0, o, w, h, _ => h
  | n + 1, o, w, h, hc => by
    obtain ⟨o1, w1, h, s⟩ := h
    refine ⟨o1, w1, RnT_toP ht h (fun j h1 h2 => hc j h1 (by omega)), ?_⟩
    have p := hc n (by omega) (by omega)
    have q : cChr P T V n = if T (t + n) = 4 then V (t + n) else 0 := by
      unfold cChr
      rw [p, if_neg (by omega)]
    unfold StT at s
    unfold StP
    rw [q, p]
    by_cases c : T (t + n) = 4
    · rw [if_pos c]
      rcases s with ⟨a, b, d, e, f⟩ | ⟨a, b, d, e⟩ | ⟨a, b, d, e, f, g, i, l⟩ | ⟨a, b, d, e, f, g⟩ | ⟨a, b, d, e, f, g, i, l⟩
      · exact Or.inl ⟨a, d, e, f⟩
      · refine Or.inr (Or.inl ⟨a, Or.inl ?_, d, e⟩)
        rcases b with b | b | b
        · rw [b] at c; cases c
        · rw [b] at c; cases c
        · exact b.2
      · exact Or.inr (Or.inr (Or.inl ⟨a, d, f, g, i, l⟩))
      · exact Or.inr (Or.inr (Or.inr (Or.inl ⟨a, d, e, f, g⟩)))
      · exact Or.inr (Or.inr (Or.inr (Or.inr ⟨a, d, e, f, g, i, l⟩)))
    · rw [if_neg c]
      rcases s with ⟨a, b, d, e, f⟩ | ⟨a, b, d, e⟩ | ⟨a, b, d, e, f, g, i, l⟩ | ⟨a, b, d, e, f, g⟩ | ⟨a, b, d, e, f, g, i, l⟩
      · exact absurd b c
      · refine Or.inr (Or.inl ⟨a, Or.inr ⟨rfl, by omega, ?_⟩, d, e⟩)
        rcases b with b | b | b
        · exact Or.inl b
        · exact Or.inr b
        · exact absurd b.1 c
      · exact absurd b c
      · exact absurd b c
      · exact absurd b c
theorem RunT.toP {t k o w : Int} (ht : 0 ≤ t) (h : RunT T V t k o w) (hc : ∀ j, 0 ≤ j → j < k - t → P j = t + j) : RunP P T V (k - t) o w := by
  have h1 := h.1
  exact ⟨by omega, RnT_toP ht h.2 (fun j a b => hc j a (by omega))⟩
/-- the sign on top taken away -/
theorem CntO.inv {n o b : Int} (h : CntO O n o b) (hn : 1 ≤ n) : (O (n - 1) = 40 ∧ CntO O (n - 1) (o - 1) b) ∨ (1001 ≤ O (n - 1) ∧ CntO O (n - 1) o b) ∨ (O (n - 1) ≤ 1000 ∧ O (n - 1) ≠ 40 ∧ CntO O (n - 1) o (b - 1)) := by
  have h2 := h.2
  rw [show n.toNat = (n - 1).toNat + 1 by omega] at h2
  have e : (((n - 1).toNat : Nat) : Int) = n - 1 := by omega
  rcases h2 with ⟨a, h⟩ | ⟨a, h⟩ | ⟨a, c, h⟩
  · rw [e] at a; exact Or.inl ⟨a, by omega, h⟩
  · rw [e] at a; exact Or.inr (Or.inl ⟨a, by omega, h⟩)
  · rw [e] at a c; exact Or.inr (Or.inr ⟨a, c, by omega, h⟩)
/-- what lies behind doesn't count -/
theorem CnO_con {O' : Int → Int} : ∀ {n : Nat} {o b : Int}, CnO O n o b → (∀ i : Int, i < n → O' i = O i) → CnO O' n o b
  | 0, o, b, h, _ => h
  | n + 1, o, b, h, e => by
    have e0 := e n (by omega)
    have e1 : ∀ i : Int, i < n → O' i = O i := fun i hi => e i (by omega)
    rcases h with ⟨a, h⟩ | ⟨a, h⟩ | ⟨a, c, h⟩
    · exact Or.inl ⟨by rw [e0]; exact a, CnO_con h e1⟩
    · exact Or.inr (Or.inl ⟨by rw [e0]; exact a, CnO_con h e1⟩)
    · exact Or.inr (Or.inr ⟨by rw [e0]; exact a, by rw [e0]; exact c, CnO_con h e1⟩)
theorem CntO.con {O' : Int → Int} {n o b : Int} (h : CntO O n o b) (e : ∀ i, i < n → O' i = O i) : CntO O' n o b := by
  have h1 := h.1
  exact ⟨h1, CnO_con h.2 (fun i hi => e i (by omega))⟩
end
/-- the whole of what is known in the midst of an expression -/
def EvS (O P T V : Int → Int) (k w ops vals n : Int) : Prop := ∃ o, RunP P T V k o w ∧ RunP P T V n 0 0 ∧ k ≤ n ∧ CntO O ops o (vals - 1 + w)
section
variable {P T V O O' : Int → Int} {k w ops vals n c : Int}
theorem ev_ini (h : RunP P T V n 0 0) : EvS O P T V 0 1 0 0 n := ⟨0, RunP.zero, h, h.ge.1, CntO.zero⟩
theorem ev_op (h : EvS O P T V k 1 ops vals n) (hk : k < n) (hc : cChr P T V k = 40) (ho : O' ops = 40) (he : ∀ i, i < ops → O' i = O i) : EvS O' P T V (k + 1) 1 (ops + 1) vals n := by
  obtain ⟨o, h1, h2, _, h4⟩ := h
  exact ⟨o + 1, h1.op hc, h2, by omega, (h4.con he).op ho⟩
theorem ev_un (h : EvS O P T V k 1 ops vals n) (hk : k < n) (h0 : cChr P T V k ≠ 0) (h36 : cChr P T V k ≠ 36) (h40 : cChr P T V k ≠ 40) (ho : O' ops = 1000 + cChr P T V k) (he : ∀ i, i < ops → O' i = O i) : EvS O' P T V (k + 1) 1 (ops + 1) vals n := by
  obtain ⟨o, h1, h2, _, h4⟩ := h
  obtain ⟨o1, w1, s⟩ := RunP.step hk h1 h2
  have c1 : 1 ≤ cChr P T V k := by unfold StP at s; omega
  exact ⟨o, h1.fr c1 h36 h40, h2, by omega, (h4.con he).un (by omega)⟩
theorem ev_leaf (h : EvS O P T V k 1 ops vals n) (hk : k < n) (hc : cChr P T V k = 0 ∨ cChr P T V k = 36) : EvS O P T V (k + 1) 0 ops (vals + 1) n := by
  obtain ⟨o, h1, h2, _, h4⟩ := h
  obtain ⟨o1, w1, s⟩ := RunP.step hk h1 h2
  have c1 : cChr P T V k = 36 ∨ (cChr P T V k = 0 ∧ 0 ≤ P k ∧ (T (P k) = 1 ∨ T (P k) = 2)) := by unfold StP at s; omega
  exact ⟨o, h1.va c1, h2, by omega, by rw [show vals + 1 - 1 + 0 = vals - 1 + 1 by omega]; exact h4⟩
theorem ev_leaf_tok (h : EvS O P T V k 1 ops vals n) (hk : k < n) (hc : cChr P T V k = 0) : 0 ≤ P k ∧ 1 ≤ T (P k) ∧ T (P k) ≤ 2 := by
  obtain ⟨o, h1, h2, _, h4⟩ := h
  obtain ⟨o1, w1, s⟩ := RunP.step hk h1 h2
  unfold StP at s; omega
theorem ev_close (h : EvS O P T V k 0 ops vals n) (hk : k < n) (hc : cChr P T V k = 41) : 1 ≤ ops := by
  obtain ⟨o, h1, h2, _, h4⟩ := h
  obtain ⟨o1, w1, s⟩ := RunP.step hk h1 h2
  have := h4.ge
  unfold StP at s; omega
theorem ev_pop (h : EvS O P T V k 0 ops vals n) (hk : k < n) (hc : cChr P T V k = 41) (ho : O (ops - 1) = 40) : EvS O P T V (k + 1) 0 (ops - 1) vals n := by
  have hops := ev_close h hk hc
  obtain ⟨o, h1, h2, _, h4⟩ := h
  obtain ⟨o1, w1, s⟩ := RunP.step hk h1 h2
  have co : 1 ≤ o := by unfold StP at s; omega
  refine ⟨o - 1, h1.cl hc co, h2, by omega, ?_⟩
  rcases h4.inv hops with a | a | a
  · exact a.2
  · omega
  · omega
theorem ev_bin (h : EvS O P T V k 0 ops vals n) (hk : k < n) (hc : cChr P T V k ≠ 41) (ho : O' ops = cChr P T V k) (he : ∀ i, i < ops → O' i = O i) : EvS O' P T V (k + 1) 1 (ops + 1) vals n := by
  obtain ⟨o, h1, h2, _, h4⟩ := h
  obtain ⟨o1, w1, s⟩ := RunP.step hk h1 h2
  have c1 : 1 ≤ cChr P T V k ∧ cChr P T V k ≤ 999 ∧ cChr P T V k ≠ 40 := by unfold StP at s; omega
  refine ⟨o, h1.bi c1.1 c1.2.1 c1.2.2 hc, h2, by omega, ?_⟩
  rw [show vals - 1 + 1 = vals - 1 + 0 + 1 by omega]
  exact (h4.con he).bi (by omega) (by omega)
theorem ev_red_un (h : EvS O P T V k w ops vals n) (hops : 1 ≤ ops) (ho : 1001 ≤ O (ops - 1)) : EvS O P T V k w (ops - 1) vals n := by
  obtain ⟨o, h1, h2, h3, h4⟩ := h
  refine ⟨o, h1, h2, h3, ?_⟩
  rcases h4.inv hops with a | a | a
  · omega
  · exact a.2
  · omega
theorem ev_red_bi (h : EvS O P T V k w ops vals n) (hops : 1 ≤ ops) (ho : O (ops - 1) ≤ 1000) (h40 : O (ops - 1) ≠ 40) : EvS O P T V k w (ops - 1) (vals - 1) n := by
  obtain ⟨o, h1, h2, h3, h4⟩ := h
  refine ⟨o, h1, h2, h3, ?_⟩
  rcases h4.inv hops with a | a | a
  · omega
  · omega
  · rw [show vals - 1 - 1 + w = vals - 1 + w - 1 by omega]; exact a.2.2
theorem ev_val (h : EvS O P T V k 0 ops vals n) : 1 ≤ vals := by
  obtain ⟨o, _, _, _, h4⟩ := h
  have := h4.ge; omega
theorem ev_end (h : EvS O P T V k w ops vals n) (hk : n ≤ k) : w = 0 ∧ (1 ≤ ops → O (ops - 1) ≠ 40) := by
  obtain ⟨o, h1, h2, h3, h4⟩ := h
  have e : k = n := by omega
  subst e
  obtain ⟨e1, e2⟩ := RunP.det k.toNat (by have := h1.ge; omega) h1 h2
  refine ⟨e2, fun hops a => ?_⟩
  subst e1
  rcases h4.inv hops with b | b | b
  · have := b.2.ge; omega
  · omega
  · omega
theorem ev_ops (h : EvS O P T V k w ops vals n) : 0 ≤ ops := by
  obtain ⟨o, _, _, _, h4⟩ := h
  have := h4.ge; omega
/-- a sign on top that isn't ( : one ahead of a value, or two values are there -/
theorem ev_top (h : EvS O P T V k 0 ops vals n) (hops : 1 ≤ ops) (h40 : O (ops - 1) ≠ 40) : 1001 ≤ O (ops - 1) ∨ 2 ≤ vals := by
  obtain ⟨o, h1, h2, h3, h4⟩ := h
  rcases h4.inv hops with a | a | a
  · omega
  · exact Or.inl a.1
  · have := a.2.2.ge; right; omega
end
