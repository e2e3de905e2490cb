/-! RUNS LAID DOWN: a method's runs, computed once, their ends weakened -/
section RMM
variable {cl : List vw_C} {fo : List rCC} {zs : List (String × String × String × rCV)} {rs : List (String × Nat × String × Nat)} {ns : List Cond} {Ts : List Cond} {l : Launch}
abbrev rMe : Type := (List rCV × (rWd × Nat)) × rOut
noncomputable def qqL {α : Type} (q : α → α → Bool) (l : List α) : List α → Bool := List.rec (motive := fun _ => List α → Bool) (fun m => List.rec true (fun _ _ _ => false) m) (fun x _ ih m => List.rec false (fun y ys _ => rB (q x y) (ih ys) false) m) l
noncomputable def qqP {α β : Type} (q1 : α → α → Bool) (q2 : β → β → Bool) (x y : α × β) : Bool := Prod.rec (fun a b => Prod.rec (fun c d => rB (q1 a c) (q2 b d) false) y) x
noncomputable def qqS {α β : Type} (q1 : α → α → Bool) (q2 : β → β → Bool) (x y : α ⊕ β) : Bool := Sum.rec (fun a => Sum.rec (fun c => q1 a c) (fun _ => false) y) (fun b => Sum.rec (fun _ => false) (fun d => q2 b d) y) x
noncomputable def qO {α : Type} (q : α → α → Bool) (x y : Option α) : Bool := Option.rec (Option.rec true (fun _ => false) y) (fun a => Option.rec false (fun b => q a b) y) x
theorem qL_e {α : Type} {q : α → α → Bool} (hq : ∀ a b, q a b = true → a = b) : ∀ l m : List α, qqL q l m = true → l = m
  | [], [], _ => rfl
  | [], _ :: _, h => by cases h
  | _ :: _, [], h => by cases h
  | x :: l, y :: m, h => by
    have h' : rB (q x y) (qqL q l m) false = true := h
    obtain ⟨h1, h2⟩ := rB_and h'
    rw [hq x y h1, qL_e hq l m h2]
theorem qP_e {α β : Type} {q1 : α → α → Bool} {q2 : β → β → Bool} (h1 : ∀ a b, q1 a b = true → a = b) (h2 : ∀ a b, q2 a b = true → a = b) : ∀ x y : α × β, qqP q1 q2 x y = true → x = y := fun (a, b) (c, d) h => by
  have h' : rB (q1 a c) (q2 b d) false = true := h
  obtain ⟨g1, g2⟩ := rB_and h'
  rw [h1 _ _ g1, h2 _ _ g2]
theorem qS_e {α β : Type} {q1 : α → α → Bool} {q2 : β → β → Bool} (h1 : ∀ a b, q1 a b = true → a = b) (h2 : ∀ a b, q2 a b = true → a = b) : ∀ x y : α ⊕ β, qqS q1 q2 x y = true → x = y
  | .inl a, .inl b, h => by rw [h1 a b h]
  | .inl _, .inr _, h => by cases h
  | .inr _, .inl _, h => by cases h
  | .inr a, .inr b, h => by rw [h2 a b h]
theorem qO_e {α : Type} {q : α → α → Bool} (hq : ∀ a b, q a b = true → a = b) : ∀ x y : Option α, qO q x y = true → x = y
  | none, none, _ => rfl
  | none, some _, h => by cases h
  | some _, none, h => by cases h
  | some a, some b, h => by rw [hq a b h]
noncomputable def qqV : rCV → rCV → Bool := qqS Nat.beq (qqS Nat.beq Nat.beq)
noncomputable def qqC : rCC → rCC → Bool := qqS (qqP Nat.beq (qqL qqV)) (qqP Nat.beq (qqP Nat.beq (qqP qqV (qqL (qqP Nat.beq (qqL (qqP Nat.beq qqV)))))))
noncomputable def qqW : rWd → rWd → Bool := qqL (qqP Nat.beq qqC)
theorem qN_e : ∀ a b : Nat, Nat.beq a b = true → a = b := fun _ _ h => Nat.eq_of_beq_eq_true h
theorem qV_e : ∀ a b : rCV, qqV a b = true → a = b := qS_e qN_e (qS_e qN_e qN_e)
theorem qC_e : ∀ a b : rCC, qqC a b = true → a = b := qS_e (qP_e qN_e (qL_e qV_e)) (qP_e qN_e (qP_e qN_e (qP_e qV_e (qL_e (qP_e qN_e (qL_e (qP_e qN_e qV_e)))))))
theorem qW_e : ∀ a b : rWd, qqW a b = true → a = b := qL_e (qP_e qN_e qC_e)
/-- the world tells that cell i is x -/
noncomputable def qqG (i : Nat) (x : rCC) (w : rWd) : Bool := List.rec (motive := fun _ => Bool) false (fun q _ ih => Prod.rec (fun a y => rB (Nat.beq a i) (qqC y x) ih) q) w
theorem qG_e {i : Nat} {x : rCC} : ∀ w : rWd, qqG i x w = true → wGet i w = some x
  | [], h => by cases h
  | (a, y) :: w, h => by
    have h' : rB (Nat.beq a i) (qqC y x) (qqG i x w) = true := h
    show (if a = i then some y else wGet i w) = some x
    by_cases e : a = i
    · rw [beq_t e] at h'
      rw [if_pos e, qC_e y x h']
    · rw [beq_f e] at h'
      rw [if_neg e]
      exact qG_e w h'
noncomputable def rMemo (L : List rMe) : rEv := fun as w n => List.rec (motive := fun _ => Option rOut) none (fun q _ ih => rB (qqL qqV q.1.1 as) (rB (Nat.beq q.1.2.2 n) (rB (qqW q.1.2.1 w) (some q.2) ih) ih) ih) L
/-- the second says no more than the first -/
noncomputable def rWk (o o' : rOut) : Bool := rB (qO qqV o.1 o'.1) (rB (Nat.beq o.2.2.1 o'.2.2.1) (rB (Nat.beq o.2.2.2 o'.2.2.2) (List.rec (motive := fun _ => Bool) true (fun q _ ih => rB (qqG q.1 q.2 o.2.1) ih false) o'.2.1) false) false) false
noncomputable def rM1 (F : rEv) (q : rMe) : Bool := Option.rec false (fun o => rWk o q.2) (F q.1.1 q.1.2.1 q.1.2.2)
theorem all_e {w : rWd} : ∀ (v : rWd), (List.rec (motive := fun _ => Bool) true (fun q _ ih => rB (qqG q.1 q.2 w) ih false) v) = true → ∀ q ∈ v, wGet q.1 w = some q.2
  | [], _, q, h => by cases h
  | x :: v, h, q, hq => by
    obtain ⟨h1, h2⟩ := rB_and (x := qqG x.1 x.2 w) h
    rcases List.mem_cons.mp hq with rfl | hq
    · exact qG_e w h1
    · exact all_e v h2 q hq
theorem wGet_mem {i : Nat} {x : rCC} : ∀ (w : rWd), wGet i w = some x → (i, x) ∈ w
  | [], h => by cases h
  | (a, y) :: w, h => by
    have h' : (if a = i then some y else wGet i w) = some x := h
    by_cases e : a = i
    · rw [if_pos e] at h'
      cases h'
      subst e
      exact List.mem_cons_self
    · rw [if_neg e] at h'
      exact List.mem_cons_of_mem _ (wGet_mem w h')
theorem rWk_e {o o' : rOut} (h : rWk o o' = true) : o.1 = o'.1 ∧ o.2.2.1 = o'.2.2.1 ∧ o.2.2.2 = o'.2.2.2 ∧ ∀ i x, wGet i o'.2.1 = some x → wGet i o.2.1 = some x := by
  obtain ⟨h1, h2⟩ := rB_and h
  obtain ⟨h3, h4⟩ := rB_and h2
  obtain ⟨h5, h6⟩ := rB_and h4
  exact ⟨qO_e qV_e _ _ h1, Nat.eq_of_beq_eq_true h3, Nat.eq_of_beq_eq_true h5, fun i x hx => all_e _ h6 _ (wGet_mem _ hx)⟩
theorem Met.weak {y : MethodName} {ws : List Cond} {rm : Room} {Pc : Array Value → State → Prop} {Qc Qc' : Array Value → State → Outcome → State → Prop} {mc ms : Nat} {free : Addr → Prop} (h : Met l y ws rm Pc Qc mc ms free) (hQ : ∀ a st o t, Qc a st o t → Qc' a st o t) : Met l y ws rm Pc Qc' mc ms free := fun p e h1 h2 h3 s m args below h4 h5 h6 h7 => by
  obtain ⟨n, o, g1, g2, g3, g4, g5⟩ := h p e h1 h2 h3 s m args below h4 h5 h6 h7
  exact ⟨n, o, g1, g2, g3, hQ _ _ _ _ g4, g5⟩
theorem rMemo_some : ∀ (L : List rMe) {as : List rCV} {w : rWd} {n : Nat} {o : rOut}, rMemo L as w n = some o → ((as, w, n), o) ∈ L
  | [], as, w, n, o, h => by cases h
  | q :: L, as, w, n, o, h => by
    have h' : rB (qqL qqV q.1.1 as) (rB (Nat.beq q.1.2.2 n) (rB (qqW q.1.2.1 w) (some q.2) (rMemo L as w n)) (rMemo L as w n)) (rMemo L as w n) = some o := h
    rcases rB_some h' with ⟨a1, a2⟩ | ⟨-, a2⟩
    · rcases rB_some a2 with ⟨b1, b2⟩ | ⟨-, b2⟩
      · rcases rB_some b2 with ⟨c1, c2⟩ | ⟨-, c2⟩
        · cases c2
          obtain ⟨⟨qa, qw, qn⟩, qo⟩ := q
          have e1 : qa = as := qL_e qV_e _ _ a1
          have e2 : qn = n := Nat.eq_of_beq_eq_true b1
          have e3 : qw = w := qW_e _ _ c1
          subst e1; subst e2; subst e3
          exact List.mem_cons_self
        · exact List.mem_cons_of_mem _ (rMemo_some L c2)
      · exact List.mem_cons_of_mem _ (rMemo_some L b2)
    · exact List.mem_cons_of_mem _ (rMemo_some L a2)
theorem met_memo {y : MethodName} {bytes : ByteArray} {maxL : Nat} {ret : Option FieldType} {fr lo : Nat} {F : rEv} (hF : rMet cl fo zs rs ns Ts l y bytes maxL ret fr lo F) (L : List rMe) (hL : ∀ q ∈ L, rM1 F q = true) : rMet cl fo zs rs ns Ts l y bytes maxL ret fr lo (rMemo L) := by
  intro G as w n o h
  have h1 := hL _ (rMemo_some L h)
  cases e : F as w n with
  | none =>
    have h2 : (Option.rec false (fun o' => rWk o' o) (F as w n) : Bool) = true := h1
    rw [e] at h2; cases h2
  | some o1 =>
    have h2 : (Option.rec false (fun o' => rWk o' o) (F as w n) : Bool) = true := h1
    rw [e] at h2
    obtain ⟨e1, e2, e3, e4⟩ := rWk_e h2
    obtain ⟨g1, g2⟩ := hF G as w n o1 e
    rw [e2, e3] at g2
    refine ⟨by rw [← e2]; exact g1, g2.weak fun a st oc t hq => ?_⟩
    obtain ⟨q1, q2, q3⟩ := hq
    refine ⟨by rw [← e1]; exact q1, ?_, q3⟩
    rw [e2] at q2
    exact ⟨q2.1, q2.2.1, fun i x hx => by
      obtain ⟨z1, z2, z3, z4⟩ := q2.2.2 i x (e4 i x hx)
      exact ⟨z1, z2, z3, fun j y hy => z4 j y (e4 j y hy)⟩⟩
end RMM
