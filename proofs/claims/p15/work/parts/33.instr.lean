/-! ALL STEPS TOGETHER -/
section
variable {γ : qGh}
/-- a list of forms, computed before it is handed on -/
noncomputable def qFl {α : Type} (l : List qL) : (List qL → α) → α := List.rec (motive := fun _ => (List qL → α) → α) (fun k => k []) (fun f _ ih k => qF f (fun f => ih (fun l => k (f :: l)))) l
theorem qFl_eq {α : Type} : ∀ (l : List qL) (k : List qL → α), qFl l k = k l
  | [], k => rfl
  | f :: l, k => by
    show qF f (fun f => qFl l (fun l => k (f :: l))) = _
    rw [qF_eq, qFl_eq l]
noncomputable def zexs (l : List qS) (z : qS → List Nat → qR) : List Nat → qR := List.rec (motive := fun _ => List Nat → qR) (fun str => some str) (fun x _ ih str => Option.rec none (fun str => ih str) (z x str)) l
theorem zexs_mem {z : qS → List Nat → qR} : ∀ (l : List qS) (str : List Nat) (o : List Nat), zexs l z str = some o → ∀ x ∈ l, ∃ s1 o1, z x s1 = some o1
  | [], str, o, h, x, hx => by cases hx
  | y :: l, str, o, h, x, hx => by
    obtain ⟨s1, h1, h2⟩ := opt_some (show Option.rec (motive := fun _ => qR) none (fun str => zexs l z str) (z y str) = some o from h)
    rcases List.mem_cons.mp hx with rfl | hx
    · exact ⟨str, s1, h1⟩
    · exact zexs_mem l s1 o h2 x hx
noncomputable def zS (S : qS) (as : List qSV) : qS := (zloc as 0, [], S.2.2.1, S.2.2.2)
noncomputable def xcall (md : List Nat) (C : qCt) : qS → List Nat → qKk → qR := fun S str k => zargs C.1 S.2.1 (fun as st => qB (Nat.ble st.length 4) (qFl (zthe 0 C.2.1 (zS S as)) (fun th => (fun et => qB (zwf C.2.1) (qB (Nat.beq th.length C.2.1.2.2.2.1) (qB (Nat.beq et.length C.2.1.2.2.2.2.2.2.1)
  (qB (zall (zwl S.2.2.2.1) th) (qB (zall (fun v => Nat.blt v S.2.2.2.2.2.2.1) et) (qB (zall (fun b => zmem b md) C.2.2.2) (zarr th et C.2.1 (zS S as) str (fun str => zexs C.2.2.1 (fun x str => qB (zwf x) (zend th et C.2.2.2 C.2.1 x st S (fun S => k S str)) none) str)) none) none) none) none) none) none) (zeta 0 C.2.1 (zS S as)))) none)
theorem xcall_ok {g : qG} {md : List Nat} {se : qSg} {C : qCt} {S : qS} {str : List Nat} {k : qKk} {o : List Nat} {P : qP} (h : xcall md C S str k = some o) (hk : ∀ (S' : qS) (str' o' : List Nat), k S' str' = some o' → ∀ r a ls st s, qJ g md se s → Sat γ g S' r a ls st s → P ls st s) :
    ∀ r a ls st s, qJ g md se s → Sat γ g S r a ls st s → wCall g C P ls st s := by
  intro r a ls st s hT hS
  obtain ⟨as, st0, h1, h2, h3⟩ := zargs_some h
  obtain ⟨wd, h3⟩ := qB_y h3
  rw [qFl_eq] at h3
  obtain ⟨w0, h4⟩ := qB_y h3
  obtain ⟨w1, h4⟩ := qB_y h4
  obtain ⟨w2, h4⟩ := qB_y h4
  obtain ⟨w3, h4⟩ := qB_y h4
  obtain ⟨w4, h4⟩ := qB_y h4
  obtain ⟨w5, h4⟩ := qB_y h4
  have hSA : Sat γ g (zS S as) r a (lsArgs 0 (as.map (qden r))) [] s := by
    refine ⟨hS.1, ?_⟩
    intro r' a' hg
    have Q := hS.2 r' a' hg
    refine ⟨?_, rfl, Q.2.2.1, Q.2.2.2.1, Q.2.2.2.2⟩
    show lsArgs 0 (as.map (qden r)) = (zloc as 0).map (dloc r')
    rw [zloc_eq]
    congr 1
    have q := hS.now.2.1.symm.trans Q.2.1
    rw [h1, List.map_append, List.map_append, List.map_reverse, List.map_reverse] at q
    have q2 := List.append_inj_left q (by simp)
    exact List.reverse_inj.mp q2
  obtain ⟨⟨s1, h5⟩, ls1, h6, h7⟩ := zarr_some h4 w0 hT.1 hSA
  refine ⟨as.map (qden r), st0.map (qden r), _, _, ?_, ⟨by rw [List.length_map]; exact h2, ls1, h6, h7⟩, by rw [List.length_map]; exact Nat.ble_eq.mp wd, hT.1, ?_⟩
  · rw [hS.now.2.1, h1, List.map_append, List.map_reverse]
  · rintro res s' ⟨e1, e2, x, hx, r1, a1, e3, e4, e5⟩
    obtain ⟨s2, o2, h8⟩ := zexs_mem _ _ _ h5 x hx
    obtain ⟨wx, h9⟩ := qB_y h8
    obtain ⟨S', r', a', h10, h11⟩ := zend_some (st' := st0.map (qden r)) h9 wx (Nat.eq_of_beq_eq_true w1) (Nat.eq_of_beq_eq_true w2) (zall_ok _ w3) (fun v hv => blt_t (zall_ok _ w4 v hv)) hS (fun r' e' => by
      have q := hS.now.2.1.symm.trans e'
      rw [h1, List.map_append, List.map_append] at q
      exact List.append_inj_right q (by simp)) e2 e3 e4 e5
    refine hk _ _ _ h10 r' a' ls _ s' ⟨e1, fun b hb => ?_⟩ h11
    rw [e2 b (fun hb2 => hb (zmem_t _ (zall_ok _ w5 b hb2)))]
    exact hT.2 b hb
-- a field, an array is touched
noncomputable def x34 (g : qG) (b : Nat) : qS → List Nat → qKk → qR := fun S str k => Option.rec (Option.rec none (fun x => Option.rec none (fun c => qB (qIlt 0 (x.2.1 * x.2.2.1)) (k (S.1, S.2.1, ((b, qV1 S.2.2.2.1) :: S.2.2.1.1, S.2.2.1.2), kVar S.2.2.2 c.1 c.2) str) none) (qNth x.2.2.2.2 0)) (qNth g b)) (fun _ => k S str) (qFi (β := Int) S.2.2.1.1 b)
theorem x34_ok {g : qG} {md : List Nat} {se : qSg} {b : Nat} {S : qS} {str : List Nat} {k : qKk} {o : List Nat} {P : qP} (h : x34 g b S str k = some o) (hk : ∀ (S' : qS) (str' o' : List Nat), k S' str' = some o' → ∀ r a ls st s, qJ g md se s → Sat γ g S' r a ls st s → P ls st s) :
    ∀ r a ls st s, qJ g md se s → Sat γ g S r a ls st s → P ls st s := by
  intro r a ls st s hT hS
  unfold x34 at h
  cases e : qFi (β := Int) S.2.2.1.1 b with
  | some v => rw [e] at h; exact hk _ _ _ h r a ls st s hT hS
  | none =>
    rw [e] at h
    obtain ⟨x, e1, h1⟩ := opt_some h
    obtain ⟨c, e2, h2⟩ := opt_some h1
    obtain ⟨h3, h4⟩ := qB_y h2
    have hx : g[b]? = some x := by rw [← qNth_get]; exact e1
    obtain ⟨c', c1, c2, c3⟩ := hT.1 _ _ hx 0 (by omega) (qIlt_t h3)
    rw [colAt_0 e2] at c1
    cases c1
    have hV := hS.var (s b 0) c.1 c.2 c2 c3
    refine hk _ _ _ h4 (wUp r S.2.2.2.1 (s b 0)) a ls st s hT ?_
    refine ⟨hV.1, ?_⟩
    intro r' a' hg'
    have C := hV.2 r' a' hg'
    refine ⟨C.1, C.2.1, ?_, C.2.2.2⟩
    intro y hy
    rcases List.mem_cons.mp hy with rfl | hy
    · show s b 0 = qe r' (qV1 S.2.2.2.1)
      rw [qV1_ev, hg'.1 _ (Nat.lt_succ_self _), wUp_same]
    · exact C.2.2.1 y hy
noncomputable def x35 (b : Nat) : qS → List Nat → qKk → qR := fun S str k => zver b S (fun S _ => k S str)
theorem x35_ok {g : qG} {md : List Nat} {se : qSg} {b : Nat} {S : qS} {str : List Nat} {k : qKk} {o : List Nat} {P : qP} (h : x35 b S str k = some o) (hk : ∀ (S' : qS) (str' o' : List Nat), k S' str' = some o' → ∀ r a ls st s, qJ g md se s → Sat γ g S' r a ls st s → P ls st s) :
    ∀ r a ls st s, qJ g md se s → Sat γ g S r a ls st s → P ls st s := by
  intro r a ls st s hT hS
  obtain ⟨S', v, a', h1, h2, -⟩ := zver_some h hT.1 hS
  exact hk _ _ _ h1 r a' ls st s hT h2
/-- what instruction d needs, calls with it -/
def wI (g : qG) (cts : List qCt) (d : qD) (P : qP) : qP := fun ls st s => match d.1 with
  | 33 => ∃ C : qCt, cts[d.2.1.toNat]? = some C ∧ wCall g C P ls st s
  | 34 => P ls st s
  | 35 => P ls st s
  | 36 => P ls st s ∨ ∃ (z : Int) (st2 : List qV), st = (0, z) :: st2 ∧ P ls ((0, (Int32.ofInt z).toInt) :: st2) s
  | 37 => P ls st s ∨ ∃ (z : Int) (st2 : List qV), st = (1, z) :: st2 ∧ P ls ((1, (Int64.ofInt z).toInt) :: st2) s
  | 38 => P ls st s
  | 39 => ∃ z : Int, P ls st (qUp s d.2.1.toNat 0 z)
  | 40 => P ls st s ∨ ∃ z : Int, (d.2.1.toNat, ((0, z) : qV)) ∈ ls ∧ P (lsSet d.2.1.toNat (0, (Int32.ofInt z).toInt) ls) st s
  | _ => wD g d P ls st s
noncomputable def z01 (z : Int) : Bool := qB (qIz z) true (qIz (z - 1))
theorem z01_t {z : Int} (h : z01 z = true) : z.toNat ≠ 3 := by
  unfold z01 at h
  cases e : qIz z
  · rw [e, qB_f rfl] at h
    have := qIz_t h
    omega
  · have := qIz_t e
    omega
noncomputable def xI (g : qG) (md : List Nat) (cts : List qCt) (rI rJ : qRt) (rL : Nat → Option qRl) (d : qD) (S : qS) (str : List Nat) (k : qKk) : qR := match d.1 with
  | 0 => x0 0 d S str k
  | 1 => x0 1 d S str k
  | 2 => x0 2 d S str k
  | 3 => x3 d S str k
  | 4 => x4 d S str k
  | 5 => x5 d S str k
  | 6 => x6 false S str k
  | 7 => x7 false S str k
  | 8 => x8 S str k
  | 9 => x9 S str k
  | 10 => x7 true S str k
  | 11 => x11 S str k
  | 12 => x12 S str k
  | 13 => x6 true S str k
  | 14 => qB (z01 d.2.1) (x14 d.2.1.toNat (fun x y => qA x 1 y) S str k) none
  | 15 => qB (z01 d.2.1) (x14 d.2.1.toNat (fun x y => qA x (-1) y) S str k) none
  | 16 => qB (z01 d.2.1) (x16 d.2.1.toNat S str k) none
  | 17 => qB (z01 d.2.1) (x17 d.2.1.toNat S str k) none
  | 18 => qB (qIn d.2.1) (x18 rI d S str k) none
  | 19 => qB (qIn d.2.1) (x19 rJ d S str k) none
  | 20 => x20 rI d S str k
  | 21 => x21 S str k
  | 22 => x22 S str k
  | 23 => x23 S str k
  | 24 => x24 g d S str k
  | 25 => x25 d S str k
  | 26 => x26 g md d S str k
  | 27 => x27 g d S str k
  | 28 => x28 g d S str k
  | 29 => x29 g md d S str k
  | 30 => x30 g d S str k
  | 31 => x31 0 (-2147483648) 2147483647 d S str k
  | 32 => x31 1 (-9223372036854775808) 9223372036854775807 d S str k
  | 33 => Option.rec none (fun C => xcall md C S str k) (qNth cts d.2.1.toNat)
  | 34 => x34 g d.2.1.toNat S str k
  | 35 => x35 d.2.1.toNat S str k
  | 36 => zp str (fun c str => Nat.rec (motive := fun _ => qR) (k S str) (fun c _ => Nat.rec (motive := fun _ => qR) (x31 0 (-2147483648) 2147483647 (31, 0, 0, 0) S str k) (fun _ _ => x31n 1018 0 (-2147483648) 2147483647 S str k) c) c)
  | 37 => zp str (fun c str => Nat.rec (motive := fun _ => qR) (k S str) (fun c _ => Nat.rec (motive := fun _ => qR) (x31 1 (-9223372036854775808) 9223372036854775807 (31, 0, 0, 0) S str k) (fun _ _ => x31n 1017 1 (-9223372036854775808) 9223372036854775807 S str k) c) c)
  | 38 => zhint rL 1000 S str k
  | 39 => x39 g md d S str k
  | 40 => x40 d S str k
  | _ => none
def RtI (ru : qRt) : Prop := (∀ (f n : Nat) (p : Int) (R : qRu), ru f n p = some R → ∀ a b, in32 a → in32 b → ((f : Int) = 6 ∨ (f : Int) = 7 → b ≠ 0) → RuOk (fI f) R a b) ∧ (∀ (f n : Nat) (p : Int) (R : qRu), ru f n p = some R → ∀ a, in32 a → RuOk (fI f) R a 0)
def RtJ (ru : qRt) : Prop := ∀ (f n : Nat) (p : Int) (R : qRu), ru f n p = some R → ∀ a b, in64 a → in64 b → ((f : Int) = 6 ∨ (f : Int) = 7 → b ≠ 0) → RuOk (fJ f) R a b
theorem xI_ok {g : qG} (hg : gTags g) {md : List Nat} {se : qSg} {cts : List qCt} {rI rJ : qRt} {rL : Nat → Option qRl} (hI : RtI rI) (hJ : RtJ rJ) (hL : ∀ n R, rL n = some R → RlOk R) {d : qD} {S : qS} {str : List Nat} {k : qKk} {o : List Nat} {P : qP} (h : xI g md cts rI rJ rL d S str k = some o) (hk : ∀ (S' : qS) (str' o' : List Nat), k S' str' = some o' → ∀ r a ls st s, qJ g md se s → Sat γ g S' r a ls st s → P ls st s) :
    ∀ r a ls st s, qJ g md se s → Sat γ g S r a ls st s → wI g cts d P ls st s := by
  obtain ⟨op, b⟩ := d
  match op with
  | 0 => exact x0_ok g md se 0 b.1 b.2 (Or.inl rfl) S str k o P h hk
  | 1 => exact x0_ok g md se 1 b.1 b.2 (Or.inr (Or.inl rfl)) S str k o P h hk
  | 2 => exact x0_ok g md se 2 b.1 b.2 (Or.inr (Or.inr rfl)) S str k o P h hk
  | 3 => exact x3_ok g md se b S str k o P h hk
  | 4 => exact x4_ok g md se b S str k o P h hk
  | 5 => exact x5_ok g md se b S str k o P h hk
  | 6 => exact x6_ok g md se b S str k o P h hk
  | 7 => exact x7_ok g md se b S str k o P h hk
  | 8 => exact x8_ok g md se b S str k o P h hk
  | 9 => exact x9_ok g md se b S str k o P h hk
  | 10 => exact x10_ok g md se b S str k o P h hk
  | 11 => exact x11_ok g md se b S str k o P h hk
  | 12 => exact x12_ok g md se b S str k o P h hk
  | 13 => exact x13_ok g md se b S str k o P h hk
  | 14 => exact x14_ok g md se b.1 b.2 (z01_t (qB_y h).1) S str k o P (qB_y h).2 hk
  | 15 => exact x15_ok g md se b.1 b.2 (z01_t (qB_y h).1) S str k o P (qB_y h).2 hk
  | 16 => exact x16_ok g md se b.1 b.2 (z01_t (qB_y h).1) S str k o P (qB_y h).2 hk
  | 17 => exact x17_ok g md se b.1 b.2 (z01_t (qB_y h).1) S str k o P (qB_y h).2 hk
  | 18 => exact x18_ok g hI.1 md se b (qIn_t (qB_y h).1) S str k o P (qB_y h).2 hk
  | 19 => exact x19_ok g hJ md se b (qIn_t (qB_y h).1) S str k o P (qB_y h).2 hk
  | 20 => exact x20_ok g hI.2 md se b S str k o P h hk
  | 21 => exact x21_ok g md se b S str k o P h hk
  | 22 => exact x22_ok g md se b S str k o P h hk
  | 23 => exact x23_ok g md se b S str k o P h hk
  | 24 => exact x24_ok g hg md se b S str k o P h hk
  | 25 => exact x25_ok g md se b S str k o P h hk
  | 26 => exact x26_ok g hg md se b S str k o P h hk
  | 27 => exact x27_ok g md se b S str k o P h hk
  | 28 => exact x28_ok g hg md se b S str k o P h hk
  | 29 => exact x29_ok g hg md se b S str k o P h hk
  | 30 => exact x30_ok g md se b S str k o P h hk
  | 31 => exact x31_ok g md se b S str k o P h hk
  | 32 => exact x32_ok g md se b S str k o P h hk
  | 33 =>
    obtain ⟨C, e, h1⟩ := opt_some h
    intro r a ls st s hT hS
    exact ⟨C, by rw [← qNth_get]; exact e, xcall_ok h1 hk r a ls st s hT hS⟩
  | 34 => exact x34_ok h hk
  | 35 => exact x35_ok h hk
  | 36 =>
    intro r a ls st s hT hS
    obtain ⟨c, s1, h1⟩ := zp_some (s := str) h
    match c with
    | 0 => exact Or.inl (hk S s1 o h1 r a ls st s hT hS)
    | 1 =>
      obtain ⟨h0, z, st2, S', r', e1, e2, e3⟩ := x31_go (show x31 0 (-2147483648) 2147483647 (31, 0, 0, 0) S s1 k = some o from h1) (by decide) hS (fun z => (Int32.ofInt z).toInt) ofInt32_in
      exact Or.inr ⟨z, st2, e1, hk _ _ _ e2 r' a _ _ s hT e3⟩
    | c + 2 =>
      obtain ⟨z, st2, S', r', e1, e2, e3⟩ := x31n_go (show x31n 1018 0 (-2147483648) 2147483647 S s1 k = some o from h1) (by decide) hS (fun z => (Int32.ofInt z).toInt) ofInt32_in (fun z => rfl)
      exact Or.inr ⟨z, st2, e1, hk _ _ _ e2 r' a _ _ s hT e3⟩
  | 37 =>
    intro r a ls st s hT hS
    obtain ⟨c, s1, h1⟩ := zp_some (s := str) h
    match c with
    | 0 => exact Or.inl (hk S s1 o h1 r a ls st s hT hS)
    | 1 =>
      obtain ⟨h0, z, st2, S', r', e1, e2, e3⟩ := x31_go (show x31 1 (-9223372036854775808) 9223372036854775807 (31, 0, 0, 0) S s1 k = some o from h1) (by decide) hS (fun z => (Int64.ofInt z).toInt) ofInt64_in
      exact Or.inr ⟨z, st2, e1, hk _ _ _ e2 r' a _ _ s hT e3⟩
    | c + 2 =>
      obtain ⟨z, st2, S', r', e1, e2, e3⟩ := x31n_go (show x31n 1017 1 (-9223372036854775808) 9223372036854775807 S s1 k = some o from h1) (by decide) hS (fun z => (Int64.ofInt z).toInt) ofInt64_in (fun z => rfl)
      exact Or.inr ⟨z, st2, e1, hk _ _ _ e2 r' a _ _ s hT e3⟩
  | 38 => exact zhint_ok hL hk 1000 S str o h
  | 39 => exact x39_ok h hk
  | 40 => exact x40_ok h hk
  | n + 41 => cases h
end
