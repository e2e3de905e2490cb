/-! RULES OF WHAT IS SAID OF ARRAYS -/
def mxT : fTm → Nat
  | [] => 0
  | x :: l => max (x.1 + 1) (mxT l)
def dnA : fTm → Nat → Int
  | [], _ => 0
  | x :: l, i => (if x.1 = i then x.2 else 0) + dnA l i
def dnL (l : fTm) : Nat → Nat → List Int
  | 0, _ => []
  | n + 1, i => dnA l i :: dnL l n (i + 1)
/-- the sentence that c and the sum of l isn't negative -/
def sp (c : Int) (l : fTm) : qSn := (0, [], c :: dnL l (mxT l) 0)
def sR (f : Nat → Int) : Nat → Nat → Int
  | 0, _ => 0
  | n + 1, i => f i + sR f n (i + 1)
theorem sR_add (f h : Nat → Int) : ∀ n i, sR (fun k => f k + h k) n i = sR f n i + sR h n i
  | 0, _ => rfl
  | n + 1, i => by
    show f i + h i + sR (fun k => f k + h k) n (i + 1) = f i + sR f n (i + 1) + (h i + sR h n (i + 1))
    rw [sR_add f h n (i + 1)]; omega
theorem sR_zero (f : Nat → Int) : ∀ n i, (∀ k, i ≤ k → f k = 0) → sR f n i = 0
  | 0, _, _ => rfl
  | n + 1, i, h => by
    show f i + sR f n (i + 1) = 0
    rw [h i (Nat.le_refl _), sR_zero f n (i + 1) (fun k hk => h k (by omega))]; rfl
theorem snSum_dn (l : fTm) (zs : List Int) : ∀ n i, snSum (dnL l n i) (zs.drop i) = sR (fun k => dnA l k * nthZ zs k) n i
  | 0, i => by cases zs.drop i <;> rfl
  | n + 1, i => by
    show snSum (dnA l i :: dnL l n (i + 1)) (zs.drop i) = dnA l i * nthZ zs i + sR (fun k => dnA l k * nthZ zs k) n (i + 1)
    by_cases h : i < zs.length
    · rw [List.drop_eq_getElem_cons h, ← snSum_dn l zs n (i + 1)]
      show dnA l i * zs[i] + snSum (dnL l n (i + 1)) (zs.drop (i + 1)) = _
      congr 2
      unfold nthZ
      rw [List.getElem?_eq_getElem h]; rfl
    · rw [List.drop_eq_nil_of_le (by omega)]
      have e : ∀ k, i ≤ k → nthZ zs k = 0 := fun k hk => by
        unfold nthZ
        rw [List.getElem?_eq_none (by omega)]; rfl
      rw [e i (Nat.le_refl _), sR_zero _ n (i + 1) (fun k hk => by rw [e k (by omega)]; omega)]
      show (0 : Int) = _
      omega
theorem sR_one (zs : List Int) (a : Nat) (c : Int) : ∀ n i, sR (fun k => (if a = k then c else 0) * nthZ zs k) n i = if i ≤ a ∧ a < i + n then c * nthZ zs a else 0
  | 0, i => by rw [if_neg (by omega)]; rfl
  | n + 1, i => by
    show (if a = i then c else 0) * nthZ zs i + sR (fun k => (if a = k then c else 0) * nthZ zs k) n (i + 1) = _
    rw [sR_one zs a c n (i + 1)]
    by_cases h : a = i
    · subst h
      rw [if_pos rfl, if_neg (by omega), if_pos (by omega)]; omega
    · rw [if_neg h]
      by_cases h2 : i + 1 ≤ a ∧ a < i + 1 + n
      · rw [if_pos h2, if_pos (by omega)]; omega
      · rw [if_neg h2, if_neg (by omega)]; omega
theorem sR_dn (zs : List Int) : ∀ (l : fTm) (n : Nat), mxT l ≤ n → sR (fun k => dnA l k * nthZ zs k) n 0 = fS zs l
  | [], n, _ => sR_zero _ n 0 (fun k _ => by show (0 : Int) * _ = 0; omega)
  | x :: l, n, h => by
    have h' : max (x.1 + 1) (mxT l) ≤ n := h
    have e : (fun k => dnA (x :: l) k * nthZ zs k) = fun k => (if x.1 = k then x.2 else 0) * nthZ zs k + dnA l k * nthZ zs k := by
      funext k
      show ((if x.1 = k then x.2 else 0) + dnA l k) * nthZ zs k = _
      rw [Int.add_mul]
    rw [e, sR_add, sR_one, if_pos (by omega), sR_dn zs l n (by omega)]
    rfl
theorem sp_ok {fs : List (Int → Int)} {zs : List Int} {c : Int} {l : fTm} : SnOk fs zs (sp c l) ↔ 0 ≤ c + fS zs l := by
  show 0 ≤ snSum (c :: dnL l (mxT l) 0) (1 :: zs) ↔ _
  have e : snSum (c :: dnL l (mxT l) 0) (1 :: zs) = c * 1 + snSum (dnL l (mxT l) 0) (zs.drop 0) := rfl
  rw [e, snSum_dn, sR_dn zs l _ (Nat.le_refl _), Int.mul_one]
def mpT (m : Nat → Nat) (l : fTm) : fTm := l.map (fun x => (m x.1, x.2))
def ngT (l : fTm) : fTm := l.map (fun x => (x.1, -x.2))
theorem fS_app (zs : List Int) : ∀ l m : fTm, fS zs (l ++ m) = fS zs l + fS zs m
  | [], m => by show fS zs m = 0 + fS zs m; omega
  | x :: l, m => by
    show x.2 * fZ zs x.1 + fS zs (l ++ m) = x.2 * fZ zs x.1 + fS zs l + fS zs m
    rw [fS_app zs l m]; omega
theorem fS_ng (zs : List Int) : ∀ l : fTm, fS zs (ngT l) = - fS zs l
  | [] => rfl
  | x :: l => by
    show -x.2 * fZ zs x.1 + fS zs (ngT l) = -(x.2 * fZ zs x.1 + fS zs l)
    rw [fS_ng zs l, Int.neg_mul]; omega
theorem fS_mp {zs zs' : List Int} {m : Nat → Nat} : ∀ l : fTm, (∀ x ∈ l, fZ zs' x.1 = fZ zs (m x.1)) → fS zs (mpT m l) = fS zs' l
  | [], _ => rfl
  | x :: l, h => by
    show x.2 * fZ zs (m x.1) + fS zs (mpT m l) = x.2 * fZ zs' x.1 + fS zs' l
    rw [fS_mp l (fun y hy => h y (List.mem_cons_of_mem _ hy)), h x List.mem_cons_self]
def wfT (n : Nat) (l : fTm) : Bool := l.all (fun x => decide (x.1 < n))
def wfZ (n : Nat) (l : fTm) : Bool := l.all (fun x => decide (2 ≤ x.1 ∧ x.1 < n))
theorem wfT_ok {n : Nat} {l : fTm} (h : wfT n l = true) : ∀ x ∈ l, x.1 < n := fun x hx => of_decide_eq_true (List.all_eq_true.mp h x hx)
theorem wfZ_ok {n : Nat} {l : fTm} (h : wfZ n l = true) : ∀ x ∈ l, 2 ≤ x.1 ∧ x.1 < n := fun x hx => of_decide_eq_true (List.all_eq_true.mp h x hx)
def wfR (nA nZ : Nat) : Nat → List fRd → Bool
  | _, [] => true
  | k, r :: rs => decide (r.1 < nA) && (wfZ nZ r.2.2.2.1 && (wfT k r.2.2.2.2 && wfR nA nZ (k + 1) rs))
theorem wfR_ok {nA nZ k : Nat} {r : fRd} {rs : List fRd} (h : wfR nA nZ k (r :: rs) = true) : r.1 < nA ∧ (∀ x ∈ r.2.2.2.1, 2 ≤ x.1 ∧ x.1 < nZ) ∧ (∀ x ∈ r.2.2.2.2, x.1 < k) ∧ wfR nA nZ (k + 1) rs = true := by
  have h' : (decide (r.1 < nA) && (wfZ nZ r.2.2.2.1 && (wfT k r.2.2.2.2 && wfR nA nZ (k + 1) rs))) = true := h
  rw [Bool.and_eq_true, Bool.and_eq_true, Bool.and_eq_true] at h'
  exact ⟨of_decide_eq_true h'.1, wfZ_ok h'.2.1, wfT_ok h'.2.2.1, h'.2.2.2⟩
def wfF (φ : fFm) : Bool := decide (2 ≤ φ.1.2) && (wfR φ.1.1 φ.1.2 0 φ.2.1 && φ.2.2.all (fun l => wfZ φ.1.2 l.2.2.1 && wfT φ.2.1.length l.2.2.2))
/-- the sentence that formula p is said, of functions by am, of numbers by zi -/
def atm (p : Nat) (φ : fFm) (am zi : Nat → Nat) : qSn := (p + 3, φ.1.1 :: ((List.range φ.1.1).map am ++ (List.range φ.1.2).map zi), [])
theorem atm_ok {fs : List (Int → Int)} {zs : List Int} {p : Nat} {φ : fFm} {am zi : Nat → Nat} : SnOk fs zs (atm p φ am zi) ↔ PQ p (((List.range φ.1.1).map am).map (nthF fs)) (((List.range φ.1.2).map zi).map (nthZ zs)) := by
  show PQ p ((((List.range φ.1.1).map am ++ (List.range φ.1.2).map zi).take φ.1.1).map (nthF fs)) ((((List.range φ.1.1).map am ++ (List.range φ.1.2).map zi).drop φ.1.1).map (nthZ zs)) ↔ _
  have e : ((List.range φ.1.1).map am).length = φ.1.1 := by rw [List.length_map, List.length_range]
  rw [List.take_left' e, List.drop_left' e]
theorem fA_at {fs : List (Int → Int)} {am : Nat → Nat} {n a : Nat} (h : a < n) : fF (((List.range n).map am).map (nthF fs)) a = nthF fs (am a) := by
  unfold fF
  rw [List.getElem?_map, List.getElem?_map, List.getElem?_range h]
  rfl
theorem fZ_at {zs : List Int} {zi : Nat → Nat} {n a : Nat} (h : a < n) : fZ (((List.range n).map zi).map (nthZ zs)) a = nthZ zs (zi a) := by
  unfold fZ
  rw [List.getElem?_map, List.getElem?_map, List.getElem?_range h]
  rfl
/-- the premises of the reads at number jz: their places from number iz on, their values from xz on -/
def rdP (am zi : Nat → Nat) (jz iz xz : Nat) : Nat → List fRd → List qSn
  | _, [] => []
  | k, r :: rs => sp r.2.2.1 ((jz, r.2.1) :: (iz + k, -1) :: (mpT zi r.2.2.2.1 ++ mpT (fun i => xz + i) r.2.2.2.2)) :: sp (-r.2.2.1) ((jz, -r.2.1) :: (iz + k, 1) :: ngT (mpT zi r.2.2.2.1 ++ mpT (fun i => xz + i) r.2.2.2.2)) :: (1, [am r.1, iz + k, xz + k], []) :: rdP am zi jz iz xz (k + 1) rs
theorem rdP_ok {fs : List (Int → Int)} {zs : List Int} {FA : List (Int → Int)} {ZA : List Int} {am zi : Nat → Nat} {jz iz xz nA nZ : Nat} (hF : ∀ a, a < nA → fF FA a = nthF fs (am a)) (hZ : ∀ i, 2 ≤ i → i < nZ → fZ ZA i = nthZ zs (zi i)) : ∀ (rs : List fRd) (k : Nat) (xs : List Int), wfR nA nZ k rs = true → xs.length = k → (∀ i, i < k → fZ xs i = nthZ zs (xz + i)) → (∀ x ∈ rdP am zi jz iz xz k rs, SnOk fs zs x) →
    (fXs FA ZA (nthZ zs jz) rs xs).length = k + rs.length ∧ ∀ i, i < k + rs.length → fZ (fXs FA ZA (nthZ zs jz) rs xs) i = nthZ zs (xz + i)
  | [], k, xs, _, hl, hx, _ => ⟨by show xs.length = k + 0; omega, fun i hi => hx i (by have : i < k + 0 := hi; omega)⟩
  | r :: rs, k, xs, hw, hl, hx, h => by
    obtain ⟨w1, w2, w3, w4⟩ := wfR_ok hw
    have h1 := sp_ok.mp (h _ List.mem_cons_self)
    have h2 := sp_ok.mp (h _ (List.mem_cons_of_mem _ List.mem_cons_self))
    have h3 := h _ (List.mem_cons_of_mem _ (List.mem_cons_of_mem _ List.mem_cons_self))
    have e1 : fS zs (mpT zi r.2.2.2.1) = fS ZA r.2.2.2.1 := fS_mp _ fun x hx => hZ _ (w2 x hx).1 (w2 x hx).2
    have e2 : fS zs (mpT (fun i => xz + i) r.2.2.2.2) = fS xs r.2.2.2.2 := fS_mp _ fun x hx' => hx _ (w3 x hx')
    have h1' : 0 ≤ r.2.2.1 + (r.2.1 * fZ zs jz + (-1 * fZ zs (iz + k) + fS zs (mpT zi r.2.2.2.1 ++ mpT (fun i => xz + i) r.2.2.2.2))) := h1
    have h2' : 0 ≤ -r.2.2.1 + (-r.2.1 * fZ zs jz + (1 * fZ zs (iz + k) + fS zs (ngT (mpT zi r.2.2.2.1 ++ mpT (fun i => xz + i) r.2.2.2.2)))) := h2
    rw [fS_app, e1, e2] at h1'
    rw [fS_ng, fS_app, e1, e2, Int.neg_mul] at h2'
    have e3 : fZ zs (iz + k) = fIx (nthZ zs jz) ZA xs r := by
      show fZ zs (iz + k) = r.2.2.1 + r.2.1 * fZ zs jz + fS ZA r.2.2.2.1 + fS xs r.2.2.2.2
      omega
    have h3' : nthF fs (am r.1) (nthZ zs (iz + k)) = nthZ zs (xz + k) := h3
    have e4 : fF FA r.1 (fIx (nthZ zs jz) ZA xs r) = nthZ zs (xz + k) := by
      rw [hF _ w1, ← e3]; exact h3'
    have hxs : ∀ i, i < k + 1 → fZ (xs ++ [fF FA r.1 (fIx (nthZ zs jz) ZA xs r)]) i = nthZ zs (xz + i) := fun i hi => by
      by_cases c : i < k
      · unfold fZ
        rw [List.getElem?_append_left (by omega)]
        exact hx i c
      · have c2 : i = k := by omega
        subst c2
        unfold fZ
        rw [List.getElem?_append_right (by omega), hl, Nat.sub_self]
        exact e4
    obtain ⟨q1, q2⟩ := rdP_ok hF hZ rs (k + 1) _ w4 (by rw [List.length_append, hl]; rfl) hxs (fun x hx => h x (List.mem_cons_of_mem _ (List.mem_cons_of_mem _ (List.mem_cons_of_mem _ hx))))
    have e5 : k + (r :: rs).length = k + 1 + rs.length := by rw [List.length_cons]; omega
    rw [e5]
    exact ⟨q1, q2⟩
/-- a sentence of a formula; its contrary -/
def lpS (zi : Nat → Nat) (jz xz : Nat) (l : fLt) : qSn := sp l.1 ((jz, l.2.1) :: (mpT zi l.2.2.1 ++ mpT (fun i => xz + i) l.2.2.2))
def lnS (zi : Nat → Nat) (jz xz : Nat) (l : fLt) : qSn := sp (-l.1 - 1) (ngT ((jz, l.2.1) :: (mpT zi l.2.2.1 ++ mpT (fun i => xz + i) l.2.2.2)))
theorem lv_eq {zs ZA ys : List Int} {zi : Nat → Nat} {jz xz nZ R : Nat} (hZ : ∀ i, 2 ≤ i → i < nZ → fZ ZA i = nthZ zs (zi i)) (hy : ∀ i, i < R → fZ ys i = nthZ zs (xz + i)) {l : fLt} (h1 : ∀ x ∈ l.2.2.1, 2 ≤ x.1 ∧ x.1 < nZ) (h2 : ∀ x ∈ l.2.2.2, x.1 < R) : l.1 + fS zs ((jz, l.2.1) :: (mpT zi l.2.2.1 ++ mpT (fun i => xz + i) l.2.2.2)) = fLv (nthZ zs jz) ZA ys l := by
  show l.1 + (l.2.1 * fZ zs jz + fS zs (mpT zi l.2.2.1 ++ mpT (fun i => xz + i) l.2.2.2)) = l.1 + l.2.1 * fZ zs jz + fS ZA l.2.2.1 + fS ys l.2.2.2
  rw [fS_app, fS_mp (zs' := ZA) _ (fun x hx => hZ _ (h1 x hx).1 (h1 x hx).2), fS_mp (zs' := ys) _ (fun x hx => hy _ (h2 x hx))]
  omega
theorem lpS_ok {fs : List (Int → Int)} {zs ZA ys : List Int} {zi : Nat → Nat} {jz xz nZ R : Nat} (hZ : ∀ i, 2 ≤ i → i < nZ → fZ ZA i = nthZ zs (zi i)) (hy : ∀ i, i < R → fZ ys i = nthZ zs (xz + i)) {l : fLt} (h1 : ∀ x ∈ l.2.2.1, 2 ≤ x.1 ∧ x.1 < nZ) (h2 : ∀ x ∈ l.2.2.2, x.1 < R) : SnOk fs zs (lpS zi jz xz l) ↔ 0 ≤ fLv (nthZ zs jz) ZA ys l := by
  unfold lpS
  rw [sp_ok, lv_eq hZ hy h1 h2]
theorem lnS_ok {fs : List (Int → Int)} {zs ZA ys : List Int} {zi : Nat → Nat} {jz xz nZ R : Nat} (hZ : ∀ i, 2 ≤ i → i < nZ → fZ ZA i = nthZ zs (zi i)) (hy : ∀ i, i < R → fZ ys i = nthZ zs (xz + i)) {l : fLt} (h1 : ∀ x ∈ l.2.2.1, 2 ≤ x.1 ∧ x.1 < nZ) (h2 : ∀ x ∈ l.2.2.2, x.1 < R) (h : SnOk fs zs (lnS zi jz xz l)) : fLv (nthZ zs jz) ZA ys l < 0 := by
  have q := sp_ok.mp h
  rw [fS_ng] at q
  have e := lv_eq (jz := jz) (xz := xz) hZ hy h1 h2
  omega
