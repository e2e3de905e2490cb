/-! THE STEP OF A CALL -/
section
variable {γ : qGh}
/-- what a template's single unknowns are, by its places -/
noncomputable def zmt1 (t f : qL) (acc : List (Nat × qL)) : List (Nat × qL) := List.rec (motive := fun _ => List (Nat × qL)) acc (fun x _ _ => qB (qIz (x.2 - 1)) ((x.1, qA f (-1) (qC t.1)) :: acc) (qF (zhf (f.1 - t.1), zht f.2) (fun w => (x.1, w) :: acc))) t.2
noncomputable def zmtl (S : qS) (l : List (Nat × qSV)) (acc : List (Nat × qL)) : List (Nat × qL) := List.rec (motive := fun _ => List (Nat × qL)) acc (fun q _ ih => Option.rec ih (fun v => zmt1 q.2.2.1 v.2.1 ih) (qFi (β := Int) S.1 q.1)) l
noncomputable def zmts (t : List qSV) : List qSV → List (Nat × qL) → List (Nat × qL) := List.rec (motive := fun _ => List qSV → List (Nat × qL) → List (Nat × qL)) (fun _ acc => acc) (fun q _ ih s acc => List.rec (motive := fun _ => List (Nat × qL)) acc (fun v vs _ => ih vs (zmt1 q.2.1 v.2.1 acc)) s) t
noncomputable def zmtf (S : qS) (l : List (Nat × qL)) (acc : List (Nat × qL)) : List (Nat × qL) := List.rec (motive := fun _ => List (Nat × qL)) acc (fun q _ ih => Option.rec ih (fun f => zmt1 q.2 f ih) (qFi (β := Int) S.2.2.1.1 q.1)) l
noncomputable def zlst {α : Type} (d : Nat → α) (al : List (Nat × α)) (n : Nat) : Nat → List α := Nat.rec (motive := fun _ => Nat → List α) (fun _ => []) (fun _ ih v => Option.rec (d v) (fun f => f) (qFi (β := Int) al v) :: ih (Nat.succ v)) n
/-- the template's unknowns: the first m are the state's own -/
noncomputable def zthe (m : Nat) (T S : qS) : List qL := zapp (znew 0 m) (zlst (fun _ => qC 0) (zmtl S T.1 (zmts T.2.1 S.2.1 (zmtf S T.2.2.1.1 []))) (Nat.sub T.2.2.2.1 m) m)
noncomputable def zeta (m : Nat) (T S : qS) : List Nat := zapp (Nat.rec (motive := fun _ => Nat → List Nat) (fun _ => []) (fun _ ih v => v :: ih (Nat.succ v)) m 0) (zlst (fun v => v) (List.rec (motive := fun _ => List (Nat × Nat)) [] (fun q _ ih => Option.rec ih (fun w => (q.2, w) :: ih) (qFi (β := Int) S.2.2.1.2 q.1)) T.2.2.1.2) (Nat.sub T.2.2.2.2.2.2.1 m) m)
noncomputable def zvnew (n m : Nat) : List Nat := Nat.rec (motive := fun _ => Nat → List Nat) (fun _ => []) (fun _ ih n => n :: ih (Nat.succ n)) m n
theorem zvnew_get : ∀ (m n v : Nat), v < m → (zvnew n m)[v]? = some (n + v)
  | 0, n, v, h => by omega
  | m + 1, n, 0, _ => rfl
  | m + 1, n, v + 1, h => by
    show (n :: zvnew (Nat.succ n) m)[v + 1]? = _
    rw [List.getElem?_cons_succ, zvnew_get m (Nat.succ n) v (by omega)]
    congr 1; omega
noncomputable def zvv (et : List Nat) (q : Nat × Nat) : Option (Nat × Nat) := Option.rec none (fun w => some (q.1, w)) (qNth et q.2)
noncomputable def zqv (th : List qL) (et : List Nat) (q : Nat × (List Nat × List qL)) : Option (Nat × (List Nat × List qL)) := Option.rec none (fun vs => Option.rec none (fun fs => some (q.1, vs, fs)) (zmap (zsb th) q.2.2)) (zmap (qNth et) q.2.1)
/-- new versions' blocks -/
noncomputable def zvb (m n : Nat) (l : List (Nat × Nat)) (acc : List (Nat × Nat)) : List (Nat × Nat) := List.rec (motive := fun _ => List (Nat × Nat)) acc (fun q _ ih => qB (Nat.blt q.1 m) ih ((Nat.add n (Nat.sub q.1 m), q.2) :: ih)) l
theorem zvb_mem {m n : Nat} {acc : List (Nat × Nat)} {x : Nat × Nat} : ∀ l : List (Nat × Nat), x ∈ zvb m n l acc → x ∈ acc ∨ ∃ q ∈ l, m ≤ q.1 ∧ x = (n + (q.1 - m), q.2)
  | [], h => Or.inl h
  | q :: l, h => by
    have h' : x ∈ qB (Nat.blt q.1 m) (zvb m n l acc) ((Nat.add n (Nat.sub q.1 m), q.2) :: zvb m n l acc) := h
    cases e : Nat.blt q.1 m
    · rw [e, qB_f rfl] at h'
      rcases List.mem_cons.mp h' with rfl | h2
      · exact Or.inr ⟨q, List.mem_cons_self, blt_f e, rfl⟩
      · rcases zvb_mem l h2 with h3 | ⟨y, h3, h4⟩
        · exact Or.inl h3
        · exact Or.inr ⟨y, List.mem_cons_of_mem _ h3, h4⟩
    · rw [e, qB_t rfl] at h'
      rcases zvb_mem l h' with h3 | ⟨y, h3, h4⟩
      · exact Or.inl h3
      · exact Or.inr ⟨y, List.mem_cons_of_mem _ h3, h4⟩
/-- the state behind a call, at end x of the contract with start T: th, et what the start's unknowns and versions are -/
noncomputable def zend (th : List qL) (et : List Nat) (md : List Nat) (T x : qS) (st : List qSV) (S : qS) (k : qS → qR) : qR :=
  (fun (th2 : List qL) (et2 : List Nat) => Option.rec none (fun rs => Option.rec none (fun sc => Option.rec none (fun av => Option.rec none (fun fs => Option.rec none (fun qf =>
    k (S.1, zapp rs st, (zapp sc (zdl md S.2.2.1.1), zapp av (zdl md S.2.2.1.2)), (Nat.add S.2.2.2.1 (Nat.sub x.2.2.2.1 T.2.2.2.1), zbn T.2.2.2.1 S.2.2.2.1 x.2.2.2.2.1 S.2.2.2.2.1, zapp fs S.2.2.2.2.2.1, Nat.add S.2.2.2.2.2.2.1 (Nat.sub x.2.2.2.2.2.2.1 T.2.2.2.2.2.2.1), zvb T.2.2.2.2.2.2.1 S.2.2.2.2.2.2.1 x.2.2.2.2.2.2.2.1 S.2.2.2.2.2.2.2.1, S.2.2.2.2.2.2.2.2.1, S.2.2.2.2.2.2.2.2.2.1, zapp qf S.2.2.2.2.2.2.2.2.2.2)))
    (zmap (zqv th2 et2) x.2.2.2.2.2.2.2.2.2.2)) (zmap (zsb th2) x.2.2.2.2.2.1)) (zmap (zvv et2) x.2.2.1.2)) (zmap (zsf th2) x.2.2.1.1)) (zmap (zsv th2) x.2.1))
  (zapp th (znew S.2.2.2.1 (Nat.sub x.2.2.2.1 T.2.2.2.1))) (zapp et (zvnew S.2.2.2.2.2.2.1 (Nat.sub x.2.2.2.2.2.2.1 T.2.2.2.2.2.2.1)))
theorem opt_some {α β : Type} {x : Option α} {f : α → Option β} {o : β} (h : Option.rec (motive := fun _ => Option β) none f x = some o) : ∃ a, x = some a ∧ f a = some o := by
  cases x with
  | none => cases h
  | some a => exact ⟨a, rfl, h⟩
def jn {α : Type} (n m : Nat) (r r1 : Nat → α) : Nat → α := fun v => if v < n then r v else r1 (v - n + m)
theorem jn_lo {α : Type} {n m : Nat} {r r1 : Nat → α} {v : Nat} (h : v < n) : jn n m r r1 v = r v := if_pos h
theorem jn_hi {α : Type} {n m : Nat} {r r1 : Nat → α} (j v : Nat) (h : v = j + m) : jn n m r r1 (n + j) = r1 v := by
  unfold jn
  rw [if_neg (by omega)]
  congr 1; omega
theorem zend_some {th : List qL} {et : List Nat} {md : List Nat} {T x : qS} {st0 : List qSV} {S : qS} {k : qS → qR} {o : List Nat} (h : zend th et md T x st0 S k = some o) (hwx : zwf x = true) (hth : th.length = T.2.2.2.1) (het : et.length = T.2.2.2.2.2.2.1) (hwt : ∀ f ∈ th, zwl S.2.2.2.1 f = true) (hwe : ∀ v ∈ et, v < S.2.2.2.2.2.2.1)
    {g : qG} {r : qW} {a : qX} {ls : qLS} {st : List qV} {s s' : qSg} {res st' : List qV} (hS : Sat γ g S r a ls st s) (hst : ∀ r', st = S.2.1.map (qden r') → st' = st0.map (qden r')) (hfr : ∀ b : Nat, ¬ b ∈ md → s' b = s b)
    {r1 : qW} {a1 : qX} (h1 : ∀ v, v < T.2.2.2.1 → r1 v = zrS r th v) (h2 : ∀ v, v < T.2.2.2.2.2.2.1 → a1 v = aSub a et v) (hx : Sat gh0 g x r1 a1 [] res s') :
    ∃ S' r' a', k S' = some o ∧ Sat γ g S' r' a' ls (res ++ st') s' := by
  unfold zend at h
  obtain ⟨rs, e1, h⟩ := opt_some h
  obtain ⟨sc, e2, h⟩ := opt_some h
  obtain ⟨av, e3, h⟩ := opt_some h
  obtain ⟨fs, e4, h⟩ := opt_some h
  obtain ⟨qf, e5, h⟩ := opt_some h
  refine ⟨_, jn S.2.2.2.1 T.2.2.2.1 r r1, jn S.2.2.2.2.2.2.1 T.2.2.2.2.2.2.1 a a1, h, ⟨Nat.le_trans hS.1.1 (Nat.le_add_right _ _), Nat.le_trans hS.1.2.1 (Nat.le_add_right _ _), fun v hv => (jn_lo (Nat.lt_of_lt_of_le hv hS.1.1)).trans (hS.1.2.2.1 v hv), fun v hv => (jn_lo (Nat.lt_of_lt_of_le hv hS.1.2.1)).trans (hS.1.2.2.2 v hv)⟩, ?_⟩
  intro r3 a3 hg
  have g1 : ∀ v, v < S.2.2.2.1 → r3 v = r v := fun v hv => by
    rw [hg.1 v (Nat.lt_of_lt_of_le hv (Nat.le_add_right _ _))]; exact jn_lo hv
  have g2 : ∀ v, v < S.2.2.2.2.2.2.1 → a3 v = a v := fun v hv => by
    rw [hg.2 v (Nat.lt_of_lt_of_le hv (Nat.le_add_right _ _))]; exact jn_lo hv
  have C := hS.2 r3 a3 ⟨g1, g2⟩
  have hr : ∀ v, v < x.2.2.2.1 → zrS r3 (zapp th (znew S.2.2.2.1 (Nat.sub x.2.2.2.1 T.2.2.2.1))) v = r1 v := by
    intro v hv
    unfold zrS
    rw [zapp_eq]
    by_cases c : v < T.2.2.2.1
    · rw [List.getElem?_append_left (by omega)]
      have hv2 : v < th.length := by omega
      have e0 := h1 v c
      unfold zrS at e0
      rw [List.getElem?_eq_getElem hv2] at e0 ⊢
      rw [e0]
      exact zwl_ok g1 (hwt _ (List.getElem_mem hv2))
    · rw [List.getElem?_append_right (by omega), znew_get _ _ _ (by show v - th.length < x.2.2.2.1 - T.2.2.2.1; omega)]
      show qe r3 (qV1 (S.2.2.2.1 + (v - th.length))) = r1 v
      rw [qV1_ev, hg.1 _ (by show S.2.2.2.1 + (v - th.length) < S.2.2.2.1 + (x.2.2.2.1 - T.2.2.2.1); omega)]
      exact jn_hi _ _ (by omega)
  have ha : ∀ v, v < x.2.2.2.2.2.2.1 → aSub a3 (zapp et (zvnew S.2.2.2.2.2.2.1 (Nat.sub x.2.2.2.2.2.2.1 T.2.2.2.2.2.2.1))) v = a1 v := by
    intro v hv
    unfold aSub
    rw [zapp_eq]
    by_cases c : v < T.2.2.2.2.2.2.1
    · rw [List.getElem?_append_left (by omega)]
      have hv2 : v < et.length := by omega
      have e0 := h2 v c
      unfold aSub at e0
      rw [List.getElem?_eq_getElem hv2] at e0 ⊢
      rw [e0]
      exact g2 _ (hwe _ (List.getElem_mem hv2))
    · rw [List.getElem?_append_right (by omega), zvnew_get _ _ _ (by show v - et.length < x.2.2.2.2.2.2.1 - T.2.2.2.2.2.2.1; omega)]
      show a3 (S.2.2.2.2.2.2.1 + (v - et.length)) = a1 v
      rw [hg.2 _ (by show S.2.2.2.2.2.2.1 + (v - et.length) < S.2.2.2.2.2.2.1 + (x.2.2.2.2.2.2.1 - T.2.2.2.2.2.2.1); omega)]
      exact jn_hi _ _ (by omega)
  have X := hx.2 _ _ ⟨hr, ha⟩
  obtain ⟨-, hwx⟩ := qB_and hwx
  obtain ⟨-, hwx⟩ := qB_and hwx
  obtain ⟨-, hwx⟩ := qB_and hwx
  obtain ⟨-, hwx⟩ := qB_and hwx
  obtain ⟨w5, hwx⟩ := qB_and hwx
  obtain ⟨-, hwx⟩ := qB_and hwx
  obtain ⟨w7, hwx⟩ := qB_and hwx
  obtain ⟨x1, x2, x3, x4, y1, y2, y3, y4, y5, y6⟩ := X
  obtain ⟨c1, c2, c3, c4, k1, k2, k3, k4, k5, k6⟩ := C
  refine ⟨c1, ?_, ?_, ?_, ?_, ?_, k3, k4, ?_, ?_⟩
  · show res ++ st' = (zapp rs st0).map (qden r3)
    rw [zapp_eq, List.map_append, x2, hst r3 c2, zmap_eq (p := qden (zrS r3 _)) (q := qden r3) (fun v w hvw => zsv_ok hvw r3) _ _ e1]
  · intro q hq
    have hq' : q ∈ zapp sc (zdl md S.2.2.1.1) := hq
    rw [zapp_eq] at hq'
    rcases List.mem_append.mp hq' with hq' | hq'
    · obtain ⟨p, p1, p2⟩ := zmap_mem _ _ e2 q hq'
      unfold zsf at p2
      obtain ⟨f, f1, f2⟩ := opt_some p2
      cases f2
      show s' p.1 0 = qe r3 f
      rw [zsb_ok f1, x3 p p1]
    · obtain ⟨p1, p2⟩ := zdl_mem _ hq'
      rw [hfr _ p2]; exact c3 q p1
  · intro q hq i
    have hq' : q ∈ zapp av (zdl md S.2.2.1.2) := hq
    rw [zapp_eq] at hq'
    rcases List.mem_append.mp hq' with hq' | hq'
    · obtain ⟨p, p1, p2⟩ := zmap_mem _ _ e3 q hq'
      unfold zvv at p2
      obtain ⟨w, f1, f2⟩ := opt_some p2
      cases f2
      show s' p.1 i = a3 w i
      rw [x4 p p1 i]
      rw [qNth_get] at f1
      unfold aSub
      rw [f1]
    · obtain ⟨p1, p2⟩ := zdl_mem _ hq'
      rw [hfr _ p2]; exact c4 q p1 i
  · intro q hq
    rcases zbn_mem _ hq with hq | ⟨p, p1, p2, rfl⟩
    · exact k1 q hq
    · have e0 := y1 p p1
      have hx1 : p.1 < x.2.2.2.1 := blt_t (zall_ok _ w5 p p1)
      show p.2.1 ≤ r3 (S.2.2.2.1 + (p.1 - T.2.2.2.1)) ∧ r3 (S.2.2.2.1 + (p.1 - T.2.2.2.1)) ≤ p.2.2
      rw [hr _ hx1] at e0
      rw [hg.1 _ (by show S.2.2.2.1 + (p.1 - T.2.2.2.1) < S.2.2.2.1 + (x.2.2.2.1 - T.2.2.2.1); omega), jn_hi _ p.1 (by omega)]
      exact e0
  · intro f hf
    have hf' : f ∈ zapp fs S.2.2.2.2.2.1 := hf
    rw [zapp_eq] at hf'
    rcases List.mem_append.mp hf' with hf' | hf'
    · obtain ⟨p, p1, p2⟩ := zmap_mem _ _ e4 f hf'
      rw [zsb_ok p2]; exact y2 p p1
    · exact k2 f hf'
  · intro q hq y hy
    rcases zvb_mem _ hq with hq | ⟨p, p1, p2, rfl⟩
    · exact k5 q hq y hy
    · have e0 := y5 p p1 y hy
      have hx1 : p.1 < x.2.2.2.2.2.2.1 := blt_t (zall_ok _ w7 p p1)
      show inCols y (a3 (S.2.2.2.2.2.2.1 + (p.1 - T.2.2.2.2.2.2.1)))
      rw [ha _ hx1] at e0
      rw [hg.2 _ (by show S.2.2.2.2.2.2.1 + (p.1 - T.2.2.2.2.2.2.1) < S.2.2.2.2.2.2.1 + (x.2.2.2.2.2.2.1 - T.2.2.2.2.2.2.1); omega), jn_hi _ p.1 (by omega)]
      exact e0
  · intro q hq
    have hq' : q ∈ zapp qf S.2.2.2.2.2.2.2.2.2.2 := hq
    rw [zapp_eq] at hq'
    rcases List.mem_append.mp hq' with hq' | hq'
    · obtain ⟨p, p1, p2⟩ := zmap_mem _ _ e5 q hq'
      unfold zqv at p2
      obtain ⟨vs, f1, f2⟩ := opt_some p2
      obtain ⟨gs, f3, f4⟩ := opt_some f2
      cases f4
      have e0 := y6 p p1
      show PQ p.1 (vs.map a3) (gs.map (qe r3))
      rw [zmap_eq (p := aSub a3 _) (q := a3) (fun v w hvw => by
        rw [qNth_get] at hvw
        unfold aSub
        rw [hvw]) _ _ f1, zmap_eq (p := qe (zrS r3 _)) (q := qe r3) (fun v w hvw => (zsb_ok hvw r3).symm) _ _ f3] at e0
      exact e0
    · exact k6 q hq'
end
