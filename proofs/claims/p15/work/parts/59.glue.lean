/-! GLUE: instructions to blocks, blocks to a method -/
theorem wI_D {g : qG} {cts : List qCt} {d : qD} {P : qP} {ls : qLS} {st : List qV} {s : qSg} (hd : Nat.ble d.1 32 = true) (h : wI g cts d P ls st s) : wD g d P ls st s := by
  obtain ⟨op, a, b, c⟩ := d
  have hd : op ≤ 32 := Nat.ble_eq.mp hd
  unfold wI at h
  split at h
  · rename_i e; have e : op = 33 := e; omega
  · rename_i e; have e : op = 34 := e; omega
  · rename_i e; have e : op = 35 := e; omega
  · rename_i e; have e : op = 36 := e; omega
  · rename_i e; have e : op = 37 := e; omega
  · rename_i e; have e : op = 38 := e; omega
  · rename_i e; have e : op = 39 := e; omega
  · rename_i e; have e : op = 40 := e; omega
  · exact h
/-- block's instructions from pc on, read by K -/
def kB (g : qG) (cts : List qCt) (K : Nat → qP) (ds : List qD) (T : qP) (pc : Nat) : Prop := ∀ ls st s, wBl g cts ds T ls st s → K pc ls st s
section
variable {g : qG} {cts : List qCt} {K : Nat → qP} {ds : List qD} {T : qP} {pc pc' : Nat} {d : qD}
theorem kB.e (h : ∀ ls st s, T ls st s → K pc ls st s) : kB g cts K [] T pc := h
theorem kB.i (hd : Nat.ble d.1 32 = true) (h : kI g K pc pc' d) (r : kB g cts K ds T pc') : kB g cts K (d :: ds) T pc := fun ls st s hw => h ls st s (wD_mono r ls st s (wI_D hd hw))
theorem kB.l {i t : Nat} (h : kLd g t K pc pc' i) (r : kB g cts K ds T pc') : kB g cts K ((3, (i : Int), (t : Int), 0) :: ds) T pc := fun ls st s hw => by
  obtain ⟨v, h1, h2, h3⟩ := hw
  exact h ls st s ⟨v, h1, h2, r _ _ _ h3⟩
theorem kB.h34 {b : Int × Int × Int} (r : kB g cts K ds T pc) : kB g cts K ((34, b) :: ds) T pc := fun ls st s hw => r ls st s hw
theorem kB.h35 {b : Int × Int × Int} (r : kB g cts K ds T pc) : kB g cts K ((35, b) :: ds) T pc := fun ls st s hw => r ls st s hw
theorem kB.h38 {b : Int × Int × Int} (r : kB g cts K ds T pc) : kB g cts K ((38, b) :: ds) T pc := fun ls st s hw => r ls st s hw
theorem kB.gh {b : Nat} {c : Int × Int} (h : ∀ ls st s z, K pc ls st (qUp s b 0 z) → K pc ls st s) (r : kB g cts K ds T pc) : kB g cts K ((39, (b : Int), c) :: ds) T pc := fun ls st s hw => by
  obtain ⟨z, hz⟩ := hw
  exact h ls st s z (r _ _ _ hz)
theorem kB.n40 {i : Nat} {c : Int × Int} (h : ∀ ls st s, (K pc ls st s ∨ ∃ z : Int, (i, ((0, z) : qV)) ∈ ls ∧ K pc (lsSet i (0, (Int32.ofInt z).toInt) ls) st s) → K pc ls st s) (r : kB g cts K ds T pc) : kB g cts K ((40, (i : Int), c) :: ds) T pc := fun ls st s hw => h ls st s (by
  rcases hw with hw | ⟨z, h1, h2⟩
  · exact Or.inl (r _ _ _ hw)
  · exact Or.inr ⟨z, h1, r _ _ _ h2⟩)
theorem kB.n32 {b : Int × Int × Int} (h : ∀ ls st s, (K pc ls st s ∨ ∃ (z : Int) (st2 : List qV), st = (0, z) :: st2 ∧ K pc ls ((0, (Int32.ofInt z).toInt) :: st2) s) → K pc ls st s) (r : kB g cts K ds T pc) : kB g cts K ((36, b) :: ds) T pc := fun ls st s hw => h ls st s (by
  rcases hw with hw | ⟨z, st2, h1, h2⟩
  · exact Or.inl (r _ _ _ hw)
  · exact Or.inr ⟨z, st2, h1, r _ _ _ h2⟩)
theorem kB.n64 {b : Int × Int × Int} (h : ∀ ls st s, (K pc ls st s ∨ ∃ (z : Int) (st2 : List qV), st = (1, z) :: st2 ∧ K pc ls ((1, (Int64.ofInt z).toInt) :: st2) s) → K pc ls st s) (r : kB g cts K ds T pc) : kB g cts K ((37, b) :: ds) T pc := fun ls st s hw => h ls st s (by
  rcases hw with hw | ⟨z, st2, h1, h2⟩
  · exact Or.inl (r _ _ _ hw)
  · exact Or.inr ⟨z, st2, h1, r _ _ _ h2⟩)
theorem wCall_mono {C : qCt} {P Q : qP} (h : ∀ ls st s, P ls st s → Q ls st s) {ls : qLS} {st : List qV} {s : qSg} (hw : wCall g C P ls st s) : wCall g C Q ls st s := by
  obtain ⟨as, st', r, a, h1, h2, h3, h4, h5⟩ := hw
  exact ⟨as, st', r, a, h1, h2, h3, h4, fun res s' he => h _ _ _ (h5 res s' he)⟩
theorem kB.c {C : qCt} {i : Nat} (hC : cts[i]? = some C) (h : ∀ ls st s, wCall g C (K pc') ls st s → K pc ls st s) (r : kB g cts K ds T pc') : kB g cts K ((33, (i : Int), 0, 0) :: ds) T pc := fun ls st s hw => by
  obtain ⟨C', h1, h2⟩ := hw
  have h1 : cts[(i : Int).toNat]? = some C' := h1
  rw [Int.toNat_natCast, hC] at h1
  cases h1
  exact h ls st s (wCall_mono r h2)
end
/-- the reading of a method's blocks -/
def kV (K : Nat → qP) (pcs : List Nat) (b : Nat) : qP := fun ls st s => ∃ t, pcs[b]? = some t ∧ K t ls st s
def kAll (g : qG) (cts : List qCt) (K : Nat → qP) (Rr : List qV → qSg → Prop) (P : List Nat) : List Nat → qCd → Prop
  | _, [] => True
  | [], _ :: _ => False
  | pc :: l, blk :: bs => kB g cts K blk.1 (wT (kV K P) Rr blk.2) pc ∧ kAll g cts K Rr P l bs
theorem kAll.at {g : qG} {cts : List qCt} {K : Nat → qP} {Rr : List qV → qSg → Prop} {P : List Nat} : ∀ {l : List Nat} {bs : qCd} (h : kAll g cts K Rr P l bs) (b : Nat) (blk : List qD × qTm), bs[b]? = some blk → ∃ pc, l[b]? = some pc ∧ kB g cts K blk.1 (wT (kV K P) Rr blk.2) pc
  | _, [], h, b, blk, hb => nomatch hb
  | [], _ :: _, h, b, blk, hb => False.elim h
  | pc :: l, x :: bs, h, 0, blk, hb => by cases hb; exact ⟨_, rfl, h.1⟩
  | pc :: l, x :: bs, h, b + 1, blk, hb => kAll.at (l := l) (bs := bs) h.2 b blk hb
theorem kV_rule {g : qG} {cts : List qCt} {K : Nat → qP} {Rr : List qV → qSg → Prop} {P : List Nat} {bs : qCd} (hs : ∀ (t : Nat) (ls ls' : qLS) (st : List qV) (s : qSg), lsSub ls' ls → K t ls' st s → K t ls st s) (h : kAll g cts K Rr P P bs) : VRule g cts bs Rr (kV K P) :=
  ⟨fun b blk hb ls st s hw => by
    obtain ⟨pc, h1, h2⟩ := h.at b blk hb
    exact ⟨pc, h1, h2 ls st s hw⟩, fun b ls ls' st s h1 h2 => by
    obtain ⟨t, h3, h4⟩ := h2
    exact ⟨t, h3, hs t ls ls' st s h1 h4⟩⟩
section
variable {g : qG} {K : Nat → qP} {Rr : List qV → qSg → Prop} {P : List Nat} {pc t1 t2 : Nat} {tb : List (Int × Nat)}
/-- ends of blocks -/
theorem kE_goto {j b k : Nat} (hb : P[b]? = some t1) (h : ∀ ls st s, K t1 ls st s → K pc ls st s) : ∀ ls st s, wT (kV K P) Rr (0, j, b, k, tb) ls st s → K pc ls st s := fun ls st s hw => by
  obtain ⟨t, h1, h2⟩ := (show kV K P b ls st s from hw)
  cases Option.some.inj (h1.symm.trans hb)
  exact h ls st s h2
theorem kE_next {j b k : Nat} (hb : P[b]? = some pc) : ∀ ls st s, wT (kV K P) Rr (0, j, b, k, tb) ls st s → K pc ls st s := kE_goto hb (fun _ _ _ h => h)
theorem kV_at {b : Nat} (hb : P[b]? = some t1) {ls : qLS} {st : List qV} {s : qSg} (h : kV K P b ls st s) : K t1 ls st s := by
  obtain ⟨t, h1, h2⟩ := h
  cases Option.some.inj (h1.symm.trans hb)
  exact h2
theorem kE_icmp {q b c : Nat} (hb : P[b]? = some t1) (hc : P[c]? = some t2) (h : ∀ ls st s, (∃ (x y : Int) (st' : List qV), st = (0, y) :: (0, x) :: st' ∧ in32 x ∧ in32 y ∧ (relZ q x y → K t1 ls st' s) ∧ (¬ relZ q x y → K t2 ls st' s)) → K pc ls st s) : ∀ ls st s, wT (kV K P) Rr (1, q, b, c, tb) ls st s → K pc ls st s := by
  rintro ls st s ⟨x, y, st', rfl, h1, h2, h3, h4⟩
  exact h ls _ s ⟨x, y, st', rfl, h1, h2, fun z => kV_at hb (h3 z), fun z => kV_at hc (h4 z)⟩
theorem kE_if {q b c : Nat} (hb : P[b]? = some t1) (hc : P[c]? = some t2) (h : ∀ ls st s, (∃ (x : Int) (st' : List qV), st = (0, x) :: st' ∧ in32 x ∧ (relZ q x 0 → K t1 ls st' s) ∧ (¬ relZ q x 0 → K t2 ls st' s)) → K pc ls st s) : ∀ ls st s, wT (kV K P) Rr (2, q, b, c, tb) ls st s → K pc ls st s := by
  rintro ls st s ⟨x, st', rfl, h1, h3, h4⟩
  exact h ls _ s ⟨x, st', rfl, h1, fun z => kV_at hb (h3 z), fun z => kV_at hc (h4 z)⟩
theorem kE_pcs {V : Nat → qP} (hV : V = kV K P) : ∀ (b t : Nat), P[b]? = some t → ∀ ls st s, V b ls st s → K t ls st s := by
  subst hV
  exact fun b t hb ls st s h => kV_at hb h
theorem kE_ret {j b k : Nat} (h : ∀ ls st s, (st = [] ∧ Rr [] s) → K pc ls st s) : ∀ ls st s, wT (kV K P) Rr (4, j, b, k, tb) ls st s → K pc ls st s := fun ls st s hw => h ls st s hw
end
section KR
variable {g : qG} {L : kLay} {cl : List vw_C} {fo : List rCC} {zs : List (String × String × String × rCV)} {rs : List (String × Nat × String × Nat)} {ns : List Cond} {Ts : List Cond} {G : rGm}
variable {l : Launch} {cc : ByteArray} {nL n : Nat} {own : String} {pc : Nat} {ret : Option FieldType} {fr lo : Nat} {Qf : kQf}
theorem kmet_all {y : MethodName} {bytes : ByteArray} {maxL : Nat} {C : qCt} {cts : List qCt} {rI rJ : qRt} {rL : Nat → Option qRl} {code : qCd} {cuts : qCu} {fuel : Nat} {str : List Nat} {P : List Nat} (hy : plainName y.cls = true) (hg : gTags g) (hI : RtI rI) (hJ : RtJ rJ) (hL : ∀ n R, rL n = some R → RlOk R) (h : zchk g cts rI rJ rL code cuts C fuel str = true) (hw : zwid C.2.1.1 C.1 0 maxL = true) (hp : P[0]? = some 0)
    (hbody : ∀ (G : rGm) (n : Nat) (Rr : List qV → qSg → Prop), kAll g cts (kW g L cl fo zs rs ns Ts G l bytes maxL y.cls ret fr lo n (kMQ g L cl fo zs rs ns G n Rr)) Rr P P code) : kMet g L cl fo zs rs ns Ts l y bytes maxL ret fr lo C :=
  kmet_of hy hg hI hJ hL h hw fun G n Rr => ⟨kV (kW g L cl fo zs rs ns Ts G l bytes maxL y.cls ret fr lo n (kMQ g L cl fo zs rs ns G n Rr)) P, kV_rule (fun t ls ls' st s h1 (h2 : kW g L cl fo zs rs ns Ts G l bytes maxL y.cls ret fr lo n (kMQ g L cl fo zs rs ns G n Rr) t ls' st s) => k_sub h1 h2) (hbody G n Rr), fun ls st s h9 => kV_at hp h9⟩
end KR
