/-! ROWS FOR WHAT ISN'T KNOWN: values that are carried, not computed -/
def rOf (x : Int32) : Nat := x.toBitVec.toNat
def rOL (x : Int64) : Nat := x.toBitVec.toNat
theorem rOf_e (x : Int32) : nI (rOf x) = x := by
  apply Int32.toBitVec_inj.mp
  apply BitVec.eq_of_toNat_eq
  show (BitVec.ofNat 32 _).toNat = _
  rw [BitVec.toNat_ofNat]
  exact Nat.mod_eq_of_lt x.toBitVec.isLt
theorem rOL_e (x : Int64) : lN (rOL x) = x := by
  apply Int64.toBitVec_inj.mp
  apply BitVec.eq_of_toNat_eq
  show (BitVec.ofNat 64 _).toNat = _
  rw [BitVec.toNat_ofNat]
  exact Nat.mod_eq_of_lt x.toBitVec.isLt
theorem rOf_lt (x : Int32) : rOf x < 4294967296 := x.toBitVec.isLt
noncomputable def h_unZ (f : Int32 → Int32) (k : rK) : rK := fun ls st w n c => rP st (fun x st => rI x (fun a => k ls (.inl (rOf (f (nI a))) :: st) w n c))
noncomputable def h_binZ (f : Int32 → Int32 → Int32) (k : rK) : rK := fun ls st w n c => rP st (fun y st => rP st (fun x st => rI y (fun b => rI x (fun a => k ls (.inl (rOf (f (nI a) (nI b))) :: st) w n c))))
noncomputable def h_lbinZ (f : Int64 → Int64 → Int64) (k : rK) : rK := fun ls st w n c => rP st (fun y st => rP st (fun x st => rJ y (fun b => rJ x (fun a => k ls (.inr (.inl (rOL (f (lN a) (lN b)))) :: st) w n c))))
noncomputable def h_lshZ (f : Int64 → Int32 → Int64) (k : rK) : rK := fun ls st w n c => rP st (fun y st => rP st (fun x st => rI y (fun b => rJ x (fun a => k ls (.inr (.inl (rOL (f (lN a) (nI b)))) :: st) w n c))))
noncomputable def h_i2lZ (k : rK) : rK := fun ls st w n c => rP st (fun x st => rI x (fun a => k ls (.inr (.inl (rOL (nI a).toInt64)) :: st) w n c))
noncomputable def h_l2iZ (k : rK) : rK := fun ls st w n c => rP st (fun x st => rJ x (fun a => k ls (.inl (rOf (lN a).toInt32) :: st) w n c))
noncomputable def h_lcmp (k : rK) : rK := fun ls st w n c => rP st (fun y st => rP st (fun x st => rJ y (fun b => rJ x (fun a => k ls (.inl (rOf (lg_cmp (lN a) (lN b))) :: st) w n c))))
noncomputable def h_mmZ (f : Int32 → Int32 → Int32) (k : rK) : rK := fun ls st w n c => rP st (fun y st => rP st (fun x st => rB (Nat.ble (rSum st) 8) (rI y (fun b => rI x (fun a => k ls (.inl (rOf (f (nI a) (nI b))) :: st) w n c))) none))
/-- an element of an array whose elements are all the same -/
noncomputable def h_aldC (fo : List rCC) (ok : Nat → rCV → Bool) (k : rK) : rK := fun ls st w n c => rP st (fun y st => rP st (fun x st => rI y (fun i => rR x (fun r => rOF fo w r (fun cell => rCA cell (fun t' N d m => List.rec (motive := fun _ => Option rOut) (rB (Nat.blt i N) (rB (ok t' d) (k ls (d :: st) w n c) none) none) (fun _ _ _ => none) m))))))
/-- a field of an own object -/
noncomputable def h_getO (ci j : Nat) (k : rK) : rK := fun ls st w n c => rP st (fun x st => rR x (fun r => rO w r (fun _ cell => rCO cell (fun ci' fs => rB (Nat.beq ci' ci) (rG fs j (fun v => k ls (v :: st) w n c)) none))))
/-- a byte into a row of bytes, whatever it is -/
noncomputable def h_astZ (k : rK) : rK := fun ls st w n c => rP st (fun v st => rP st (fun y st => rP st (fun x st => rI v (fun a => rI y (fun i => rR x (fun r => rO w r (fun p cell => rCA cell (fun t' N d m => rB (Nat.beq t' 2) (rB (Nat.blt i N) (rN (Nat.div i 64) (fun q => rU m q i (.inl (rOf (nI a).toInt8.toInt32)) (fun m => rWS w p (.inr (t', N, d, m)) (fun w => k ls st w n c)))) none) none))))))))
def wDel (i : Nat) : rWd → rWd
  | [] => []
  | (a, y) :: w => if a = i then wDel i w else (a, y) :: wDel i w
noncomputable def rWD {β : Type} (w : rWd) (i : Nat) (k : rWd → Option β) : Option β := List.rec (motive := fun _ => (rWd → Option β) → Option β) (fun k => k []) (fun q _ ih k => Prod.rec (fun a y => rB (Nat.beq a i) (ih k) (ih (fun w => k ((a, y) :: w)))) q) w k
theorem rWD_eq {β : Type} {i : Nat} : ∀ (w : rWd) (k : rWd → Option β), rWD w i k = k (wDel i w)
  | [], k => rfl
  | (a, y) :: w, k => by
    show rB (Nat.beq a i) (rWD w i k) (rWD w i (fun w => k ((a, y) :: w))) = k (if a = i then wDel i w else (a, y) :: wDel i w)
    by_cases e : a = i
    · rw [beq_t e, if_pos e]
      exact rWD_eq w k
    · rw [beq_f e, if_neg e]
      exact rWD_eq w _
theorem wDel_set {i : Nat} {x : rCC} : ∀ w : rWd, wDel i (wSet i x w) = wDel i w
  | [] => rfl
  | (a, y) :: w => by
    show wDel i (if a = i then (a, x) :: w else (a, y) :: wSet i x w) = if a = i then wDel i w else (a, y) :: wDel i w
    by_cases e : a = i
    · rw [if_pos e, if_pos e]
      show (if a = i then wDel i w else (a, x) :: wDel i w) = _
      rw [if_pos e]
    · rw [if_neg e, if_neg e]
      show (if a = i then wDel i (wSet i x w) else (a, y) :: wDel i (wSet i x w)) = _
      rw [if_neg e, wDel_set w]
theorem wDel_get {i j : Nat} {x : rCC} : ∀ w : rWd, wGet j (wDel i w) = some x → wGet j w = some x
  | [], h => by cases h
  | (a, y) :: w, h => by
    show (if a = j then some y else wGet j w) = some x
    have h' : wGet j (if a = i then wDel i w else (a, y) :: wDel i w) = some x := h
    by_cases e : a = i
    · rw [if_pos e] at h'
      by_cases e2 : a = j
      · exfalso
        have : ∀ w : rWd, wGet j (wDel i w) = none := by
          intro w
          induction w with
          | nil => rfl
          | cons q w ih =>
            obtain ⟨b, z⟩ := q
            show wGet j (if b = i then wDel i w else (b, z) :: wDel i w) = none
            by_cases e3 : b = i
            · rw [if_pos e3]; exact ih
            · rw [if_neg e3]
              show (if b = j then some z else wGet j (wDel i w)) = none
              rw [if_neg (by omega)]; exact ih
        rw [this w] at h'
        cases h'
      · rw [if_neg e2]
        exact wDel_get w h'
    · rw [if_neg e] at h'
      have h2 : (if a = j then some y else wGet j (wDel i w)) = some x := h'
      by_cases e2 : a = j
      · rw [if_pos e2] at h2 ⊢
        exact h2
      · rw [if_neg e2] at h2 ⊢
        exact wDel_get w h2
/-- a long into a row of longs, somewhere: the row is forgotten -/
noncomputable def h_lastF (k : rK) : rK := fun ls st w n c => rP st (fun v st => rP st (fun y st => rP st (fun x st => rB (isJ v) (rI y (fun i => rR x (fun r => rO w r (fun p cell => rCA cell (fun t' N d m => rB (Nat.beq t' 1) (rB (Nat.blt i N) (rWD w p (fun w => k ls st w n c)) none) none))))) none)))
theorem HS.mono {V : rPr} {pc pc' : Nat} {h h' : rK → rK} (hh : ∀ (k : rK) (ls : rLs) (st : List rCV) (w : rWd) (n c : Nat) (o : rOut), h' k ls st w n c = some o → h k ls st w n c = some o) (H : HS V pc pc' h) : HS V pc pc' h' := fun k ls st w n c o e => H k ls st w n c o (hh k ls st w n c o e)
section RZ
variable {cl : List vw_C} {fo : List rCC} {zs : List (String × String × String × rCV)} {rs : List (String × Nat × String × Nat)} {ns : List Cond} {Ts : List Cond} {G : rGm}
variable {l : Launch} {cc : ByteArray} {nL n0 : Nat} {own : String} {pc : Nat} {ret : Option FieldType} {ini : Bool} {fr lo : Nat} {Qf : rQf}
/-- a smaller world tells less -/
theorem rPic.less {w w' : rWd} {n : Nat} {H : Heap} (h : ∀ i x, wGet i w' = some x → wGet i w = some x) (hP : rPic cl G w n H) : rPic cl G w' n H := ⟨hP.1, hP.2.1, fun i x hx => by
  obtain ⟨g1, g2, g3, g4⟩ := hP.2.2 i x (h i x hx)
  exact ⟨g1, g2, g3, fun j y hy hj => g4 j y (h j y hy) hj⟩⟩
theorem rW.less {w w' : rWd} {o : rOut} {ls : rLs} {st : List rCV} {n c : Nat} (h : ∀ i x, wGet i w' = some x → wGet i w = some x) (hV : rW cl fo zs rs ns Ts G l cc nL own ret ini fr lo n0 Qf o pc ls st w' n c) : rW cl fo zs rs ns Ts G l cc nL own ret ini fr lo n0 Qf o pc ls st w n c := fun p e R s m args below meth c X r1 r2 r3 rl H locs hl hP hL => hV p e R s m args below meth c X r1 r2 r3 rl H locs hl (hP.less h) hL
theorem s_i2bZ (hd : decode cc pc = .ok (.i2b, 1)) : HS (rW cl fo zs rs ns Ts G l cc nL own ret ini fr lo n0 Qf) pc (pc + 1) (h_unZ (fun x => x.toInt8.toInt32)) := by
  apply s_row
  intro k0 ls st w n kk o e0
  obtain ⟨x, st', rfl, h2⟩ := rP_some e0
  obtain ⟨a, rfl, h4⟩ := rI_some h2
  exact ⟨_, h4, fun p e R s m args below meth c X rl H locs cells slots Q hl hk => lv_i2b X.1 X.2.1 hd (rOf_e _).symm hk⟩
theorem s_ishrZ (hd : decode cc pc = .ok (.ishr, 1)) : HS (rW cl fo zs rs ns Ts G l cc nL own ret ini fr lo n0 Qf) pc (pc + 1) (h_binZ (fun x y => x >>> (y &&& 31))) := by
  apply s_row
  intro k0 ls st w n kk o e0
  obtain ⟨y, st', rfl, h2⟩ := rP_some e0
  obtain ⟨x, st2, rfl, h3⟩ := rP_some h2
  obtain ⟨b, rfl, h31⟩ := rI_some h3
  obtain ⟨a, rfl, h4⟩ := rI_some h31
  refine ⟨_, h4, fun p e R s m args below meth c X rl H locs cells slots Q hl hk => lv_ishr X.1 X.2.1 hd ?_⟩
  have hk : W p l e R s m args below meth c H locs cells slots Q (F0 m (pc + 1) rl (.int (nI (rOf (nI a >>> (nI b &&& 31)))) :: st2.map (rv G))) := hk
  rw [rOf_e] at hk
  exact hk
theorem s_laddZ (hd : decode cc pc = .ok (.ladd, 1)) : HS (rW cl fo zs rs ns Ts G l cc nL own ret ini fr lo n0 Qf) pc (pc + 1) (h_lbinZ (fun x y => x + y)) := by
  apply s_row
  intro k0 ls st w n kk o e0
  obtain ⟨y, st', rfl, h2⟩ := rP_some e0
  obtain ⟨x, st2, rfl, h3⟩ := rP_some h2
  obtain ⟨b, rfl, h31⟩ := rJ_some h3
  obtain ⟨a, rfl, h4⟩ := rJ_some h31
  refine ⟨_, h4, fun p e R s m args below meth c X rl H locs cells slots Q hl hk => lv_ladd X.1 X.2.1 hd ?_⟩
  have hk : W p l e R s m args below meth c H locs cells slots Q (F0 m (pc + 1) rl (.long (lN (rOL (lN a + lN b))) :: st2.map (rv G))) := hk
  rw [rOL_e] at hk
  exact hk
theorem s_lsubZ (hd : decode cc pc = .ok (.lsub, 1)) : HS (rW cl fo zs rs ns Ts G l cc nL own ret ini fr lo n0 Qf) pc (pc + 1) (h_lbinZ (fun x y => x - y)) := by
  apply s_row
  intro k0 ls st w n kk o e0
  obtain ⟨y, st', rfl, h2⟩ := rP_some e0
  obtain ⟨x, st2, rfl, h3⟩ := rP_some h2
  obtain ⟨b, rfl, h31⟩ := rJ_some h3
  obtain ⟨a, rfl, h4⟩ := rJ_some h31
  refine ⟨_, h4, fun p e R s m args below meth c X rl H locs cells slots Q hl hk => lv_lsub X.1 X.2.1 hd ?_⟩
  have hk : W p l e R s m args below meth c H locs cells slots Q (F0 m (pc + 1) rl (.long (lN (rOL (lN a - lN b))) :: st2.map (rv G))) := hk
  rw [rOL_e] at hk
  exact hk
theorem s_landZ (hd : decode cc pc = .ok (.land, 1)) : HS (rW cl fo zs rs ns Ts G l cc nL own ret ini fr lo n0 Qf) pc (pc + 1) (h_lbinZ (fun x y => x &&& y)) := by
  apply s_row
  intro k0 ls st w n kk o e0
  obtain ⟨y, st', rfl, h2⟩ := rP_some e0
  obtain ⟨x, st2, rfl, h3⟩ := rP_some h2
  obtain ⟨b, rfl, h31⟩ := rJ_some h3
  obtain ⟨a, rfl, h4⟩ := rJ_some h31
  refine ⟨_, h4, fun p e R s m args below meth c X rl H locs cells slots Q hl hk => lv_land X.1 X.2.1 hd ?_⟩
  have hk : W p l e R s m args below meth c H locs cells slots Q (F0 m (pc + 1) rl (.long (lN (rOL (lN a &&& lN b))) :: st2.map (rv G))) := hk
  rw [rOL_e] at hk
  exact hk
theorem s_lorZ (hd : decode cc pc = .ok (.lor, 1)) : HS (rW cl fo zs rs ns Ts G l cc nL own ret ini fr lo n0 Qf) pc (pc + 1) (h_lbinZ (fun x y => x ||| y)) := by
  apply s_row
  intro k0 ls st w n kk o e0
  obtain ⟨y, st', rfl, h2⟩ := rP_some e0
  obtain ⟨x, st2, rfl, h3⟩ := rP_some h2
  obtain ⟨b, rfl, h31⟩ := rJ_some h3
  obtain ⟨a, rfl, h4⟩ := rJ_some h31
  refine ⟨_, h4, fun p e R s m args below meth c X rl H locs cells slots Q hl hk => lv_lor X.1 X.2.1 hd ?_⟩
  have hk : W p l e R s m args below meth c H locs cells slots Q (F0 m (pc + 1) rl (.long (lN (rOL (lN a ||| lN b))) :: st2.map (rv G))) := hk
  rw [rOL_e] at hk
  exact hk
theorem s_lshlZ (hd : decode cc pc = .ok (.lshl, 1)) : HS (rW cl fo zs rs ns Ts G l cc nL own ret ini fr lo n0 Qf) pc (pc + 1) (h_lshZ (fun x y => x <<< (y.toInt64 &&& 63))) := by
  apply s_row
  intro k0 ls st w n kk o e0
  obtain ⟨y, st', rfl, h2⟩ := rP_some e0
  obtain ⟨x, st2, rfl, h3⟩ := rP_some h2
  obtain ⟨b, rfl, h31⟩ := rI_some h3
  obtain ⟨a, rfl, h4⟩ := rJ_some h31
  exact ⟨_, h4, fun p e R s m args below meth c X rl H locs cells slots Q hl hk => lv_lshl X.1 X.2.1 hd (rOL_e _).symm hk⟩
theorem s_lshrZ (hd : decode cc pc = .ok (.lshr, 1)) : HS (rW cl fo zs rs ns Ts G l cc nL own ret ini fr lo n0 Qf) pc (pc + 1) (h_lshZ (fun x y => x >>> (y.toInt64 &&& 63))) := by
  apply s_row
  intro k0 ls st w n kk o e0
  obtain ⟨y, st', rfl, h2⟩ := rP_some e0
  obtain ⟨x, st2, rfl, h3⟩ := rP_some h2
  obtain ⟨b, rfl, h31⟩ := rI_some h3
  obtain ⟨a, rfl, h4⟩ := rJ_some h31
  exact ⟨_, h4, fun p e R s m args below meth c X rl H locs cells slots Q hl hk => lv_lshr X.1 X.2.1 hd (rOL_e _).symm hk⟩
theorem s_i2lZ (hd : decode cc pc = .ok (.i2l, 1)) : HS (rW cl fo zs rs ns Ts G l cc nL own ret ini fr lo n0 Qf) pc (pc + 1) h_i2lZ := by
  apply s_row
  intro k0 ls st w n kk o e0
  obtain ⟨x, st', rfl, h2⟩ := rP_some e0
  obtain ⟨a, rfl, h4⟩ := rI_some h2
  exact ⟨_, h4, fun p e R s m args below meth c X rl H locs cells slots Q hl hk => lv_i2l X.1 X.2.1 hd (rOL_e _).symm hk⟩
theorem s_l2iZ (hd : decode cc pc = .ok (.l2i, 1)) : HS (rW cl fo zs rs ns Ts G l cc nL own ret ini fr lo n0 Qf) pc (pc + 1) h_l2iZ := by
  apply s_row
  intro k0 ls st w n kk o e0
  obtain ⟨x, st', rfl, h2⟩ := rP_some e0
  obtain ⟨a, rfl, h4⟩ := rJ_some h2
  exact ⟨_, h4, fun p e R s m args below meth c X rl H locs cells slots Q hl hk => lv_l2i X.1 X.2.1 hd (rOf_e _).symm hk⟩
theorem s_lcmp (hd : decode cc pc = .ok (.lcmp, 1)) : HS (rW cl fo zs rs ns Ts G l cc nL own ret ini fr lo n0 Qf) pc (pc + 1) h_lcmp := by
  apply s_row
  intro k0 ls st w n kk o e0
  obtain ⟨y, st', rfl, h2⟩ := rP_some e0
  obtain ⟨x, st2, rfl, h3⟩ := rP_some h2
  obtain ⟨b, rfl, h31⟩ := rJ_some h3
  obtain ⟨a, rfl, h4⟩ := rJ_some h31
  refine ⟨_, h4, fun p e R s m args below meth c X rl H locs cells slots Q hl hk => W.lcmp X.1 X.2.1 hd ?_⟩
  have hk : W p l e R s m args below meth c H locs cells slots Q (F0 m (pc + 1) rl (.int (nI (rOf (lg_cmp (lN a) (lN b)))) :: st2.map (rv G))) := hk
  rw [rOf_e] at hk
  exact hk
theorem s_mminZ {ix : Nat} (w1 : Cond.methodLink own ix Lib.Math.min.name ∈ Ts) (w2 : Cond.static Lib.Math.min.name ∈ Ts) (w3 : Cond.initialized "java/lang/Math" ∈ Ts) (w4 : Cond.code Lib.Math.min.name Lib.Math.min.code 2 (some .int) ∈ Ts) (hf : 1 ≤ fr) (hlo : 21 ≤ lo) (hd : decode cc pc = .ok (.invokestatic ix, 3)) : HS (rW cl fo zs rs ns Ts G l cc nL own ret ini fr lo n0 Qf) pc (pc + 3) (h_mmZ (fun x y => if y < x then y else x)) := by
  intro k0 ls st w n kk o e0
  obtain ⟨y, st1, rfl, h1⟩ := rP_some e0
  obtain ⟨x, st2, rfl, h2⟩ := rP_some h1
  obtain ⟨hsum, h3⟩ := rB_yes h2
  obtain ⟨b, rfl, h4⟩ := rI_some h3
  obtain ⟨a, rfl, h5⟩ := rI_some h4
  refine ⟨_, _, _, _, _, h5, Nat.le_refl _, Nat.le_refl _, fun ho1 ho2 hV p e R s m args below meth c X r1 r2 r3 rl H locs hl hP hL => ?_⟩
  have hR1 := X.2.2.2.2.2.2.2.2.2.2.1
  have hR2 := X.2.2.2.2.2.2.2.2.2.2.2
  have hsm := rSum_eq G X.2.2.2.2.2.1.2.2.1 st2
  have hsum' : rSum st2 ≤ 8 := Nat.ble_eq.mp hsum
  have hV' : W p l e R s m args below meth c H locs (n - n0) kk (Qf below args s o) (F0 m (pc + 3) rl (.int (nI (rOf (if nI b < nI a then nI b else nI a))) :: st2.map (rv G))) := hV p e R s m args below meth c X r1 r2 r3 rl H locs hl hP hL
  rw [rOf_e] at hV'
  exact va_mmin (x := nI a) (y := nI b) X.1 X.2.1 (by rw [X.2.2.1]; exact hl.1.symm) X.2.2.2.1 (X.2.2.2.2.1 _ w1) (X.2.2.2.2.1 _ w2) (X.2.2.2.2.1 _ w3) (X.2.2.2.2.1 _ w4) (by rw [hR1]; exact hf) (by rw [hR2, hsm]; omega) (by omega) (by omega) hd hV'
theorem s_mmaxZ {ix : Nat} (w1 : Cond.methodLink own ix Lib.Math.max.name ∈ Ts) (w2 : Cond.static Lib.Math.max.name ∈ Ts) (w3 : Cond.initialized "java/lang/Math" ∈ Ts) (w4 : Cond.code Lib.Math.max.name Lib.Math.max.code 2 (some .int) ∈ Ts) (hf : 1 ≤ fr) (hlo : 21 ≤ lo) (hd : decode cc pc = .ok (.invokestatic ix, 3)) : HS (rW cl fo zs rs ns Ts G l cc nL own ret ini fr lo n0 Qf) pc (pc + 3) (h_mmZ (fun x y => if x < y then y else x)) := by
  intro k0 ls st w n kk o e0
  obtain ⟨y, st1, rfl, h1⟩ := rP_some e0
  obtain ⟨x, st2, rfl, h2⟩ := rP_some h1
  obtain ⟨hsum, h3⟩ := rB_yes h2
  obtain ⟨b, rfl, h4⟩ := rI_some h3
  obtain ⟨a, rfl, h5⟩ := rI_some h4
  refine ⟨_, _, _, _, _, h5, Nat.le_refl _, Nat.le_refl _, fun ho1 ho2 hV p e R s m args below meth c X r1 r2 r3 rl H locs hl hP hL => ?_⟩
  have hR1 := X.2.2.2.2.2.2.2.2.2.2.1
  have hR2 := X.2.2.2.2.2.2.2.2.2.2.2
  have hsm := rSum_eq G X.2.2.2.2.2.1.2.2.1 st2
  have hsum' : rSum st2 ≤ 8 := Nat.ble_eq.mp hsum
  have hV' : W p l e R s m args below meth c H locs (n - n0) kk (Qf below args s o) (F0 m (pc + 3) rl (.int (nI (rOf (if nI a < nI b then nI b else nI a))) :: st2.map (rv G))) := hV p e R s m args below meth c X r1 r2 r3 rl H locs hl hP hL
  rw [rOf_e] at hV'
  exact va_mmax (x := nI a) (y := nI b) X.1 X.2.1 (by rw [X.2.2.1]; exact hl.1.symm) X.2.2.2.1 (X.2.2.2.2.1 _ w1) (X.2.2.2.2.1 _ w2) (X.2.2.2.2.1 _ w3) (X.2.2.2.2.1 _ w4) (by rw [hR1]; exact hf) (by rw [hR2, hsm]; omega) (by omega) (by omega) hd hV'
theorem rG_mono {o : rOut} {f g : rCC → Option rOut} (hfg : ∀ cell, f cell = some o → g cell = some o) : ∀ (fo : List rCC) (p : Nat), rG fo p f = some o → rG fo p g = some o
  | [], p, h => by cases h
  | z :: fo, 0, h => hfg z h
  | z :: fo, p + 1, h => rG_mono hfg fo p h
theorem aldC_le {ok : Nat → rCV → Bool} {k : rK} {ls : rLs} {st : List rCV} {w : rWd} {n c : Nat} {o : rOut} (e0 : h_aldC fo ok k ls st w n c = some o) : h_ald fo ok k ls st w n c = some o := by
  obtain ⟨y, st1, rfl, h1⟩ := rP_some e0
  obtain ⟨x, st2, rfl, h2⟩ := rP_some h1
  obtain ⟨i, rfl, h3⟩ := rI_some h2
  obtain ⟨r, rfl, h4⟩ := rR_some h3
  have fin : ∀ cell : rCC, rCA cell (fun t' N d m => List.rec (motive := fun _ => Option rOut) (rB (Nat.blt i N) (rB (ok t' d) (k ls (d :: st2) w n c) none) none) (fun _ _ _ => none) m) = some o → rCA cell (fun t' N d m => rB (Nat.blt i N) (rV (rL d m i) (fun v => rB (ok t' v) (k ls (v :: st2) w n c) none)) none) = some o := by
    intro cell hc
    obtain ⟨t, N, d, m, rfl, h5⟩ := rCA_some hc
    cases m with
    | cons q m => cases h5
    | nil =>
      show rB (Nat.blt i N) (rV (rL d [] i) (fun v => rB (ok t v) (k ls (v :: st2) w n c) none)) none = some o
      rw [rV_eq, rL_eq]
      exact h5
  show rOF fo w r (fun cell => rCA cell (fun t' N d m => rB (Nat.blt i N) (rV (rL d m i) (fun v => rB (ok t' v) (k ls (v :: st2) w n c) none)) none)) = some o
  have h4 : rOF fo w r (fun cell => rCA cell (fun t' N d m => List.rec (motive := fun _ => Option rOut) (rB (Nat.blt i N) (rB (ok t' d) (k ls (d :: st2) w n c) none) none) (fun _ _ _ => none) m)) = some o := h4
  have key : ∀ (f g : rCC → Option rOut), (∀ cell, f cell = some o → g cell = some o) → rOF fo w r f = some o → rOF fo w r g = some o := by
    intro f g hfg hf
    have hf : rB (Nat.beq (Nat.mod r 2) 1) (rO w r (fun _ x => f x)) (rB (Nat.beq r 0) none (rN (Nat.pred (Nat.div r 2)) (fun p => rG fo p f))) = some o := hf
    show rB (Nat.beq (Nat.mod r 2) 1) (rO w r (fun _ x => g x)) (rB (Nat.beq r 0) none (rN (Nat.pred (Nat.div r 2)) (fun p => rG fo p g))) = some o
    cases e1 : Nat.beq (Nat.mod r 2) 1
    · rw [e1] at hf
      have hf : rB (Nat.beq r 0) none (rN (Nat.pred (Nat.div r 2)) (fun p => rG fo p f)) = some o := hf
      show rB (Nat.beq r 0) none (rN (Nat.pred (Nat.div r 2)) (fun p => rG fo p g)) = some o
      cases e2 : Nat.beq r 0
      · rw [e2] at hf
        have hf : rN (Nat.pred (Nat.div r 2)) (fun p => rG fo p f) = some o := hf
        show rN (Nat.pred (Nat.div r 2)) (fun p => rG fo p g) = some o
        rw [rN_eq] at hf ⊢
        exact rG_mono hfg fo _ hf
      · rw [e2] at hf; cases hf
    · rw [e1] at hf
      have hf : rO w r (fun _ x => f x) = some o := hf
      show rO w r (fun _ x => g x) = some o
      obtain ⟨-, x, q1, q2⟩ := rO_some hf
      have hq : rB (Nat.beq (Nat.mod r 2) 1) (rN (Nat.div r 2) (fun p => rWG w p (fun x => g x))) none = some o := by
        rw [e1]
        show rN (Nat.div r 2) (fun p => rWG w p (fun x => g x)) = some o
        rw [rN_eq]
        have : ∀ w : rWd, wGet (r / 2) w = some x → rWG w (Nat.div r 2) (fun x => g x) = g x := by
          intro w
          induction w with
          | nil => intro h; cases h
          | cons q w ih =>
            obtain ⟨a, y⟩ := q
            intro h
            have h : (if a = r / 2 then some y else wGet (r / 2) w) = some x := h
            show rB (Nat.beq a (r / 2)) (g y) (rWG w (Nat.div r 2) (fun x => g x)) = g x
            by_cases e3 : a = r / 2
            · rw [if_pos e3] at h
              cases h
              rw [beq_t e3]; rfl
            · rw [if_neg e3] at h
              rw [beq_f e3]
              exact ih h
        rw [this w q1]
        exact hfg _ q2
      exact hq
  exact key _ _ fin h4
theorem s_getN {C ref host : String} {T : u_T} {N ci index : Nat} (j : Nat) (hin : ∀ w ∈ u_ws C T N, w ∈ Ts) (hc : cl[ci]? = some (C, T, N)) (hj : j < N) (hlink : Cond.fieldLinkNest own index ref (T j).2.1 (T j).2.2.1 host ∈ ns) (hsame : ref = (T j).1) (hd : decode cc pc = .ok (.getfield index, 3)) : HS (rW cl fo zs rs ns Ts G l cc nL own ret ini fr lo n0 Qf) pc (pc + 3) (h_getO ci j) := by
  apply s_rowH
  intro k0 ls st w n kk o e0
  obtain ⟨x, st', rfl, h2⟩ := rP_some e0
  obtain ⟨r, rfl, h3⟩ := rR_some h2
  obtain ⟨a, cell, f, h⟩ := rO_some h3
  obtain ⟨ci', fs, rfl, h5⟩ := rCO_some h
  obtain ⟨h4, h6⟩ := rB_yes h5
  have e9 : ci' = ci := Nat.eq_of_beq_eq_true h4
  subst e9
  obtain ⟨v, h7, h8⟩ := rG_some _ _ h6
  refine ⟨_, h8, fun p e R s m args below meth c X rl H locs cells slots Q hP hk => ?_⟩
  rw [List.map_cons, rv_own G a]
  have hc1 := pic_obj hP f hc
  have hP1 : va_P G.1 cl [(G.2.2.1 + r / 2, .inr (ci', fs.map (rv G)))] H := fun k9 q9 h9 => by
    have h0 : k9 < 1 := (List.getElem?_eq_some_iff.mp h9).1
    rw [show k9 = 0 by omega] at h9
    cases h9
    exact hc1
  exact va_getN (D := G.1) (ci := ci') (v := rv G v) (C := C) (T := T) (N := N) X.1 X.2.1 X.2.2.2.2.1 hin X.2.2.2.1 X.2.2.2.2.2.1.1 hP1 0 rfl hc j hj (va_Nw.use rfl (X.2.2.2.2.2.1.2.1.2 _ hlink).1) (fun _ h9 => by rw [hsame]; exact h9) (by rw [List.getElem?_map, h7]; rfl) hd hk
theorem s_laloadC (hd : decode cc pc = .ok (.laload, 1)) : HS (rW cl fo zs rs ns Ts G l cc nL own ret ini fr lo n0 Qf) pc (pc + 1) (h_aldC fo okJ) := (s_laload hd).mono fun _ _ _ _ _ _ _ h => aldC_le h
theorem s_ialoadC (hd : decode cc pc = .ok (.iaload, 1)) : HS (rW cl fo zs rs ns Ts G l cc nL own ret ini fr lo n0 Qf) pc (pc + 1) (h_aldC fo okI) := (s_iaload hd).mono fun _ _ _ _ _ _ _ h => aldC_le h
theorem s_bastoreZ (hd : decode cc pc = .ok (.bastore, 1)) : HS (rW cl fo zs rs ns Ts G l cc nL own ret ini fr lo n0 Qf) pc (pc + 1) h_astZ := by
  intro k0 ls st w n kk o e0
  obtain ⟨v, st0, rfl, h0⟩ := rP_some e0
  obtain ⟨y, st1, rfl, h1⟩ := rP_some h0
  obtain ⟨x, st2, rfl, h2⟩ := rP_some h1
  obtain ⟨a, rfl, h21⟩ := rI_some h2
  obtain ⟨i, rfl, h3⟩ := rI_some h21
  obtain ⟨r, rfl, h31⟩ := rR_some h3
  obtain ⟨q1, cell, hp, h⟩ := rO_some h31
  obtain ⟨t, N, d, mm, rfl, h5⟩ := rCA_some h
  obtain ⟨h7, h8⟩ := rB_yes h5
  obtain ⟨h6, h9⟩ := rB_yes h8
  have h6 : i < N := Nat.blt_eq.mp h6
  have ht : t = 2 := Nat.eq_of_beq_eq_true h7
  subst ht
  rw [rN_eq, rU_eq] at h9
  have h11 := rWS_some _ _ h9
  refine ⟨ls, st2, _, n, kk, h11, Nat.le_refl _, Nat.le_refl _, fun _ _ hV p e R s m args below meth c X r1 r2 r3 rl H locs hl hP hL => ?_⟩
  obtain ⟨c1, c2, c3⟩ := pic_cell hP hp
  rw [List.map_cons, List.map_cons, List.map_cons, rv_own G q1]
  refine W.bast X.1 X.2.1 c3 (X.2.2.2.2.2.1.arr (t := 2) (by decide) N _) (fun q => by cases q) (ix_in h6 c2 (by rw [arrV_size]; exact Nat.le_refl _)) rfl rfl hd (fun H1 e1 z1 o1 => ?_)
  refine hV p e R s m args below meth c X r1 r2 r3 rl H1 _ hl (pic_set hP hp rfl ⟨by decide, c2, ?_⟩ z1 o1) (locs_put hL)
  have ha : narrow .byte (.int (nI a)) = .int (nI (rOf (nI a).toInt8.toInt32)) := by rw [rOf_e]; rfl
  rw [e1, ha, arrV_store, nI_clamp (by omega)]
  exact congrArg some (arr_up (v := .inl (rOf (nI a).toInt8.toInt32)) _)
theorem s_lastoreF (hd : decode cc pc = .ok (.lastore, 1)) : HS (rW cl fo zs rs ns Ts G l cc nL own ret ini fr lo n0 Qf) pc (pc + 1) h_lastF := by
  intro k0 ls st w n kk o e0
  obtain ⟨v, st0, rfl, h0⟩ := rP_some e0
  obtain ⟨y, st1, rfl, h1⟩ := rP_some h0
  obtain ⟨x, st2, rfl, h2⟩ := rP_some h1
  obtain ⟨hv, h21⟩ := rB_yes h2
  obtain ⟨i, rfl, h3⟩ := rI_some h21
  obtain ⟨r, rfl, h31⟩ := rR_some h3
  obtain ⟨q1, cell, hp, h⟩ := rO_some h31
  obtain ⟨t, N, d, mm, rfl, h5⟩ := rCA_some h
  obtain ⟨h7, h8⟩ := rB_yes h5
  obtain ⟨h6, h9⟩ := rB_yes h8
  have h6 : i < N := Nat.blt_eq.mp h6
  have ht : t = 1 := Nat.eq_of_beq_eq_true h7
  subst ht
  obtain ⟨a, rfl⟩ := isJ_e hv
  rw [rWD_eq] at h9
  refine ⟨ls, st2, _, n, kk, h9, Nat.le_refl _, Nat.le_refl _, fun _ _ hV p e R s m args below meth c X r1 r2 r3 rl H locs hl hP hL => ?_⟩
  obtain ⟨c1, c2, c3⟩ := pic_cell hP hp
  rw [List.map_cons, List.map_cons, List.map_cons, rv_own G q1]
  refine W.last X.1 X.2.1 c3 (X.2.2.2.2.2.1.arr (t := 1) (by decide) N _) (fun q => by cases q) (ix_in h6 c2 (by rw [arrV_size]; exact Nat.le_refl _)) rfl rfl hd (fun H1 e1 z1 o1 => ?_)
  have hP1 := pic_set (x := .inr (1, N, d, rUP (i / 64) i (.inr (.inl a)) mm)) hP hp rfl ⟨by decide, c2, by
    rw [e1, arrV_store, nI_clamp (by omega)]
    exact congrArg some (arr_up (v := .inr (.inl a)) _)⟩ z1 o1
  exact hV p e R s m args below meth c X r1 r2 r3 rl H1 _ hl (hP1.less (fun j y hy => by rw [← wDel_set (i := r / 2) w] at hy; exact wDel_get _ hy)) (locs_put hL)
end RZ
