section
/-! A RUNNER OF BYTECODE OVER LISTS, for the kernel to compute with. A value: an int (its 32 bits), a long (its 64 bits), null or a reference (0 is null, 2k+1 the k-th cell made since the base, 2i+2 the i-th thing that is there from the start). A cell: an object (its class's number, its fields), an array (type, length, what the rest holds, what single places hold, latest first). The world: its cells, the newest first. -/
abbrev rCV : Type := Nat ⊕ (Nat ⊕ Nat)
abbrev rMp : Type := List (Nat × List (Nat × rCV))
abbrev rAr : Type := Nat × (Nat × (rCV × rMp))
abbrev rCC : Type := (Nat × List rCV) ⊕ rAr
abbrev rLs : Type := List (Nat × rCV)
abbrev rWd : Type := List rCC
abbrev rOut : Type := Option rCV × (rWd × (Nat × Nat))
abbrev rK : Type := rLs → List rCV → rWd → Nat → Nat → Option rOut
abbrev rBl : Type := (Nat → rK) → rK
abbrev rEv : Type := List rCV → rWd → Nat → Option rOut
/-- a number, computed before it is handed on -/
noncomputable def rN {α : Type} (n : Nat) (k : Nat → α) : α := Nat.rec (k 0) (fun m _ => k (Nat.succ m)) n
noncomputable def rB {α : Type} (b : Bool) (x y : α) : α := Bool.rec y x b
noncomputable def rG {α β : Type} (l : List α) (i : Nat) (k : α → Option β) : Option β := List.rec (motive := fun _ => Nat → Option β) (fun _ => none) (fun x _ ih i => Nat.rec (k x) (fun j _ => ih j) i) l i
noncomputable def rS {α β : Type} (l : List α) (i : Nat) (v : α) (k : List α → Option β) : Option β := List.rec (motive := fun _ => Nat → (List α → Option β) → Option β) (fun _ _ => none) (fun x xs ih i k => Nat.rec (k (v :: xs)) (fun j _ => ih j (fun ys => k (x :: ys))) i) l i k
noncomputable def rA {β : Type} (l : rLs) (i : Nat) (k : rCV → Option β) : Option β := List.rec (motive := fun _ => Option β) none (fun x _ ih => Prod.rec (fun a v => rB (Nat.beq a i) (k v) ih) x) l
noncomputable def rF {β : Type} (p : Nat × rCV → Bool) (l : rLs) (k : rLs → Option β) : Option β := List.rec (motive := fun _ => (rLs → Option β) → Option β) (fun k => k []) (fun x _ ih k => rB (p x) (ih (fun ys => k (x :: ys))) (ih k)) l k
noncomputable def rLi (d : rCV) (m : List (Nat × rCV)) (i : Nat) : rCV := List.rec (motive := fun _ => rCV) d (fun x _ ih => Prod.rec (fun a v => rB (Nat.beq a i) v ih) x) m
/-- what place i holds -/
noncomputable def rL (d : rCV) (m : rMp) (i : Nat) : rCV := rN (Nat.div i 64) (fun q => List.rec (motive := fun _ => rCV) d (fun x _ ih => Prod.rec (fun a l => rB (Nat.beq a q) (rLi d l i) ih) x) m)
/-- place i, of block q, holds v now -/
noncomputable def rU {β : Type} (m : rMp) (q i : Nat) (v : rCV) (k : rMp → Option β) : Option β := List.rec (motive := fun _ => (rMp → Option β) → Option β) (fun k => k [(q, [(i, v)])]) (fun x xs ih k => Prod.rec (fun a l => rB (Nat.beq a q) (k ((a, (i, v) :: l) :: xs)) (ih (fun ys => k ((a, l) :: ys)))) x) m k
noncomputable def rI {β : Type} (v : rCV) (k : Nat → Option β) : Option β := Sum.rec (fun a => k a) (fun _ => none) v
noncomputable def rJ {β : Type} (v : rCV) (k : Nat → Option β) : Option β := Sum.rec (fun _ => none) (fun x => Sum.rec (fun a => k a) (fun _ => none) x) v
noncomputable def rR {β : Type} (v : rCV) (k : Nat → Option β) : Option β := Sum.rec (fun _ => none) (fun x => Sum.rec (fun _ => none) (fun a => k a) x) v
/-- a value, computed before it is handed on -/
noncomputable def rV {β : Type} (v : rCV) (k : rCV → Option β) : Option β := Sum.rec (fun a => k (.inl a)) (fun x => Sum.rec (fun a => k (.inr (.inl a))) (fun a => k (.inr (.inr a))) x) v
noncomputable def rP {β : Type} (st : List rCV) (k : rCV → List rCV → Option β) : Option β := List.rec (motive := fun _ => Option β) none (fun v st _ => k v st) st
noncomputable def rLong (v : rCV) : Bool := Sum.rec (fun _ => false) (fun x => Sum.rec (fun _ => true) (fun _ => false) x) v
noncomputable def rCat (v : rCV) : Nat := rB (rLong v) 2 1
noncomputable def rSum (st : List rCV) : Nat := List.rec (motive := fun _ => Nat) 0 (fun v _ ih => Nat.add (rCat v) ih) st
noncomputable def rKeep1 (i : Nat) (q : Nat × rCV) : Bool := rB (Nat.beq q.1 i) false (rB (Nat.beq (Nat.succ q.1) i) (rB (rLong q.2) false true) true)
noncomputable def rKeep2 (i : Nat) (q : Nat × rCV) : Bool := rB (Nat.beq q.1 i) false (rB (Nat.beq q.1 (Nat.succ i)) false (rB (Nat.beq (Nat.succ q.1) i) (rB (rLong q.2) false true) true))
def rM : Nat := 4294967296
def rH : Nat := 2147483648
def rML : Nat := 18446744073709551616
def rHL : Nat := 9223372036854775808
-- arithmetic of the bits
noncomputable def rSg (a : Nat) : Nat := Nat.mod (Nat.add a 2147483648) 4294967296
noncomputable def rSgL (a : Nat) : Nat := Nat.mod (Nat.add a 9223372036854775808) 18446744073709551616
noncomputable def rAdd (a b : Nat) : Nat := Nat.mod (Nat.add a b) 4294967296
noncomputable def rNeg (a : Nat) : Nat := Nat.mod (Nat.sub 4294967296 (Nat.mod a 4294967296)) 4294967296
noncomputable def rSub (a b : Nat) : Nat := rAdd a (rNeg b)
noncomputable def rMul (a b : Nat) : Nat := Nat.mod (Nat.mul a b) 4294967296
noncomputable def rShl (a b : Nat) : Nat := Nat.mod (Nat.mul a (Nat.pow 2 (Nat.mod b 32))) 4294967296
/-- >> of a number that is not negative -/
noncomputable def rShr (a b : Nat) : Nat := Nat.div a (Nat.pow 2 (Nat.mod b 32))
noncomputable def rIsN (a : Nat) : Bool := Nat.ble 2147483648 a
-- instructions
noncomputable def h_ld (i : Nat) (k : rK) : rK := fun ls st w n c => rA ls i (fun v => k ls (v :: st) w n c)
noncomputable def h_st (i : Nat) (k : rK) : rK := fun ls st w n c => rP st (fun v st => rB (rLong v) none (rF (rKeep1 i) ls (fun l => k ((i, v) :: l) st w n c)))
noncomputable def h_st2 (i : Nat) (k : rK) : rK := fun ls st w n c => rP st (fun v st => rB (rLong v) (rF (rKeep2 i) ls (fun l => k ((i, v) :: l) st w n c)) none)
noncomputable def h_inc (i d : Nat) (k : rK) : rK := fun ls st w n c => rA ls i (fun v => rI v (fun a => rN (rAdd a d) (fun z => rF (rKeep1 i) ls (fun l => k ((i, .inl z) :: l) st w n c))))
noncomputable def h_v (v : rCV) (k : rK) : rK := fun ls st w n c => k ls (v :: st) w n c
noncomputable def h_dup (k : rK) : rK := fun ls st w n c => rP st (fun v st => rB (rLong v) none (k ls (v :: v :: st) w n c))
noncomputable def h_dupx1 (k : rK) : rK := fun ls st w n c => rP st (fun a st => rP st (fun b st => rB (rLong a) none (rB (rLong b) none (k ls (a :: b :: a :: st) w n c))))
noncomputable def h_pop (k : rK) : rK := fun ls st w n c => rP st (fun v st => rB (rLong v) none (k ls st w n c))
noncomputable def h_bin (ok : Nat → Nat → Bool) (f : Nat → Nat → Nat) (k : rK) : rK := fun ls st w n c => rP st (fun y st => rP st (fun x st => rI y (fun b => rI x (fun a => rB (ok a b) (rN (f a b) (fun z => k ls (.inl z :: st) w n c)) none))))
noncomputable def h_un (ok : Nat → Bool) (f : Nat → Nat) (k : rK) : rK := fun ls st w n c => rP st (fun x st => rI x (fun a => rB (ok a) (rN (f a) (fun z => k ls (.inl z :: st) w n c)) none))
noncomputable def h_i2l (k : rK) : rK := fun ls st w n c => rP st (fun x st => rI x (fun a => rB (Nat.ble 2147483648 a) none (k ls (.inr (.inl a) :: st) w n c)))
noncomputable def h_lbin (f : Nat → Nat → Nat) (k : rK) : rK := fun ls st w n c => rP st (fun y st => rP st (fun x st => rJ y (fun b => rJ x (fun a => rN (f a b) (fun z => k ls (.inr (.inl z) :: st) w n c)))))
noncomputable def h_lsh (f : Nat → Nat → Nat) (k : rK) : rK := fun ls st w n c => rP st (fun y st => rP st (fun x st => rI y (fun b => rJ x (fun a => rN (f a b) (fun z => k ls (.inr (.inl z) :: st) w n c)))))
/-- the cell of a reference that was made since the base -/
noncomputable def rO {β : Type} (w : rWd) (n r : Nat) (k : Nat → rCC → Option β) : Option β := rB (Nat.beq (Nat.mod r 2) 1) (rN (Nat.sub n (Nat.succ (Nat.div r 2))) (fun p => rB (Nat.blt (Nat.div r 2) n) (rG w p (fun x => k p x)) none)) none
/-- .. or of one that was there from the start -/
noncomputable def rOF {β : Type} (fo : List rCC) (w : rWd) (n r : Nat) (k : rCC → Option β) : Option β := rB (Nat.beq (Nat.mod r 2) 1) (rO w n r (fun _ x => k x)) (rB (Nat.beq r 0) none (rN (Nat.pred (Nat.div r 2)) (fun p => rG fo p k)))
noncomputable def rCO {β : Type} (x : rCC) (k : Nat → List rCV → Option β) : Option β := Sum.rec (fun o => Prod.rec (fun a b => k a b) o) (fun _ => none) x
noncomputable def rCA {β : Type} (x : rCC) (k : Nat → Nat → rCV → rMp → Option β) : Option β := Sum.rec (fun _ => none) (fun o => Prod.rec (fun t o => Prod.rec (fun n o => Prod.rec (fun d m => k t n d m) o) o) o) x
noncomputable def h_get (fo : List rCC) (ci j : Nat) (k : rK) : rK := fun ls st w n c => rP st (fun x st => rR x (fun r => rOF fo w n r (fun cell => rCO cell (fun ci' fs => rB (Nat.beq ci' ci) (rG fs j (fun v => k ls (v :: st) w n c)) none))))
noncomputable def h_put (ci j : Nat) (ok : rCV → Bool) (k : rK) : rK := fun ls st w n c => rP st (fun v st => rP st (fun x st => rB (ok v) (rR x (fun r => rO w n r (fun p cell => rCO cell (fun ci' fs => rB (Nat.beq ci' ci) (rS fs j v (fun fs => rS w p (.inl (ci, fs)) (fun w => k ls st w n c))) none)))) none))
noncomputable def h_alen (fo : List rCC) (k : rK) : rK := fun ls st w n c => rP st (fun x st => rR x (fun r => rOF fo w n r (fun cell => rCA cell (fun _ N _ _ => k ls (.inl N :: st) w n c))))
/-- an element of an array of type t -/
noncomputable def h_ald (fo : List rCC) (ok : Nat → Bool) (k : rK) : rK := fun ls st w n c => rP st (fun y st => rP st (fun x st => rI y (fun i => rR x (fun r => rOF fo w n r (fun cell => rCA cell (fun t' N d m => rB (ok t') (rB (Nat.blt i N) (rV (rL d m i) (fun v => k ls (v :: st) w n c)) none) none))))))
noncomputable def h_ast (ok : Nat → rCV → Bool) (k : rK) : rK := fun ls st w n c => rP st (fun v st => rP st (fun y st => rP st (fun x st => rI y (fun i => rR x (fun r => rO w n r (fun p cell => rCA cell (fun t' N d m => rB (ok t' v) (rB (Nat.blt i N) (rN (Nat.div i 64) (fun q => rU m q i v (fun m => rS w p (.inr (t', N, d, m)) (fun w => k ls st w n c)))) none) none)))))))
noncomputable def h_new (ci nf : Nat) (fs : List rCV) (k : rK) : rK := fun ls st w n c => rN (Nat.add c nf) (fun c => rN (Nat.succ (Nat.mul 2 n)) (fun r => rN (Nat.succ n) (fun n => k ls (.inr (.inr r) :: st) (.inl (ci, fs) :: w) n c)))
noncomputable def h_newa (t : Nat) (d : rCV) (k : rK) : rK := fun ls st w n c => rP st (fun x st => rI x (fun N => rB (Nat.ble N 60000000) (rN (Nat.add c N) (fun c => rN (Nat.succ (Nat.mul 2 n)) (fun r => rN (Nat.succ n) (fun n => k ls (.inr (.inr r) :: st) (.inr (t, N, d, []) :: w) n c)))) none))
noncomputable def rArg {β : Type} (m : Nat) (st : List rCV) (k : List rCV → List rCV → Option β) : Option β := Nat.rec (motive := fun _ => List rCV → List rCV → Option β) (fun as st => k as st) (fun _ ih as st => rP st (fun v st => ih (v :: as) st)) m [] st
noncomputable def rRes {β : Type} (o : Option rOut) (k : Option rCV → rWd → Nat → Nat → Option β) : Option β := Option.rec none (fun o => Prod.rec (fun v o => Prod.rec (fun w o => Prod.rec (fun n c => k v w n c) o) o) o) o
/-- a call: m words of arguments, the receiver among them -/
noncomputable def h_call (m : Nat) (ok : List rCV → rWd → Nat → Bool) (F : rEv) (k : rK) : rK := fun ls st w n c => rArg m st (fun as st => rB (Nat.ble (rSum st) 8) (rB (ok as w n) (rRes (F as w n) (fun v w n ms => rN (Nat.add c ms) (fun c => Option.rec (k ls st w n c) (fun v => k ls (v :: st) w n c) v))) none) none)
-- ends of a block
noncomputable def t_go (b : Nat) : rBl := fun J => J b
noncomputable def t_icmp (f : Nat → Nat → Bool) (b1 b2 : Nat) : rBl := fun J ls st w n c => rP st (fun y st => rP st (fun x st => rI y (fun b => rI x (fun a => rB (f a b) (J b1 ls st w n c) (J b2 ls st w n c)))))
noncomputable def t_if (f : Nat → Bool) (b1 b2 : Nat) : rBl := fun J ls st w n c => rP st (fun x st => rI x (fun a => rB (f a) (J b1 ls st w n c) (J b2 ls st w n c)))
noncomputable def t_nul (b1 b2 : Nat) : rBl := fun J ls st w n c => rP st (fun x st => rR x (fun r => rB (Nat.beq r 0) (J b1 ls st w n c) (J b2 ls st w n c)))
noncomputable def t_ret : rBl := fun _ _ _ w n c => some (none, w, n, c)
noncomputable def t_retv (ok : rCV → Bool) : rBl := fun _ _ st w n c => rP st (fun v st => rB (ok v) (List.rec (some (some v, w, n, c)) (fun _ _ _ => none) st) none)
noncomputable def sq (h : rK → rK) (t : rBl) : rBl := fun J => h (t J)
noncomputable def rRun (bs : List rBl) (fuel : Nat) : Nat → rK := Nat.rec (motive := fun _ => Nat → rK) (fun _ _ _ _ _ _ => none) (fun _ ih b ls st w n c => rG bs b (fun t => t ih ls st w n c)) fuel
noncomputable def rEq (a b : Nat) : Bool := Nat.beq (Nat.mod a 4294967296) (Nat.mod b 4294967296)
noncomputable def rNot (b : Bool) : Bool := rB b false true
noncomputable def rLt (a b : Nat) : Bool := Nat.blt (rSg a) (rSg b)
noncomputable def rLe (a b : Nat) : Bool := Nat.ble (rSg a) (rSg b)
noncomputable def isI (v : rCV) : Bool := Sum.rec (fun _ => true) (fun _ => false) v
noncomputable def isJ (v : rCV) : Bool := rLong v
noncomputable def isR (v : rCV) : Bool := Sum.rec (fun _ => false) (fun x => Sum.rec (fun _ => false) (fun _ => true) x) v
noncomputable def isZ (v : rCV) : Bool := Sum.rec (fun a => Nat.ble a 1) (fun _ => false) v
noncomputable def isB (v : rCV) : Bool := Sum.rec (fun a => rB (Nat.ble a 127) true (rB (Nat.ble 4294967168 a) (Nat.blt a 4294967296) false)) (fun _ => false) v
noncomputable def isC (v : rCV) : Bool := Sum.rec (fun a => Nat.ble a 65535) (fun _ => false) v
noncomputable def isT0 (t : Nat) : Bool := Nat.beq t 0
noncomputable def isT1 (t : Nat) : Bool := Nat.beq t 1
noncomputable def isT23 (t : Nat) : Bool := rB (Nat.beq t 2) true (Nat.beq t 3)
noncomputable def isTr (t : Nat) : Bool := Nat.ble 5 t
noncomputable def okI (t : Nat) (v : rCV) : Bool := rB (Nat.beq t 0) (isI v) false
noncomputable def okJ (t : Nat) (v : rCV) : Bool := rB (Nat.beq t 1) (isJ v) false
noncomputable def okB (t : Nat) (v : rCV) : Bool := rB (Nat.beq t 2) (isB v) (rB (Nat.beq t 3) (isZ v) false)
noncomputable def okA (t : Nat) (v : rCV) : Bool := rB (Nat.beq t 5) (isR v) false
noncomputable def rDok (a b : Nat) : Bool := rB (Nat.beq b 0) false (rB (Nat.blt a 2147483648) (Nat.blt b 2147483648) false)
noncomputable def rShlL (a b : Nat) : Nat := Nat.mod (Nat.mul a (Nat.pow 2 (Nat.mod b 64))) 18446744073709551616
/-- the arguments in their places -/
noncomputable def rIni {β : Type} (ps : List Nat) (as : List rCV) (k : rLs → Option β) : Option β := List.rec (motive := fun _ => List Nat → (rLs → Option β) → Option β) (fun ps k => List.rec (k []) (fun _ _ _ => none) ps) (fun v _ ih ps k => List.rec none (fun p ps _ => ih ps (fun l => k ((p, v) :: l))) ps) as ps k
noncomputable def h_oinit (k : rK) : rK := fun ls st w n c => rP st (fun x st => rR x (fun r => rB (Nat.beq (Nat.mod r 2) 1) (k ls st w n c) none))
/-- the values of m's places from sp on, n of them, laid into m' from dp on -/
noncomputable def rCp {β : Type} (N sp dp : Nat) (d : rCV) (m m' : rMp) (k : rMp → Option β) : Option β := Nat.rec (motive := fun _ => rMp → Option β) k (fun j ih m' => rN (Nat.add dp j) (fun i => rN (Nat.div i 64) (fun q => rV (rL d m (Nat.add sp j)) (fun v => rU m' q i v ih)))) N m'
noncomputable def h_acopy (fo : List rCC) (k : rK) : rK := fun ls st w n c => rP st (fun x5 st => rP st (fun x4 st => rP st (fun x3 st => rP st (fun x2 st => rP st (fun x1 st => rI x5 (fun N => rI x4 (fun dp => rI x2 (fun sp => rR x3 (fun r3 => rR x1 (fun r1 => rOF fo w n r1 (fun c1 => rCA c1 (fun t1 N1 d1 m1 => rO w n r3 (fun p c3 => rCA c3 (fun t3 N3 d3 m3 => rB (Nat.beq t1 t3) (rB (Nat.ble t1 4) (rB (Nat.ble (Nat.add sp N) N1) (rB (Nat.ble (Nat.add dp N) N3) (rCp N sp dp d1 m1 m3 (fun m => rS w p (.inr (t3, N3, d3, m)) (fun w => k ls st w n c))) none) none) none) none))))))))))))))
/-- java.util.Arrays.fill(int[], int) -/
noncomputable def ev_J7_fill_53178 : rEv := fun as w n => rP as (fun x as => rP as (fun v _ => rI v (fun a => rR x (fun r => rO w n r (fun p cell => rCA cell (fun t N _ _ => rB (Nat.beq t 0) (rS w p (.inr (0, N, .inl a, [])) (fun w => some (none, w, n, 0))) none))))))
end
section
noncomputable def rFo : List rCC := [.inr (0, 54, .inl 0, [(0, [(0, .inl 0), (1, .inl 1), (2, .inl 1), (3, .inl 0), (4, .inl 0), (5, .inl 4294967295), (6, .inl 0), (7, .inl 2), (8, .inl 1), (9, .inl 0), (10, .inl 1), (11, .inl 4294967295), (12, .inl 0), (13, .inl 1), (14, .inl 2), (15, .inl 0), (16, .inl 2), (17, .inl 4294967295), (18, .inl 0), (19, .inl 2), (20, .inl 2), (21, .inl 0), (22, .inl 3), (23, .inl 4294967295), (24, .inl 0), (25, .inl 1), (26, .inl 3), (27, .inl 1), (28, .inl 4), (29, .inl 4294967295), (30, .inl 0), (31, .inl 2), (32, .inl 3), (33, .inl 4), (34, .inl 5), (35, .inl 4294967295), (36, .inl 0), (37, .inl 1), (38, .inl 4), (39, .inl 1), (40, .inl 128), (41, .inl 0), (42, .inl 0), (43, .inl 2), (44, .inl 4), (45, .inl 4), (46, .inl 129), (47, .inl 0), (48, .inl 0), (49, .inl 2), (50, .inl 4), (51, .inl 1), (52, .inl 131), (53, .inl 0)])]),
  .inr (0, 666, .inl 0, [(0, [(0, .inl 8), (1, .inl 1), (2, .inl 1), (3, .inl 0), (4, .inl 136), (5, .inl 4294967295), (6, .inl 8), (7, .inl 2), (8, .inl 1), (9, .inl 0), (10, .inl 137), (11, .inl 4294967295), (12, .inl 8), (13, .inl 1), (14, .inl 2), (15, .inl 0), (16, .inl 138), (17, .inl 4294967295), (18, .inl 8), (19, .inl 2), (20, .inl 2), (21, .inl 0), (22, .inl 139), (23, .inl 4294967295), (24, .inl 8), (25, .inl 1), (26, .inl 4), (27, .inl 1), (28, .inl 198), (29, .inl 0), (30, .inl 8), (31, .inl 2), (32, .inl 4), (33, .inl 4), (34, .inl 199), (35, .inl 0), (36, .inl 8), (37, .inl 1), (38, .inl 6), (39, .inl 1), (40, .inl 176), (41, .inl 4294967295), (42, .inl 8), (43, .inl 4), (44, .inl 6), (45, .inl 4), (46, .inl 184), (47, .inl 4294967295), (48, .inl 8), (49, .inl 9), (50, .inl 6), (51, .inl 5), (52, .inl 184), (53, .inl 4294967295), (54, .inl 9), (55, .inl 1), (56, .inl 1), (57, .inl 0), (58, .inl 132), (59, .inl 4294967295), (60, .inl 9), (61, .inl 2), (62, .inl 1), (63, .inl 0)]), (1, [(64, .inl 133), (65, .inl 4294967295), (66, .inl 9), (67, .inl 1), (68, .inl 3), (69, .inl 1), (70, .inl 168), (71, .inl 4294967295), (72, .inl 9), (73, .inl 2), (74, .inl 3), (75, .inl 4), (76, .inl 169), (77, .inl 4294967295), (78, .inl 9), (79, .inl 1), (80, .inl 4), (81, .inl 1), (82, .inl 246), (83, .inl 0), (84, .inl 9), (85, .inl 2), (86, .inl 4), (87, .inl 4), (88, .inl 247), (89, .inl 0), (90, .inl 10), (91, .inl 1), (92, .inl 1), (93, .inl 0), (94, .inl 134), (95, .inl 4294967295), (96, .inl 10), (97, .inl 2), (98, .inl 1), (99, .inl 0), (100, .inl 135), (101, .inl 4294967295), (102, .inl 11), (103, .inl 2), (104, .inl 8), (105, .inl 0), (106, .inl 141), (107, .inl 4294967295), (108, .inl 12), (109, .inl 2), (110, .inl 2), (111, .inl 0), (112, .inl 4022), (113, .inl 4294967295), (114, .inl 13), (115, .inl 2), (116, .inl 2), (117, .inl 0), (118, .inl 4030), (119, .inl 4294967295), (120, .inl 14), (121, .inl 9), (122, .inl 2), (123, .inl 0), (124, .inl 99), (125, .inl 4294967295), (126, .inl 15), (127, .inl 1)]), (2, [(128, .inl 5), (129, .inl 0), (130, .inl 246), (131, .inl 2), (132, .inl 15), (133, .inl 2), (134, .inl 5), (135, .inl 0), (136, .inl 247), (137, .inl 2), (138, .inl 16), (139, .inl 1), (140, .inl 5), (141, .inl 0), (142, .inl 246), (143, .inl 3), (144, .inl 16), (145, .inl 2), (146, .inl 5), (147, .inl 0), (148, .inl 247), (149, .inl 3), (150, .inl 17), (151, .inl 1), (152, .inl 5), (153, .inl 0), (154, .inl 246), (155, .inl 4), (156, .inl 17), (157, .inl 2), (158, .inl 5), (159, .inl 0), (160, .inl 247), (161, .inl 4), (162, .inl 18), (163, .inl 1), (164, .inl 5), (165, .inl 0), (166, .inl 246), (167, .inl 5), (168, .inl 18), (169, .inl 2), (170, .inl 5), (171, .inl 0), (172, .inl 247), (173, .inl 5), (174, .inl 19), (175, .inl 1), (176, .inl 5), (177, .inl 0), (178, .inl 246), (179, .inl 6), (180, .inl 19), (181, .inl 2), (182, .inl 5), (183, .inl 0), (184, .inl 247), (185, .inl 6), (186, .inl 20), (187, .inl 1), (188, .inl 5), (189, .inl 0), (190, .inl 246), (191, .inl 7)]), (3, [(192, .inl 20), (193, .inl 2), (194, .inl 5), (195, .inl 0), (196, .inl 247), (197, .inl 7), (198, .inl 21), (199, .inl 1), (200, .inl 5), (201, .inl 0), (202, .inl 254), (203, .inl 0), (204, .inl 21), (205, .inl 2), (206, .inl 5), (207, .inl 0), (208, .inl 255), (209, .inl 0), (210, .inl 22), (211, .inl 1), (212, .inl 5), (213, .inl 0), (214, .inl 254), (215, .inl 1), (216, .inl 22), (217, .inl 2), (218, .inl 5), (219, .inl 0), (220, .inl 255), (221, .inl 1), (222, .inl 23), (223, .inl 2), (224, .inl 2), (225, .inl 0), (226, .inl 4015), (227, .inl 4294967295), (228, .inl 23), (229, .inl 2), (230, .inl 9), (231, .inl 4), (232, .inl 105), (233, .inl 4294967295), (234, .inl 23), (235, .inl 2), (236, .inl 9), (237, .inl 1), (238, .inl 107), (239, .inl 4294967295), (240, .inl 24), (241, .inl 1), (242, .inl 4), (243, .inl 2), (244, .inl 192), (245, .inl 0), (246, .inl 24), (247, .inl 2), (248, .inl 4), (249, .inl 2), (250, .inl 193), (251, .inl 0), (252, .inl 24), (253, .inl 1), (254, .inl 10), (255, .inl 0)]), (4, [(256, .inl 208), (257, .inl 0), (258, .inl 24), (259, .inl 2), (260, .inl 10), (261, .inl 0), (262, .inl 209), (263, .inl 0), (264, .inl 24), (265, .inl 1), (266, .inl 11), (267, .inl 0), (268, .inl 210), (269, .inl 0), (270, .inl 24), (271, .inl 2), (272, .inl 11), (273, .inl 0), (274, .inl 211), (275, .inl 0), (276, .inl 25), (277, .inl 1), (278, .inl 4), (279, .inl 2), (280, .inl 192), (281, .inl 1), (282, .inl 25), (283, .inl 2), (284, .inl 4), (285, .inl 2), (286, .inl 193), (287, .inl 1), (288, .inl 25), (289, .inl 1), (290, .inl 10), (291, .inl 0), (292, .inl 208), (293, .inl 1), (294, .inl 25), (295, .inl 2), (296, .inl 10), (297, .inl 0), (298, .inl 209), (299, .inl 1), (300, .inl 25), (301, .inl 1), (302, .inl 11), (303, .inl 0), (304, .inl 210), (305, .inl 1), (306, .inl 25), (307, .inl 2), (308, .inl 11), (309, .inl 0), (310, .inl 211), (311, .inl 1), (312, .inl 26), (313, .inl 1), (314, .inl 4), (315, .inl 2), (316, .inl 192), (317, .inl 4), (318, .inl 26), (319, .inl 2)]), (5, [(320, .inl 4), (321, .inl 2), (322, .inl 193), (323, .inl 4), (324, .inl 26), (325, .inl 1), (326, .inl 10), (327, .inl 0), (328, .inl 208), (329, .inl 4), (330, .inl 26), (331, .inl 2), (332, .inl 10), (333, .inl 0), (334, .inl 209), (335, .inl 4), (336, .inl 26), (337, .inl 1), (338, .inl 11), (339, .inl 0), (340, .inl 210), (341, .inl 4), (342, .inl 26), (343, .inl 2), (344, .inl 11), (345, .inl 0), (346, .inl 211), (347, .inl 4), (348, .inl 27), (349, .inl 1), (350, .inl 4), (351, .inl 2), (352, .inl 192), (353, .inl 5), (354, .inl 27), (355, .inl 2), (356, .inl 4), (357, .inl 2), (358, .inl 193), (359, .inl 5), (360, .inl 27), (361, .inl 1), (362, .inl 10), (363, .inl 0), (364, .inl 208), (365, .inl 5), (366, .inl 27), (367, .inl 2), (368, .inl 10), (369, .inl 0), (370, .inl 209), (371, .inl 5), (372, .inl 27), (373, .inl 1), (374, .inl 11), (375, .inl 0), (376, .inl 210), (377, .inl 5), (378, .inl 27), (379, .inl 2), (380, .inl 11), (381, .inl 0), (382, .inl 211), (383, .inl 5)]), (6, [(384, .inl 28), (385, .inl 1), (386, .inl 4), (387, .inl 2), (388, .inl 192), (389, .inl 7), (390, .inl 28), (391, .inl 2), (392, .inl 4), (393, .inl 2), (394, .inl 193), (395, .inl 7), (396, .inl 28), (397, .inl 1), (398, .inl 10), (399, .inl 0), (400, .inl 208), (401, .inl 7), (402, .inl 28), (403, .inl 2), (404, .inl 10), (405, .inl 0), (406, .inl 209), (407, .inl 7), (408, .inl 28), (409, .inl 1), (410, .inl 11), (411, .inl 0), (412, .inl 210), (413, .inl 7), (414, .inl 28), (415, .inl 2), (416, .inl 11), (417, .inl 0), (418, .inl 211), (419, .inl 7), (420, .inl 29), (421, .inl 8), (422, .inl 7), (423, .inl 0), (424, .inl 80), (425, .inl 4294967295), (426, .inl 29), (427, .inl 8), (428, .inl 12), (429, .inl 4), (430, .inl 104), (431, .inl 4294967295), (432, .inl 29), (433, .inl 8), (434, .inl 12), (435, .inl 1), (436, .inl 106), (437, .inl 4294967295), (438, .inl 29), (439, .inl 8), (440, .inl 5), (441, .inl 0), (442, .inl 255), (443, .inl 6), (444, .inl 30), (445, .inl 8), (446, .inl 7), (447, .inl 0)]), (7, [(448, .inl 88), (449, .inl 4294967295), (450, .inl 30), (451, .inl 8), (452, .inl 5), (453, .inl 0), (454, .inl 143), (455, .inl 0), (456, .inl 31), (457, .inl 0), (458, .inl 12), (459, .inl 4), (460, .inl 233), (461, .inl 4294967295), (462, .inl 31), (463, .inl 0), (464, .inl 12), (465, .inl 1), (466, .inl 235), (467, .inl 4294967295), (468, .inl 31), (469, .inl 0), (470, .inl 5), (471, .inl 0), (472, .inl 255), (473, .inl 4), (474, .inl 32), (475, .inl 0), (476, .inl 12), (477, .inl 4), (478, .inl 232), (479, .inl 4294967295), (480, .inl 32), (481, .inl 0), (482, .inl 5), (483, .inl 0), (484, .inl 255), (485, .inl 2), (486, .inl 33), (487, .inl 0), (488, .inl 0), (489, .inl 0), (490, .inl 195), (491, .inl 4294967295), (492, .inl 33), (493, .inl 0), (494, .inl 12), (495, .inl 3), (496, .inl 194), (497, .inl 4294967295), (498, .inl 34), (499, .inl 0), (500, .inl 12), (501, .inl 4), (502, .inl 3968), (503, .inl 4294967295), (504, .inl 34), (505, .inl 0), (506, .inl 12), (507, .inl 1), (508, .inl 112), (509, .inl 4294967295), (510, .inl 35), (511, .inl 1)]), (8, [(512, .inl 5), (513, .inl 0), (514, .inl 3984), (515, .inl 4294967295), (516, .inl 36), (517, .inl 2), (518, .inl 2), (519, .inl 0), (520, .inl 3904), (521, .inl 4294967295), (522, .inl 37), (523, .inl 2), (524, .inl 0), (525, .inl 0), (526, .inl 153), (527, .inl 4294967295), (528, .inl 38), (529, .inl 2), (530, .inl 0), (531, .inl 0), (532, .inl 152), (533, .inl 4294967295), (534, .inl 39), (535, .inl 0), (536, .inl 0), (537, .inl 0), (538, .inl 144), (539, .inl 4294967295), (540, .inl 40), (541, .inl 0), (542, .inl 0), (543, .inl 0), (544, .inl 204), (545, .inl 4294967295), (546, .inl 41), (547, .inl 0), (548, .inl 0), (549, .inl 0), (550, .inl 3851), (551, .inl 4294967295), (552, .inl 42), (553, .inl 0), (554, .inl 0), (555, .inl 0), (556, .inl 3845), (557, .inl 4294967295), (558, .inl 43), (559, .inl 0), (560, .inl 0), (561, .inl 0), (562, .inl 201), (563, .inl 4294967295), (564, .inl 44), (565, .inl 2), (566, .inl 2), (567, .inl 0), (568, .inl 4028), (569, .inl 4294967295), (570, .inl 45), (571, .inl 2), (572, .inl 2), (573, .inl 0), (574, .inl 4029), (575, .inl 4294967295)]), (9, [(576, .inl 46), (577, .inl 2), (578, .inl 7), (579, .inl 0), (580, .inl 4040), (581, .inl 4294967295), (582, .inl 47), (583, .inl 2), (584, .inl 1), (585, .inl 0), (586, .inl 4003), (587, .inl 4294967295), (588, .inl 47), (589, .inl 2), (590, .inl 4), (591, .inl 2), (592, .inl 4026), (593, .inl 4), (594, .inl 48), (595, .inl 1), (596, .inl 1), (597, .inl 0), (598, .inl 4032), (599, .inl 4294967295), (600, .inl 48), (601, .inl 2), (602, .inl 1), (603, .inl 0), (604, .inl 4033), (605, .inl 4294967295), (606, .inl 49), (607, .inl 1), (608, .inl 1), (609, .inl 0), (610, .inl 4016), (611, .inl 4294967295), (612, .inl 49), (613, .inl 2), (614, .inl 1), (615, .inl 0), (616, .inl 4017), (617, .inl 4294967295), (618, .inl 50), (619, .inl 1), (620, .inl 0), (621, .inl 0), (622, .inl 164), (623, .inl 4294967295), (624, .inl 50), (625, .inl 2), (626, .inl 0), (627, .inl 0), (628, .inl 165), (629, .inl 4294967295), (630, .inl 51), (631, .inl 1), (632, .inl 0), (633, .inl 0), (634, .inl 170), (635, .inl 4294967295), (636, .inl 51), (637, .inl 2), (638, .inl 0), (639, .inl 0)]), (10, [(640, .inl 171), (641, .inl 4294967295), (642, .inl 52), (643, .inl 1), (644, .inl 0), (645, .inl 0), (646, .inl 62372), (647, .inl 4294967295), (648, .inl 52), (649, .inl 2), (650, .inl 0), (651, .inl 0), (652, .inl 62373), (653, .inl 4294967295), (654, .inl 53), (655, .inl 1), (656, .inl 0), (657, .inl 0), (658, .inl 62378), (659, .inl 4294967295), (660, .inl 53), (661, .inl 2), (662, .inl 0), (663, .inl 0), (664, .inl 62379), (665, .inl 4294967295)])]),
  .inr (0, 13, .inl 0, [(0, [(0, .inl 4294967295), (1, .inl 4294967295), (2, .inl 4294967295), (3, .inl 4294967295), (4, .inl 4294967295), (5, .inl 4294967295), (6, .inl 0), (7, .inl 0), (8, .inl 4294967295), (9, .inl 4294967295), (10, .inl 4294967295), (11, .inl 4294967295), (12, .inl 4294967295)])])]
/-- NativeWorks$Instruction.isConditional(I)Z -/
noncomputable def bs_X2_isConditional : List rBl := [sq (h_ld 0) (sq (h_v (.inl 34)) (t_icmp rEq 3 1)),
  sq (h_ld 0) (sq (h_v (.inl 35)) (t_icmp rEq 3 2)),
  sq (h_ld 0) (sq (h_v (.inl 36)) (t_icmp (fun a b => rNot (rEq a b)) 4 3)),
  sq (h_v (.inl 1)) (t_go 5),
  sq (h_v (.inl 0)) (t_go 5),
  t_retv isZ]
noncomputable def ev_X2_isConditional : rEv := fun as w n => rIni [0] as (fun ls => rRun bs_X2_isConditional 100000 0 ls [] w n 0)
/-- NativeWorks$Instruction.enter(I)V -/
noncomputable def bs_X2_enter : List rBl := [sq (h_ld 0) (sq (h_get rFo 4 0) (sq (h_ld 1) (sq (h_v (.inl 4)) (sq (h_bin (fun _ _ => true) rAdd) (sq (h_ald rFo isT0) (sq (h_st 2) (sq (h_ld 2) (sq (h_v (.inl 8)) (sq (h_bin (fun a _ => Nat.blt a 2147483648) rShr) (sq (h_v (.inl 15)) (t_icmp (fun a b => rNot (rEq a b)) 2 1))))))))))),
  sq (h_v (.inl 1)) (t_go 5),
  sq (h_ld 2) (sq (h_v (.inl 8)) (sq (h_bin (fun a _ => Nat.blt a 2147483648) rShr) (sq (h_v (.inl 243)) (t_icmp (fun a b => rNot (rEq a b)) 4 3)))),
  sq (h_v (.inl 2)) (t_go 5),
  sq (h_v (.inl 0)) (t_go 5),
  sq (h_st 3) (sq (h_v (.inr (.inr 6))) (sq (h_ld 0) (sq (h_get rFo 4 0) (sq (h_ld 1) (sq (h_v (.inl 2)) (sq (h_bin (fun _ _ => true) rAdd) (sq (h_ald rFo isT0) (sq (h_ald rFo isT0) (sq (h_v (.inl 4294967295)) (t_icmp rEq 7 6)))))))))),
  sq (h_v (.inl 8)) (t_go 10),
  sq (h_ld 0) (sq (h_get rFo 4 0) (sq (h_ld 1) (sq (h_ald rFo isT0) (sq (h_call 1 (fun _ _ _ => true) ev_X2_isConditional) (t_if (fun a => rEq a 0) 9 8))))),
  sq (h_v (.inl 16)) (t_go 10),
  sq (h_v (.inl 1)) (t_go 10),
  sq (h_st 4) (sq (h_ld 3) (sq (h_v (.inl 256)) (sq (h_bin (fun _ _ => true) rMul) (sq (h_ld 2) (sq (h_v (.inl 255)) (sq (h_bin (fun _ _ => true) Nat.land) (sq (h_bin (fun _ _ => true) rAdd) (sq (h_v (.inl 8)) (sq (h_bin (fun _ _ => true) rMul) (sq (h_st 5) (sq (h_ld 5) (sq (h_st 6) (t_go 11))))))))))))),
  sq (h_ld 6) (sq (h_ld 5) (sq (h_v (.inl 8)) (sq (h_ld 4) (sq (h_bin (fun _ _ => true) rMul) (sq (h_bin (fun _ _ => true) rAdd) (t_icmp (fun a b => rNot (rLt a b)) 18 12)))))),
  sq (h_ld 6) (sq (h_ld 0) (sq (h_get rFo 4 2) (sq (h_alen rFo) (t_icmp (fun a b => rNot (rLt a b)) 18 13)))),
  sq (h_ld 0) (sq (h_get rFo 4 0) (sq (h_ld 1) (sq (h_v (.inl 5)) (sq (h_bin (fun _ _ => true) rAdd) (sq (h_ald rFo isT0) (sq (h_st 7) (sq (h_ld 7) (sq (h_v (.inl 4294967295)) (t_icmp rEq 15 14))))))))),
  sq (h_ld 7) (sq (h_ld 6) (sq (h_v (.inl 8)) (sq (h_bin rDok Nat.mod) (t_icmp (fun a b => rNot (rEq a b)) 17 15)))),
  sq (h_ld 0) (sq (h_get rFo 4 2) (sq (h_ld 6) (sq (h_ald rFo isT0) (sq (h_v (.inl 4294967295)) (t_icmp (fun a b => rNot (rEq a b)) 17 16))))),
  sq (h_ld 0) (sq (h_get rFo 4 2) (sq (h_ld 6) (sq (h_ld 1) (sq (h_ast okI) (t_go 17))))),
  sq (h_inc 6 1) (t_go 11),
  t_ret]
noncomputable def ev_X2_enter : rEv := fun as w n => rIni [0, 1] as (fun ls => rRun bs_X2_enter 100000 0 ls [] w n 0)
/-- NativeWorks$Instruction.<init>()V -/
noncomputable def bs_X2_init : List rBl := [sq (h_ld 0) (sq (h_oinit) (sq (h_ld 0) (sq (h_v (.inl 8)) (sq (h_v (.inr (.inr 2))) (sq (h_alen rFo) (sq (h_bin (fun _ _ => true) rMul) (sq (h_v (.inr (.inr 4))) (sq (h_alen rFo) (sq (h_bin (fun _ _ => true) rAdd) (sq (h_newa 0 (.inl 0)) (sq (h_put 4 0 isR) (sq (h_ld 0) (sq (h_v (.inl 55)) (sq (h_newa 0 (.inl 0)) (sq (h_put 4 1 isR) (sq (h_ld 0) (sq (h_v (.inl 6144)) (sq (h_newa 0 (.inl 0)) (sq (h_put 4 2 isR) (sq (h_ld 0) (sq (h_v (.inl 4)) (sq (h_newa 0 (.inl 0)) (sq (h_put 4 3 isR) (sq (h_ld 0) (sq (h_v (.inl 4)) (sq (h_newa 0 (.inl 0)) (sq (h_put 4 4 isR) (sq (h_ld 0) (sq (h_v (.inl 32)) (sq (h_newa 2 (.inl 0)) (sq (h_put 4 5 isR) (sq (h_ld 0) (sq (h_get rFo 4 2) (sq (h_v (.inl 4294967295)) (sq (h_call 2 (fun _ _ _ => true) ev_J7_fill_53178) (sq (h_v (.inl 0)) (sq (h_st 1) (t_go 1)))))))))))))))))))))))))))))))))))))),
  sq (h_ld 1) (sq (h_v (.inl 8)) (sq (h_v (.inr (.inr 2))) (sq (h_alen rFo) (sq (h_bin (fun _ _ => true) rMul) (t_icmp (fun a b => rNot (rLt a b)) 14 2))))),
  sq (h_ld 1) (sq (h_v (.inr (.inr 2))) (sq (h_alen rFo) (sq (h_bin rDok Nat.div) (sq (h_st 2) (sq (h_ld 1) (sq (h_v (.inl 6)) (sq (h_bin rDok Nat.mod) (sq (h_st 3) (sq (h_v (.inr (.inr 2))) (sq (h_ld 1) (sq (h_v (.inr (.inr 2))) (sq (h_alen rFo) (sq (h_bin rDok Nat.mod) (sq (h_ald rFo isT0) (sq (h_st 4) (sq (h_ld 3) (t_if (fun a => rEq a 0) 5 3))))))))))))))))),
  sq (h_ld 3) (sq (h_v (.inl 5)) (t_icmp (fun a b => rNot (rEq a b)) 6 4)),
  sq (h_ld 4) (t_if (fun a => rNot (rEq a 0)) 6 5),
  sq (h_v (.inl 1)) (t_go 7),
  sq (h_v (.inl 0)) (t_go 7),
  sq (h_st 5) (sq (h_ld 0) (sq (h_get rFo 4 0) (sq (h_ld 1) (sq (h_ld 5) (t_if (fun a => rEq a 0) 9 8))))),
  sq (h_ld 2) (t_go 13),
  sq (h_ld 3) (sq (h_v (.inl 4)) (t_icmp (fun a b => rNot (rEq a b)) 12 10)),
  sq (h_ld 4) (sq (h_v (.inl 128)) (t_icmp (fun a b => rNot (rLt a b)) 12 11)),
  sq (h_ld 4) (sq (h_v (.inl 8)) (sq (h_ld 2) (sq (h_bin (fun _ _ => true) rMul) (sq (h_bin (fun _ _ => true) rAdd) (t_go 13))))),
  sq (h_ld 4) (t_go 13),
  sq (h_ast okI) (sq (h_inc 1 1) (t_go 1)),
  sq (h_v (.inr (.inr 4))) (sq (h_v (.inl 0)) (sq (h_ld 0) (sq (h_get rFo 4 0) (sq (h_v (.inl 8)) (sq (h_v (.inr (.inr 2))) (sq (h_alen rFo) (sq (h_bin (fun _ _ => true) rMul) (sq (h_v (.inr (.inr 4))) (sq (h_alen rFo) (sq (h_acopy rFo) (sq (h_v (.inl 0)) (sq (h_st 1) (t_go 15))))))))))))),
  sq (h_ld 1) (sq (h_ld 0) (sq (h_get rFo 4 0) (sq (h_alen rFo) (t_icmp (fun a b => rNot (rLt a b)) 17 16)))),
  sq (h_ld 0) (sq (h_get rFo 4 1) (sq (h_ld 0) (sq (h_get rFo 4 0) (sq (h_ld 1) (sq (h_ald rFo isT0) (sq (h_v (.inl 1)) (sq (h_bin (fun _ _ => true) rAdd) (sq (h_ld 1) (sq (h_v (.inl 6)) (sq (h_bin (fun _ _ => true) rAdd) (sq (h_ast okI) (sq (h_ld 0) (sq (h_ld 1) (sq (h_call 2 (fun _ _ _ => true) ev_X2_enter) (sq (h_inc 1 6) (t_go 15)))))))))))))))),
  t_ret]
noncomputable def ev_X2_init : rEv := fun as w n => rIni [0] as (fun ls => rRun bs_X2_init 100000 0 ls [] w n 0)

noncomputable def tst (o : Option rOut) : Nat := Option.rec 0 (fun o => Prod.rec (fun v o => Prod.rec (fun w o => Prod.rec (fun n c => c) o) o) o) o
set_option maxRecDepth 1000000 in
set_option maxHeartbeats 40000000 in
theorem tst_2 : Nat.beq (tst (ev_X2_init [.inr (.inr 1)] [.inl (4, [.inr (.inr 0), .inr (.inr 0), .inr (.inr 0), .inr (.inr 0), .inr (.inr 0), .inr (.inr 0), .inl 0, .inl 0, .inl 0, .inl 0, .inl 0, .inl 0, .inl 0, .inl 0, .inr (.inl 0), .inl 0, .inr (.inl 0), .inl 0, .inl 0, .inl 0, .inl 0])] 1)) 8000 = false := by decide +kernel
end
