/-! A RUNNER OF BYTECODE OVER LISTS, for the kernel to compute with. A value: an int (its 32 bits), a long (its 64 bits), null or a reference (0 is null, 2k+1 the k-th cell made since the base, 2i+2 the i-th thing that is there from the start). A cell: an object (its class's number, its fields), an array (type, length, what the rest holds, what single places hold, latest first). The world: the cells that are known, by their numbers, the newest first; the number of the next. -/
abbrev rCV : Type := Nat ⊕ (Nat ⊕ Nat)
abbrev rMp : Type := List (Nat × List (Nat × rCV))
abbrev rAr : Type := Nat × (Nat × (rCV × rMp))
abbrev rCC : Type := (Nat × List rCV) ⊕ rAr
abbrev rLs : Type := List (Nat × rCV)
abbrev rWd : Type := List (Nat × rCC)
abbrev rOut : Type := Option rCV × (rWd × (Nat × Nat))
abbrev rK : Type := rLs → List rCV → rWd → Nat → Nat → Option rOut
abbrev rBl : Type := (Nat → rK) → rK
abbrev rEv : Type := List rCV → rWd → Nat → Option rOut
/-- a number, computed before it is handed on -/
noncomputable def rN {α : Type} (n : Nat) (k : Nat → α) : α := Nat.rec (k 0) (fun m _ => k (Nat.succ m)) n
noncomputable def rB {α : Type} (b : Bool) (x y : α) : α := Bool.rec y x b
noncomputable def rG {α β : Type} (l : List α) (i : Nat) (k : α → Option β) : Option β := List.rec (motive := fun _ => Nat → Option β) (fun _ => none) (fun x _ ih i => Nat.rec (k x) (fun j _ => ih j) i) l i
noncomputable def rS {α β : Type} (l : List α) (i : Nat) (v : α) (k : List α → Option β) : Option β := List.rec (motive := fun _ => Nat → (List α → Option β) → Option β) (fun _ _ => none) (fun x xs ih i k => Nat.rec (k (v :: xs)) (fun j _ => ih j (fun ys => k (x :: ys))) i) l i k
noncomputable def rA {β : Type} (l : rLs) (i : Nat) (k : rCV → Option β) : Option β := List.rec (motive := fun _ => Option β) none (fun x _ ih => Prod.rec (fun a v => rB (Nat.beq a i) (k v) ih) x) l
noncomputable def rF {β : Type} (p : Nat × rCV → Bool) (l : rLs) (k : rLs → Option β) : Option β := List.rec (motive := fun _ => (rLs → Option β) → Option β) (fun k => k []) (fun x _ ih k => rB (p x) (ih (fun ys => k (x :: ys))) (ih k)) l k
noncomputable def rLi (d : rCV) (m : List (Nat × rCV)) (i : Nat) : rCV := List.rec (motive := fun _ => rCV) d (fun x _ ih => Prod.rec (fun a v => rB (Nat.beq a i) v ih) x) m
/-- what place i holds -/
noncomputable def rL (d : rCV) (m : rMp) (i : Nat) : rCV := rN (Nat.div i 64) (fun q => List.rec (motive := fun _ => rCV) d (fun x _ ih => Prod.rec (fun a l => rB (Nat.beq a q) (rLi d l i) ih) x) m)
/-- place i, of block q, holds v now -/
noncomputable def rU {β : Type} (m : rMp) (q i : Nat) (v : rCV) (k : rMp → Option β) : Option β := List.rec (motive := fun _ => (rMp → Option β) → Option β) (fun k => k [(q, [(i, v)])]) (fun x xs ih k => Prod.rec (fun a l => rB (Nat.beq a q) (k ((a, (i, v) :: l) :: xs)) (ih (fun ys => k ((a, l) :: ys)))) x) m k
noncomputable def rI {β : Type} (v : rCV) (k : Nat → Option β) : Option β := Sum.rec (fun a => k a) (fun _ => none) v
noncomputable def rJ {β : Type} (v : rCV) (k : Nat → Option β) : Option β := Sum.rec (fun _ => none) (fun x => Sum.rec (fun a => k a) (fun _ => none) x) v
noncomputable def rR {β : Type} (v : rCV) (k : Nat → Option β) : Option β := Sum.rec (fun _ => none) (fun x => Sum.rec (fun _ => none) (fun a => k a) x) v
/-- a value, computed before it is handed on -/
noncomputable def rV {β : Type} (v : rCV) (k : rCV → Option β) : Option β := Sum.rec (fun a => k (.inl a)) (fun x => Sum.rec (fun a => k (.inr (.inl a))) (fun a => k (.inr (.inr a))) x) v
noncomputable def rP {β : Type} (st : List rCV) (k : rCV → List rCV → Option β) : Option β := List.rec (motive := fun _ => Option β) none (fun v st _ => k v st) st
noncomputable def rLong (v : rCV) : Bool := Sum.rec (fun _ => false) (fun x => Sum.rec (fun _ => true) (fun _ => false) x) v
noncomputable def rCat (v : rCV) : Nat := rB (rLong v) 2 1
noncomputable def rSum (st : List rCV) : Nat := List.rec (motive := fun _ => Nat) 0 (fun v _ ih => Nat.add (rCat v) ih) st
noncomputable def rKeep1 (i : Nat) (q : Nat × rCV) : Bool := rB (Nat.beq q.1 i) false (rB (Nat.beq (Nat.succ q.1) i) (rB (rLong q.2) false true) true)
noncomputable def rKeep2 (i : Nat) (q : Nat × rCV) : Bool := rB (Nat.beq q.1 i) false (rB (Nat.beq q.1 (Nat.succ i)) false (rB (Nat.beq (Nat.succ q.1) i) (rB (rLong q.2) false true) true))
def rM : Nat := 4294967296
def rH : Nat := 2147483648
def rML : Nat := 18446744073709551616
def rHL : Nat := 9223372036854775808
-- arithmetic of the bits
noncomputable def rSg (a : Nat) : Nat := Nat.mod (Nat.add a 2147483648) 4294967296
noncomputable def rSgL (a : Nat) : Nat := Nat.mod (Nat.add a 9223372036854775808) 18446744073709551616
noncomputable def rAdd (a b : Nat) : Nat := Nat.mod (Nat.add a b) 4294967296
noncomputable def rNeg (a : Nat) : Nat := Nat.mod (Nat.sub 4294967296 (Nat.mod a 4294967296)) 4294967296
noncomputable def rSub (a b : Nat) : Nat := rAdd a (rNeg b)
noncomputable def rMul (a b : Nat) : Nat := Nat.mod (Nat.mul a b) 4294967296
noncomputable def rShl (a b : Nat) : Nat := Nat.mod (Nat.mul a (Nat.pow 2 (Nat.mod b 32))) 4294967296
/-- >> of a number that is not negative -/
noncomputable def rShr (a b : Nat) : Nat := Nat.div a (Nat.pow 2 (Nat.mod b 32))
noncomputable def rIsN (a : Nat) : Bool := Nat.ble 2147483648 a
-- instructions
noncomputable def h_ld (ok : rCV → Bool) (i : Nat) (k : rK) : rK := fun ls st w n c => rA ls i (fun v => rB (ok v) (k ls (v :: st) w n c) none)
noncomputable def h_st (ok : rCV → Bool) (i : Nat) (k : rK) : rK := fun ls st w n c => rP st (fun v st => rB (ok v) (rF (rKeep1 i) ls (fun l => k ((i, v) :: l) st w n c)) none)
noncomputable def h_st2 (i : Nat) (k : rK) : rK := fun ls st w n c => rP st (fun v st => rB (rLong v) (rF (rKeep2 i) ls (fun l => k ((i, v) :: l) st w n c)) none)
noncomputable def h_inc (i d : Nat) (k : rK) : rK := fun ls st w n c => rA ls i (fun v => rI v (fun a => rN (rAdd a d) (fun z => rF (rKeep1 i) ls (fun l => k ((i, .inl z) :: l) st w n c))))
noncomputable def h_v (v : rCV) (k : rK) : rK := fun ls st w n c => k ls (v :: st) w n c
noncomputable def h_dup (k : rK) : rK := fun ls st w n c => rP st (fun v st => rB (rLong v) none (k ls (v :: v :: st) w n c))
noncomputable def h_dupx1 (k : rK) : rK := fun ls st w n c => rP st (fun a st => rP st (fun b st => rB (rLong a) none (rB (rLong b) none (k ls (a :: b :: a :: st) w n c))))
noncomputable def h_pop (k : rK) : rK := fun ls st w n c => rP st (fun v st => rB (rLong v) none (k ls st w n c))
noncomputable def h_bin (ok : Nat → Nat → Bool) (f : Nat → Nat → Nat) (k : rK) : rK := fun ls st w n c => rP st (fun y st => rP st (fun x st => rI y (fun b => rI x (fun a => rB (ok a b) (rN (f a b) (fun z => k ls (.inl z :: st) w n c)) none))))
noncomputable def h_un (ok : Nat → Bool) (f : Nat → Nat) (k : rK) : rK := fun ls st w n c => rP st (fun x st => rI x (fun a => rB (ok a) (rN (f a) (fun z => k ls (.inl z :: st) w n c)) none))
/-- Math.min(int, int) -/
noncomputable def h_mmin (k : rK) : rK := fun ls st w n c => rP st (fun y st => rP st (fun x st => rB (Nat.ble (rSum st) 8) (rI y (fun b => rI x (fun a => rN (rB (Nat.blt (Nat.mod (Nat.add b 2147483648) 4294967296) (Nat.mod (Nat.add a 2147483648) 4294967296)) b a) (fun z => k ls (.inl z :: st) w n c)))) none))
noncomputable def h_i2l (k : rK) : rK := fun ls st w n c => rP st (fun x st => rI x (fun a => rB (Nat.ble 2147483648 a) none (k ls (.inr (.inl a) :: st) w n c)))
noncomputable def h_lbin (f : Nat → Nat → Nat) (k : rK) : rK := fun ls st w n c => rP st (fun y st => rP st (fun x st => rJ y (fun b => rJ x (fun a => rN (f a b) (fun z => k ls (.inr (.inl z) :: st) w n c)))))
noncomputable def h_lsh (f : Nat → Nat → Nat) (k : rK) : rK := fun ls st w n c => rP st (fun y st => rP st (fun x st => rI y (fun b => rJ x (fun a => rB (Nat.blt b 64) (rN (f a b) (fun z => k ls (.inr (.inl z) :: st) w n c)) none))))
/-- cell i of the world -/
noncomputable def rWG {β : Type} (w : rWd) (i : Nat) (k : rCC → Option β) : Option β := List.rec (motive := fun _ => Option β) none (fun q _ ih => Prod.rec (fun a x => rB (Nat.beq a i) (k x) ih) q) w
/-- .. is x now -/
noncomputable def rWS {β : Type} (w : rWd) (i : Nat) (x : rCC) (k : rWd → Option β) : Option β := List.rec (motive := fun _ => (rWd → Option β) → Option β) (fun _ => none) (fun q w ih k => Prod.rec (fun a y => rB (Nat.beq a i) (k ((a, x) :: w)) (ih (fun w => k ((a, y) :: w)))) q) w k
/-- the cell of a reference that was made since the base -/
noncomputable def rO {β : Type} (w : rWd) (r : Nat) (k : Nat → rCC → Option β) : Option β := rB (Nat.beq (Nat.mod r 2) 1) (rN (Nat.div r 2) (fun p => rWG w p (fun x => k p x))) none
/-- .. or of one that was there from the start -/
noncomputable def rOF {β : Type} (fo : List rCC) (w : rWd) (r : Nat) (k : rCC → Option β) : Option β := rB (Nat.beq (Nat.mod r 2) 1) (rO w r (fun _ x => k x)) (rB (Nat.beq r 0) none (rN (Nat.pred (Nat.div r 2)) (fun p => rG fo p k)))
noncomputable def rCO {β : Type} (x : rCC) (k : Nat → List rCV → Option β) : Option β := Sum.rec (fun o => Prod.rec (fun a b => k a b) o) (fun _ => none) x
noncomputable def rCA {β : Type} (x : rCC) (k : Nat → Nat → rCV → rMp → Option β) : Option β := Sum.rec (fun _ => none) (fun o => Prod.rec (fun t o => Prod.rec (fun n o => Prod.rec (fun d m => k t n d m) o) o) o) x
noncomputable def h_get (fo : List rCC) (ci j : Nat) (k : rK) : rK := fun ls st w n c => rP st (fun x st => rR x (fun r => rOF fo w r (fun cell => rCO cell (fun ci' fs => rB (Nat.beq ci' ci) (rG fs j (fun v => k ls (v :: st) w n c)) none))))
noncomputable def h_put (ci j : Nat) (ok : rCV → Bool) (k : rK) : rK := fun ls st w n c => rP st (fun v st => rP st (fun x st => rB (ok v) (rR x (fun r => rO w r (fun p cell => rCO cell (fun ci' fs => rB (Nat.beq ci' ci) (rS fs j v (fun fs => rWS w p (.inl (ci, fs)) (fun w => k ls st w n c))) none)))) none))
noncomputable def h_alen (fo : List rCC) (k : rK) : rK := fun ls st w n c => rP st (fun x st => rR x (fun r => rOF fo w r (fun cell => rCA cell (fun _ N _ _ => k ls (.inl N :: st) w n c))))
/-- an element of an array of type t -/
noncomputable def h_ald (fo : List rCC) (ok : Nat → rCV → Bool) (k : rK) : rK := fun ls st w n c => rP st (fun y st => rP st (fun x st => rI y (fun i => rR x (fun r => rOF fo w r (fun cell => rCA cell (fun t' N d m => rB (Nat.blt i N) (rV (rL d m i) (fun v => rB (ok t' v) (k ls (v :: st) w n c) none)) none))))))
noncomputable def h_ast (ok : Nat → rCV → Bool) (k : rK) : rK := fun ls st w n c => rP st (fun v st => rP st (fun y st => rP st (fun x st => rI y (fun i => rR x (fun r => rO w r (fun p cell => rCA cell (fun t' N d m => rB (ok t' v) (rB (Nat.blt i N) (rN (Nat.div i 64) (fun q => rU m q i v (fun m => rWS w p (.inr (t', N, d, m)) (fun w => k ls st w n c)))) none) none)))))))
noncomputable def h_new (ci nf : Nat) (fs : List rCV) (k : rK) : rK := fun ls st w n c => rN (Nat.add c nf) (fun c => rN (Nat.succ (Nat.mul 2 n)) (fun r => rN (Nat.succ n) (fun n2 => k ls (.inr (.inr r) :: st) ((n, .inl (ci, fs)) :: w) n2 c)))
noncomputable def h_newa (t : Nat) (d : rCV) (k : rK) : rK := fun ls st w n c => rP st (fun x st => rI x (fun N => rB (Nat.ble N 60000000) (rN (Nat.add c N) (fun c => rN (Nat.succ (Nat.mul 2 n)) (fun r => rN (Nat.succ n) (fun n2 => k ls (.inr (.inr r) :: st) ((n, .inr (t, N, d, [])) :: w) n2 c)))) none))
noncomputable def rArg {β : Type} (m : Nat) (st : List rCV) (k : List rCV → List rCV → Option β) : Option β := Nat.rec (motive := fun _ => List rCV → List rCV → Option β) (fun as st => k as st) (fun _ ih as st => rP st (fun v st => ih (v :: as) st)) m [] st
noncomputable def rRes {β : Type} (o : Option rOut) (k : Option rCV → rWd → Nat → Nat → Option β) : Option β := Option.rec none (fun o => Prod.rec (fun v o => Prod.rec (fun w o => Prod.rec (fun n c => k v w n c) o) o) o) o
/-- the receiver is of class ci -/
noncomputable def rRecv (fo : List rCC) (ci : Nat) (as : List rCV) (w : rWd) (n : Nat) : Option Unit := rP as (fun v _ => rR v (fun r => rOF fo w r (fun x => rCO x (fun ci' _ => rB (Nat.beq ci' ci) (some ()) none))))
noncomputable def rAny (_ : List rCV) (_ : rWd) (_ : Nat) : Option Unit := some ()
/-- a call: m arguments, the receiver among them -/
noncomputable def h_call (m : Nat) (ok : List rCV → rWd → Nat → Option Unit) (F : rEv) (k : rK) : rK := fun ls st w n c => rArg m st (fun as st => rB (Nat.ble (rSum st) 8) (Option.rec none (fun _ => rRes (F as w n) (fun v w n ms => rN (Nat.add c ms) (fun c => Option.rec (k ls st w n c) (fun v => k ls (v :: st) w n c) v))) (ok as w n)) none)
/-- a text into a row of texts -/
noncomputable def h_astS (fo : List rCC) (k : rK) : rK := fun ls st w n c => rP st (fun v st => rP st (fun y st => rP st (fun x st => Option.rec none (fun _ => rI y (fun i => rR x (fun r => rO w r (fun p cell => rCA cell (fun t' N d m => rB (Nat.beq t' 4) (rB (Nat.blt i N) (rN (Nat.div i 64) (fun q => rU m q i v (fun m => rWS w p (.inr (4, N, d, m)) (fun w => k ls st w n c)))) none) none))))) (rRecv fo 0 [v] w n))))
-- ends of a block
noncomputable def t_no : rBl := fun _ _ _ _ _ _ => none
noncomputable def t_go (b : Nat) : rBl := fun J => J b
noncomputable def t_icmp (f : Nat → Nat → Bool) (b1 b2 : Nat) : rBl := fun J ls st w n c => rP st (fun y st => rP st (fun x st => rI y (fun b => rI x (fun a => rB (f a b) (J b1 ls st w n c) (J b2 ls st w n c)))))
noncomputable def t_if (f : Nat → Bool) (b1 b2 : Nat) : rBl := fun J ls st w n c => rP st (fun x st => rI x (fun a => rB (f a) (J b1 ls st w n c) (J b2 ls st w n c)))
noncomputable def t_nul (fo : List rCC) (b1 b2 : Nat) : rBl := fun J ls st w n c => rP st (fun x st => rR x (fun r => rB (Nat.beq r 0) (J b1 ls st w n c) (rB (Nat.beq (Nat.mod r 2) 1) (J b2 ls st w n c) (rN (Nat.pred (Nat.div r 2)) (fun p => rG fo p (fun _ => J b2 ls st w n c))))))
noncomputable def t_ret : rBl := fun _ _ st w n c => List.rec (some (none, w, n, c)) (fun _ _ _ => none) st
noncomputable def t_retv (ok : rCV → Bool) : rBl := fun _ _ st w n c => rP st (fun v st => rB (ok v) (List.rec (some (some v, w, n, c)) (fun _ _ _ => none) st) none)
noncomputable def sq (h : rK → rK) (t : rBl) : rBl := fun J => h (t J)
noncomputable def rRun (bs : List rBl) (fuel : Nat) : Nat → rK := Nat.rec (motive := fun _ => Nat → rK) (fun _ _ _ _ _ _ => none) (fun _ ih b ls st w n c => rG bs b (fun t => t ih ls st w n c)) fuel
noncomputable def rEq (a b : Nat) : Bool := Nat.beq (Nat.mod a 4294967296) (Nat.mod b 4294967296)
noncomputable def rNot (b : Bool) : Bool := rB b false true
noncomputable def rLt (a b : Nat) : Bool := Nat.blt (rSg a) (rSg b)
noncomputable def rLe (a b : Nat) : Bool := Nat.ble (rSg a) (rSg b)
noncomputable def isI (v : rCV) : Bool := Sum.rec (fun _ => true) (fun _ => false) v
noncomputable def isJ (v : rCV) : Bool := rLong v
noncomputable def isR (v : rCV) : Bool := Sum.rec (fun _ => false) (fun x => Sum.rec (fun _ => false) (fun _ => true) x) v
noncomputable def isZ (v : rCV) : Bool := Sum.rec (fun a => Nat.ble a 1) (fun _ => false) v
noncomputable def isB (v : rCV) : Bool := Sum.rec (fun a => rB (Nat.ble a 127) true (rB (Nat.ble 4294967168 a) (Nat.blt a 4294967296) false)) (fun _ => false) v
noncomputable def isC (v : rCV) : Bool := Sum.rec (fun a => Nat.ble a 65535) (fun _ => false) v
noncomputable def isT0 (t : Nat) : Bool := Nat.beq t 0
noncomputable def isT1 (t : Nat) : Bool := Nat.beq t 1
noncomputable def isT23 (t : Nat) : Bool := rB (Nat.beq t 2) true (Nat.beq t 3)
noncomputable def isTr (t : Nat) : Bool := Nat.ble 4 t
noncomputable def okI (t : Nat) (v : rCV) : Bool := rB (Nat.beq t 0) (isI v) false
noncomputable def okJ (t : Nat) (v : rCV) : Bool := rB (Nat.beq t 1) (isJ v) false
noncomputable def okB (t : Nat) (v : rCV) : Bool := rB (Nat.beq t 2) (isB v) (rB (Nat.beq t 3) (isZ v) false)
noncomputable def okA (t : Nat) (v : rCV) : Bool := rB (Nat.ble 4 t) (isR v) false
noncomputable def okS (t : Nat) (v : rCV) : Bool := rB (Nat.beq t 4) (isR v) false
noncomputable def rDok (a b : Nat) : Bool := rB (Nat.beq b 0) false (rB (Nat.blt a 2147483648) (Nat.blt b 2147483648) false)
noncomputable def rShlL (a b : Nat) : Nat := Nat.mod (Nat.mul a (Nat.pow 2 (Nat.mod b 64))) 18446744073709551616
/-- the arguments in their places, of nL at most -/
noncomputable def rIni {β : Type} (nL : Nat) (as : List rCV) (k : rLs → Option β) : Option β := List.rec (motive := fun _ => Nat → (rLs → Option β) → Option β) (fun pos k => rB (Nat.ble pos nL) (k []) none) (fun v _ ih pos k => rB (rLong v) (ih (Nat.succ (Nat.succ pos)) (fun l => k ((pos, v) :: l))) (ih (Nat.succ pos) (fun l => k ((pos, v) :: l)))) as 0 k
noncomputable def h_oinit (k : rK) : rK := fun ls st w n c => rP st (fun x st => rR x (fun r => rB (Nat.beq (Nat.mod r 2) 1) (rB (Nat.ble (rSum st) 8) (k ls st w n c) none) none))
noncomputable def okT (t : Nat) (v : rCV) : Bool := rB (Nat.beq t 0) (isI v) (rB (Nat.beq t 1) (isJ v) (okB t v))
/-- the values of m's places from sp on, N of them, of type t, laid into m' from dp on -/
noncomputable def rCp {β : Type} (t N sp dp : Nat) (d : rCV) (m m' : rMp) (k : rMp → Option β) : Option β := Nat.rec (motive := fun _ => rMp → Option β) k (fun j ih m' => rN (Nat.add dp j) (fun i => rN (Nat.div i 64) (fun q => rV (rL d m (Nat.add sp j)) (fun v => rB (okT t v) (rU m' q i v ih) none)))) N m'
noncomputable def h_acopy (fo : List rCC) (k : rK) : rK := fun ls st w n c => rP st (fun x5 st => rP st (fun x4 st => rP st (fun x3 st => rP st (fun x2 st => rP st (fun x1 st => rB (Nat.ble (rSum st) 8) (rI x5 (fun N => rI x4 (fun dp => rI x2 (fun sp => rR x3 (fun r3 => rR x1 (fun r1 => rOF fo w r1 (fun c1 => rCA c1 (fun t1 N1 d1 m1 => rO w r3 (fun p c3 => rCA c3 (fun t3 N3 d3 m3 => rB (Nat.beq t1 t3) (rB (Nat.ble t1 3) (rB (Nat.ble (Nat.add sp N) N1) (rB (Nat.ble (Nat.add dp N) N3) (rCp t1 N sp dp d1 m1 m3 (fun m => rWS w p (.inr (t3, N3, d3, m)) (fun w => k ls st w n c))) none) none) none) none)))))))))) none)))))
/-- String[n] -/
noncomputable def h_anewa (k : rK) : rK := fun ls st w n c => rP st (fun x st => rI x (fun N => rB (Nat.ble N 60000000) (rN (Nat.add c N) (fun c => rN (Nat.succ (Nat.mul 2 n)) (fun r => rN (Nat.succ n) (fun n2 => k ls (.inr (.inr r) :: st) ((n, .inr (4, N, .inr (.inr 0), [])) :: w) n2 c)))) none))
/-- T[N][M]: the rows that come are said to be as they were made -/
noncomputable def h_multi (t t2 : Nat) (k : rK) : rK := fun ls st w n c => rP st (fun y st => rP st (fun x st => rI x (fun N => rI y (fun M => rB (Nat.ble N 60000000) (rB (Nat.ble M 60000000) (rN (Nat.add c (Nat.add N (Nat.mul N M))) (fun c => rN (Nat.succ (Nat.mul 2 n)) (fun r => rN (Nat.add n (Nat.succ N)) (fun n2 => k ls (.inr (.inr r) :: st) ((n, .inl (999, [.inl N, .inl M, .inl t, .inl t2])) :: w) n2 c)))) none) none))))
/-- java.util.Arrays.fill(int[], int) -/
noncomputable def ev_J7_fill_53178 : rEv := fun as w n => rP as (fun x as => rP as (fun v as => List.rec (rI v (fun a => rR x (fun r => rO w r (fun p cell => rCA cell (fun t N _ _ => rB (Nat.beq t 0) (rWS w p (.inr (0, N, .inl a, [])) (fun w => some (none, w, n, 0))) none))))) (fun _ _ _ => none) as))
noncomputable def okSh (_ b : Nat) : Bool := Nat.blt b 32
noncomputable def okShr (a b : Nat) : Bool := rB (Nat.blt a 2147483648) (Nat.blt b 32) false
