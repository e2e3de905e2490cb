section
/-! A RUNNER OF BYTECODE OVER LISTS, for the kernel to compute with. A value: an int (its 32 bits), a long (its 64 bits), null or a reference (0 is null, 2k+1 the k-th cell made since the base, 2i+2 the i-th thing that is there from the start). A cell: an object (its class's number, its fields), an array (type, length, what the rest holds, what single places hold, latest first). The world: the cells that are known, by their numbers, the newest first; the number of the next. -/
abbrev rCV : Type := Nat ⊕ (Nat ⊕ Nat)
abbrev rMp : Type := List (Nat × List (Nat × rCV))
abbrev rAr : Type := Nat × (Nat × (rCV × rMp))
abbrev rCC : Type := (Nat × List rCV) ⊕ rAr
abbrev rLs : Type := List (Nat × rCV)
abbrev rWd : Type := List (Nat × rCC)
abbrev rOut : Type := Option rCV × (rWd × (Nat × Nat))
abbrev rK : Type := rLs → List rCV → rWd → Nat → Nat → Option rOut
abbrev rBl : Type := (Nat → rK) → rK
abbrev rEv : Type := List rCV → rWd → Nat → Option rOut
/-- a number, computed before it is handed on -/
noncomputable def rN {α : Type} (n : Nat) (k : Nat → α) : α := Nat.rec (k 0) (fun m _ => k (Nat.succ m)) n
noncomputable def rB {α : Type} (b : Bool) (x y : α) : α := Bool.rec y x b
noncomputable def rG {α β : Type} (l : List α) (i : Nat) (k : α → Option β) : Option β := List.rec (motive := fun _ => Nat → Option β) (fun _ => none) (fun x _ ih i => Nat.rec (k x) (fun j _ => ih j) i) l i
noncomputable def rS {α β : Type} (l : List α) (i : Nat) (v : α) (k : List α → Option β) : Option β := List.rec (motive := fun _ => Nat → (List α → Option β) → Option β) (fun _ _ => none) (fun x xs ih i k => Nat.rec (k (v :: xs)) (fun j _ => ih j (fun ys => k (x :: ys))) i) l i k
noncomputable def rA {β : Type} (l : rLs) (i : Nat) (k : rCV → Option β) : Option β := List.rec (motive := fun _ => Option β) none (fun x _ ih => Prod.rec (fun a v => rB (Nat.beq a i) (k v) ih) x) l
noncomputable def rF {β : Type} (p : Nat × rCV → Bool) (l : rLs) (k : rLs → Option β) : Option β := List.rec (motive := fun _ => (rLs → Option β) → Option β) (fun k => k []) (fun x _ ih k => rB (p x) (ih (fun ys => k (x :: ys))) (ih k)) l k
noncomputable def rLi (d : rCV) (m : List (Nat × rCV)) (i : Nat) : rCV := List.rec (motive := fun _ => rCV) d (fun x _ ih => Prod.rec (fun a v => rB (Nat.beq a i) v ih) x) m
/-- what place i holds -/
noncomputable def rL (d : rCV) (m : rMp) (i : Nat) : rCV := rN (Nat.div i 64) (fun q => List.rec (motive := fun _ => rCV) d (fun x _ ih => Prod.rec (fun a l => rB (Nat.beq a q) (rLi d l i) ih) x) m)
/-- place i, of block q, holds v now -/
noncomputable def rU {β : Type} (m : rMp) (q i : Nat) (v : rCV) (k : rMp → Option β) : Option β := List.rec (motive := fun _ => (rMp → Option β) → Option β) (fun k => k [(q, [(i, v)])]) (fun x xs ih k => Prod.rec (fun a l => rB (Nat.beq a q) (k ((a, (i, v) :: l) :: xs)) (ih (fun ys => k ((a, l) :: ys)))) x) m k
noncomputable def rI {β : Type} (v : rCV) (k : Nat → Option β) : Option β := Sum.rec (fun a => k a) (fun _ => none) v
noncomputable def rJ {β : Type} (v : rCV) (k : Nat → Option β) : Option β := Sum.rec (fun _ => none) (fun x => Sum.rec (fun a => k a) (fun _ => none) x) v
noncomputable def rR {β : Type} (v : rCV) (k : Nat → Option β) : Option β := Sum.rec (fun _ => none) (fun x => Sum.rec (fun _ => none) (fun a => k a) x) v
/-- a value, computed before it is handed on -/
noncomputable def rV {β : Type} (v : rCV) (k : rCV → Option β) : Option β := Sum.rec (fun a => k (.inl a)) (fun x => Sum.rec (fun a => k (.inr (.inl a))) (fun a => k (.inr (.inr a))) x) v
noncomputable def rP {β : Type} (st : List rCV) (k : rCV → List rCV → Option β) : Option β := List.rec (motive := fun _ => Option β) none (fun v st _ => k v st) st
noncomputable def rLong (v : rCV) : Bool := Sum.rec (fun _ => false) (fun x => Sum.rec (fun _ => true) (fun _ => false) x) v
noncomputable def rCat (v : rCV) : Nat := rB (rLong v) 2 1
noncomputable def rSum (st : List rCV) : Nat := List.rec (motive := fun _ => Nat) 0 (fun v _ ih => Nat.add (rCat v) ih) st
noncomputable def rKeep1 (i : Nat) (q : Nat × rCV) : Bool := rB (Nat.beq q.1 i) false (rB (Nat.beq (Nat.succ q.1) i) (rB (rLong q.2) false true) true)
noncomputable def rKeep2 (i : Nat) (q : Nat × rCV) : Bool := rB (Nat.beq q.1 i) false (rB (Nat.beq q.1 (Nat.succ i)) false (rB (Nat.beq (Nat.succ q.1) i) (rB (rLong q.2) false true) true))
def rM : Nat := 4294967296
def rH : Nat := 2147483648
def rML : Nat := 18446744073709551616
def rHL : Nat := 9223372036854775808
-- arithmetic of the bits
noncomputable def rSg (a : Nat) : Nat := Nat.mod (Nat.add a 2147483648) 4294967296
noncomputable def rSgL (a : Nat) : Nat := Nat.mod (Nat.add a 9223372036854775808) 18446744073709551616
noncomputable def rAdd (a b : Nat) : Nat := Nat.mod (Nat.add a b) 4294967296
noncomputable def rNeg (a : Nat) : Nat := Nat.mod (Nat.sub 4294967296 (Nat.mod a 4294967296)) 4294967296
noncomputable def rSub (a b : Nat) : Nat := rAdd a (rNeg b)
noncomputable def rMul (a b : Nat) : Nat := Nat.mod (Nat.mul a b) 4294967296
noncomputable def rShl (a b : Nat) : Nat := Nat.mod (Nat.mul a (Nat.pow 2 (Nat.mod b 32))) 4294967296
/-- >> of a number that is not negative -/
noncomputable def rShr (a b : Nat) : Nat := Nat.div a (Nat.pow 2 (Nat.mod b 32))
noncomputable def rIsN (a : Nat) : Bool := Nat.ble 2147483648 a
-- instructions
noncomputable def h_ld (ok : rCV → Bool) (i : Nat) (k : rK) : rK := fun ls st w n c => rA ls i (fun v => rB (ok v) (k ls (v :: st) w n c) none)
noncomputable def h_st (ok : rCV → Bool) (i : Nat) (k : rK) : rK := fun ls st w n c => rP st (fun v st => rB (ok v) (rF (rKeep1 i) ls (fun l => k ((i, v) :: l) st w n c)) none)
noncomputable def h_st2 (i : Nat) (k : rK) : rK := fun ls st w n c => rP st (fun v st => rB (rLong v) (rF (rKeep2 i) ls (fun l => k ((i, v) :: l) st w n c)) none)
noncomputable def h_inc (i d : Nat) (k : rK) : rK := fun ls st w n c => rA ls i (fun v => rI v (fun a => rN (rAdd a d) (fun z => rF (rKeep1 i) ls (fun l => k ((i, .inl z) :: l) st w n c))))
noncomputable def h_v (v : rCV) (k : rK) : rK := fun ls st w n c => k ls (v :: st) w n c
noncomputable def h_dup (k : rK) : rK := fun ls st w n c => rP st (fun v st => rB (rLong v) none (k ls (v :: v :: st) w n c))
noncomputable def h_dupx1 (k : rK) : rK := fun ls st w n c => rP st (fun a st => rP st (fun b st => rB (rLong a) none (rB (rLong b) none (k ls (a :: b :: a :: st) w n c))))
noncomputable def h_pop (k : rK) : rK := fun ls st w n c => rP st (fun v st => rB (rLong v) none (k ls st w n c))
noncomputable def h_bin (ok : Nat → Nat → Bool) (f : Nat → Nat → Nat) (k : rK) : rK := fun ls st w n c => rP st (fun y st => rP st (fun x st => rI y (fun b => rI x (fun a => rB (ok a b) (rN (f a b) (fun z => k ls (.inl z :: st) w n c)) none))))
noncomputable def h_un (ok : Nat → Bool) (f : Nat → Nat) (k : rK) : rK := fun ls st w n c => rP st (fun x st => rI x (fun a => rB (ok a) (rN (f a) (fun z => k ls (.inl z :: st) w n c)) none))
noncomputable def h_i2l (k : rK) : rK := fun ls st w n c => rP st (fun x st => rI x (fun a => rB (Nat.ble 2147483648 a) none (k ls (.inr (.inl a) :: st) w n c)))
noncomputable def h_lbin (f : Nat → Nat → Nat) (k : rK) : rK := fun ls st w n c => rP st (fun y st => rP st (fun x st => rJ y (fun b => rJ x (fun a => rN (f a b) (fun z => k ls (.inr (.inl z) :: st) w n c)))))
noncomputable def h_lsh (f : Nat → Nat → Nat) (k : rK) : rK := fun ls st w n c => rP st (fun y st => rP st (fun x st => rI y (fun b => rJ x (fun a => rB (Nat.blt b 64) (rN (f a b) (fun z => k ls (.inr (.inl z) :: st) w n c)) none))))
/-- cell i of the world -/
noncomputable def rWG {β : Type} (w : rWd) (i : Nat) (k : rCC → Option β) : Option β := List.rec (motive := fun _ => Option β) none (fun q _ ih => Prod.rec (fun a x => rB (Nat.beq a i) (k x) ih) q) w
/-- .. is x now -/
noncomputable def rWS {β : Type} (w : rWd) (i : Nat) (x : rCC) (k : rWd → Option β) : Option β := List.rec (motive := fun _ => (rWd → Option β) → Option β) (fun _ => none) (fun q w ih k => Prod.rec (fun a y => rB (Nat.beq a i) (k ((a, x) :: w)) (ih (fun w => k ((a, y) :: w)))) q) w k
/-- the cell of a reference that was made since the base -/
noncomputable def rO {β : Type} (w : rWd) (r : Nat) (k : Nat → rCC → Option β) : Option β := rB (Nat.beq (Nat.mod r 2) 1) (rN (Nat.div r 2) (fun p => rWG w p (fun x => k p x))) none
/-- .. or of one that was there from the start -/
noncomputable def rOF {β : Type} (fo : List rCC) (w : rWd) (r : Nat) (k : rCC → Option β) : Option β := rB (Nat.beq (Nat.mod r 2) 1) (rO w r (fun _ x => k x)) (rB (Nat.beq r 0) none (rN (Nat.pred (Nat.div r 2)) (fun p => rG fo p k)))
noncomputable def rCO {β : Type} (x : rCC) (k : Nat → List rCV → Option β) : Option β := Sum.rec (fun o => Prod.rec (fun a b => k a b) o) (fun _ => none) x
noncomputable def rCA {β : Type} (x : rCC) (k : Nat → Nat → rCV → rMp → Option β) : Option β := Sum.rec (fun _ => none) (fun o => Prod.rec (fun t o => Prod.rec (fun n o => Prod.rec (fun d m => k t n d m) o) o) o) x
noncomputable def h_get (fo : List rCC) (ci j : Nat) (k : rK) : rK := fun ls st w n c => rP st (fun x st => rR x (fun r => rOF fo w r (fun cell => rCO cell (fun ci' fs => rB (Nat.beq ci' ci) (rG fs j (fun v => k ls (v :: st) w n c)) none))))
noncomputable def h_put (ci j : Nat) (ok : rCV → Bool) (k : rK) : rK := fun ls st w n c => rP st (fun v st => rP st (fun x st => rB (ok v) (rR x (fun r => rO w r (fun p cell => rCO cell (fun ci' fs => rB (Nat.beq ci' ci) (rS fs j v (fun fs => rWS w p (.inl (ci, fs)) (fun w => k ls st w n c))) none)))) none))
noncomputable def h_alen (fo : List rCC) (k : rK) : rK := fun ls st w n c => rP st (fun x st => rR x (fun r => rOF fo w r (fun cell => rCA cell (fun _ N _ _ => k ls (.inl N :: st) w n c))))
/-- an element of an array of type t -/
noncomputable def h_ald (fo : List rCC) (ok : Nat → rCV → Bool) (k : rK) : rK := fun ls st w n c => rP st (fun y st => rP st (fun x st => rI y (fun i => rR x (fun r => rOF fo w r (fun cell => rCA cell (fun t' N d m => rB (Nat.blt i N) (rV (rL d m i) (fun v => rB (ok t' v) (k ls (v :: st) w n c) none)) none))))))
noncomputable def h_ast (ok : Nat → rCV → Bool) (k : rK) : rK := fun ls st w n c => rP st (fun v st => rP st (fun y st => rP st (fun x st => rI y (fun i => rR x (fun r => rO w r (fun p cell => rCA cell (fun t' N d m => rB (ok t' v) (rB (Nat.blt i N) (rN (Nat.div i 64) (fun q => rU m q i v (fun m => rWS w p (.inr (t', N, d, m)) (fun w => k ls st w n c)))) none) none)))))))
noncomputable def h_new (ci nf : Nat) (fs : List rCV) (k : rK) : rK := fun ls st w n c => rN (Nat.add c nf) (fun c => rN (Nat.succ (Nat.mul 2 n)) (fun r => rN (Nat.succ n) (fun n2 => k ls (.inr (.inr r) :: st) ((n, .inl (ci, fs)) :: w) n2 c)))
noncomputable def h_newa (t : Nat) (d : rCV) (k : rK) : rK := fun ls st w n c => rP st (fun x st => rI x (fun N => rB (Nat.ble N 60000000) (rN (Nat.add c N) (fun c => rN (Nat.succ (Nat.mul 2 n)) (fun r => rN (Nat.succ n) (fun n2 => k ls (.inr (.inr r) :: st) ((n, .inr (t, N, d, [])) :: w) n2 c)))) none))
noncomputable def rArg {β : Type} (m : Nat) (st : List rCV) (k : List rCV → List rCV → Option β) : Option β := Nat.rec (motive := fun _ => List rCV → List rCV → Option β) (fun as st => k as st) (fun _ ih as st => rP st (fun v st => ih (v :: as) st)) m [] st
noncomputable def rRes {β : Type} (o : Option rOut) (k : Option rCV → rWd → Nat → Nat → Option β) : Option β := Option.rec none (fun o => Prod.rec (fun v o => Prod.rec (fun w o => Prod.rec (fun n c => k v w n c) o) o) o) o
/-- the receiver is of class ci -/
noncomputable def rRecv (fo : List rCC) (ci : Nat) (as : List rCV) (w : rWd) (n : Nat) : Option Unit := rP as (fun v _ => rR v (fun r => rOF fo w r (fun x => rCO x (fun ci' _ => rB (Nat.beq ci' ci) (some ()) none))))
noncomputable def rAny (_ : List rCV) (_ : rWd) (_ : Nat) : Option Unit := some ()
/-- a call: m arguments, the receiver among them -/
noncomputable def h_call (m : Nat) (ok : List rCV → rWd → Nat → Option Unit) (F : rEv) (k : rK) : rK := fun ls st w n c => rArg m st (fun as st => rB (Nat.ble (rSum st) 8) (Option.rec none (fun _ => rRes (F as w n) (fun v w n ms => rN (Nat.add c ms) (fun c => Option.rec (k ls st w n c) (fun v => k ls (v :: st) w n c) v))) (ok as w n)) none)
/-- a text into a row of texts -/
noncomputable def h_astS (fo : List rCC) (k : rK) : rK := fun ls st w n c => rP st (fun v st => rP st (fun y st => rP st (fun x st => Option.rec none (fun _ => rI y (fun i => rR x (fun r => rO w r (fun p cell => rCA cell (fun t' N d m => rB (Nat.beq t' 4) (rB (Nat.blt i N) (rN (Nat.div i 64) (fun q => rU m q i v (fun m => rWS w p (.inr (4, N, d, m)) (fun w => k ls st w n c)))) none) none))))) (rRecv fo 0 [v] w n))))
-- ends of a block
noncomputable def t_no : rBl := fun _ _ _ _ _ _ => none
noncomputable def t_go (b : Nat) : rBl := fun J => J b
noncomputable def t_icmp (f : Nat → Nat → Bool) (b1 b2 : Nat) : rBl := fun J ls st w n c => rP st (fun y st => rP st (fun x st => rI y (fun b => rI x (fun a => rB (f a b) (J b1 ls st w n c) (J b2 ls st w n c)))))
noncomputable def t_if (f : Nat → Bool) (b1 b2 : Nat) : rBl := fun J ls st w n c => rP st (fun x st => rI x (fun a => rB (f a) (J b1 ls st w n c) (J b2 ls st w n c)))
noncomputable def t_nul (b1 b2 : Nat) : rBl := fun J ls st w n c => rP st (fun x st => rR x (fun r => rB (Nat.beq r 0) (J b1 ls st w n c) (rB (Nat.beq (Nat.mod r 2) 1) (J b2 ls st w n c) none)))
noncomputable def t_ret : rBl := fun _ _ st w n c => List.rec (some (none, w, n, c)) (fun _ _ _ => none) st
noncomputable def t_retv (ok : rCV → Bool) : rBl := fun _ _ st w n c => rP st (fun v st => rB (ok v) (List.rec (some (some v, w, n, c)) (fun _ _ _ => none) st) none)
noncomputable def sq (h : rK → rK) (t : rBl) : rBl := fun J => h (t J)
noncomputable def rRun (bs : List rBl) (fuel : Nat) : Nat → rK := Nat.rec (motive := fun _ => Nat → rK) (fun _ _ _ _ _ _ => none) (fun _ ih b ls st w n c => rG bs b (fun t => t ih ls st w n c)) fuel
noncomputable def rEq (a b : Nat) : Bool := Nat.beq (Nat.mod a 4294967296) (Nat.mod b 4294967296)
noncomputable def rNot (b : Bool) : Bool := rB b false true
noncomputable def rLt (a b : Nat) : Bool := Nat.blt (rSg a) (rSg b)
noncomputable def rLe (a b : Nat) : Bool := Nat.ble (rSg a) (rSg b)
noncomputable def isI (v : rCV) : Bool := Sum.rec (fun _ => true) (fun _ => false) v
noncomputable def isJ (v : rCV) : Bool := rLong v
noncomputable def isR (v : rCV) : Bool := Sum.rec (fun _ => false) (fun x => Sum.rec (fun _ => false) (fun _ => true) x) v
noncomputable def isZ (v : rCV) : Bool := Sum.rec (fun a => Nat.ble a 1) (fun _ => false) v
noncomputable def isB (v : rCV) : Bool := Sum.rec (fun a => rB (Nat.ble a 127) true (rB (Nat.ble 4294967168 a) (Nat.blt a 4294967296) false)) (fun _ => false) v
noncomputable def isC (v : rCV) : Bool := Sum.rec (fun a => Nat.ble a 65535) (fun _ => false) v
noncomputable def isT0 (t : Nat) : Bool := Nat.beq t 0
noncomputable def isT1 (t : Nat) : Bool := Nat.beq t 1
noncomputable def isT23 (t : Nat) : Bool := rB (Nat.beq t 2) true (Nat.beq t 3)
noncomputable def isTr (t : Nat) : Bool := Nat.ble 4 t
noncomputable def okI (t : Nat) (v : rCV) : Bool := rB (Nat.beq t 0) (isI v) false
noncomputable def okJ (t : Nat) (v : rCV) : Bool := rB (Nat.beq t 1) (isJ v) false
noncomputable def okB (t : Nat) (v : rCV) : Bool := rB (Nat.beq t 2) (isB v) (rB (Nat.beq t 3) (isZ v) false)
noncomputable def okA (t : Nat) (v : rCV) : Bool := rB (Nat.ble 4 t) (isR v) false
noncomputable def okS (t : Nat) (v : rCV) : Bool := rB (Nat.beq t 4) (isR v) false
noncomputable def rDok (a b : Nat) : Bool := rB (Nat.beq b 0) false (rB (Nat.blt a 2147483648) (Nat.blt b 2147483648) false)
noncomputable def rShlL (a b : Nat) : Nat := Nat.mod (Nat.mul a (Nat.pow 2 (Nat.mod b 64))) 18446744073709551616
/-- the arguments in their places, of nL at most -/
noncomputable def rIni {β : Type} (nL : Nat) (as : List rCV) (k : rLs → Option β) : Option β := List.rec (motive := fun _ => Nat → (rLs → Option β) → Option β) (fun pos k => rB (Nat.ble pos nL) (k []) none) (fun v _ ih pos k => rB (rLong v) (ih (Nat.succ (Nat.succ pos)) (fun l => k ((pos, v) :: l))) (ih (Nat.succ pos) (fun l => k ((pos, v) :: l)))) as 0 k
noncomputable def h_oinit (k : rK) : rK := fun ls st w n c => rP st (fun x st => rR x (fun r => rB (Nat.beq (Nat.mod r 2) 1) (rB (Nat.ble (rSum st) 8) (k ls st w n c) none) none))
noncomputable def okT (t : Nat) (v : rCV) : Bool := rB (Nat.beq t 0) (isI v) (rB (Nat.beq t 1) (isJ v) (okB t v))
/-- the values of m's places from sp on, N of them, of type t, laid into m' from dp on -/
noncomputable def rCp {β : Type} (t N sp dp : Nat) (d : rCV) (m m' : rMp) (k : rMp → Option β) : Option β := Nat.rec (motive := fun _ => rMp → Option β) k (fun j ih m' => rN (Nat.add dp j) (fun i => rN (Nat.div i 64) (fun q => rV (rL d m (Nat.add sp j)) (fun v => rB (okT t v) (rU m' q i v ih) none)))) N m'
noncomputable def h_acopy (fo : List rCC) (k : rK) : rK := fun ls st w n c => rP st (fun x5 st => rP st (fun x4 st => rP st (fun x3 st => rP st (fun x2 st => rP st (fun x1 st => rB (Nat.ble (rSum st) 8) (rI x5 (fun N => rI x4 (fun dp => rI x2 (fun sp => rR x3 (fun r3 => rR x1 (fun r1 => rOF fo w r1 (fun c1 => rCA c1 (fun t1 N1 d1 m1 => rO w r3 (fun p c3 => rCA c3 (fun t3 N3 d3 m3 => rB (Nat.beq t1 t3) (rB (Nat.ble t1 3) (rB (Nat.ble (Nat.add sp N) N1) (rB (Nat.ble (Nat.add dp N) N3) (rCp t1 N sp dp d1 m1 m3 (fun m => rWS w p (.inr (t3, N3, d3, m)) (fun w => k ls st w n c))) none) none) none) none)))))))))) none)))))
/-- String[n] -/
noncomputable def h_anewa (k : rK) : rK := fun ls st w n c => rP st (fun x st => rI x (fun N => rB (Nat.ble N 60000000) (rN (Nat.add c N) (fun c => rN (Nat.succ (Nat.mul 2 n)) (fun r => rN (Nat.succ n) (fun n2 => k ls (.inr (.inr r) :: st) ((n, .inr (4, N, .inr (.inr 0), [])) :: w) n2 c)))) none))
/-- T[N][M]: of the cells that come nothing is known -/
noncomputable def h_multi (k : rK) : rK := fun ls st w n c => rP st (fun y st => rP st (fun x st => rI x (fun N => rI y (fun M => rB (Nat.ble N 60000000) (rB (Nat.ble M 60000000) (rN (Nat.add c (Nat.add N (Nat.mul N M))) (fun c => rN (Nat.succ (Nat.mul 2 n)) (fun r => rN (Nat.add n (Nat.succ N)) (fun n2 => k ls (.inr (.inr r) :: st) w n2 c)))) none) none))))
/-- java.util.Arrays.fill(int[], int) -/
noncomputable def ev_J7_fill_53178 : rEv := fun as w n => rP as (fun x as => rP as (fun v as => List.rec (rI v (fun a => rR x (fun r => rO w r (fun p cell => rCA cell (fun t N _ _ => rB (Nat.beq t 0) (rWS w p (.inr (0, N, .inl a, [])) (fun w => some (none, w, n, 0))) none))))) (fun _ _ _ => none) as))
noncomputable def okSh (_ b : Nat) : Bool := Nat.blt b 32
noncomputable def okShr (a b : Nat) : Bool := rB (Nat.blt a 2147483648) (Nat.blt b 32) false
end
section
/-! THE RUNNER IS SOUND: what it computes the machine does. -/
theorem rN_eq {α : Type} (n : Nat) (k : Nat → α) : rN n k = k n := by cases n <;> rfl
theorem rB_some {α : Type} {b : Bool} {x y : Option α} {o : α} (h : rB b x y = some o) : (b = true ∧ x = some o) ∨ (b = false ∧ y = some o) := by
  cases b
  · exact Or.inr ⟨rfl, h⟩
  · exact Or.inl ⟨rfl, h⟩
theorem rB_yes {α : Type} {b : Bool} {x : Option α} {o : α} (h : rB b x none = some o) : b = true ∧ x = some o := by
  rcases rB_some h with q | q
  · exact q
  · cases q.2
theorem rB_no {α : Type} {b : Bool} {y : Option α} {o : α} (h : rB b none y = some o) : b = false ∧ y = some o := by
  rcases rB_some h with q | q
  · cases q.2
  · exact q
theorem rG_some {α β : Type} {k : α → Option β} {o : β} : ∀ (l : List α) (i : Nat), rG l i k = some o → ∃ x, l[i]? = some x ∧ k x = some o
  | [], i, h => by cases h
  | x :: l, 0, h => ⟨x, rfl, h⟩
  | x :: l, i + 1, h => by
    obtain ⟨y, h1, h2⟩ := rG_some l i h
    exact ⟨y, by rw [List.getElem?_cons_succ]; exact h1, h2⟩
theorem rS_some {α β : Type} {v : α} {o : β} : ∀ (l : List α) (i : Nat) (k : List α → Option β), rS l i v k = some o → i < l.length ∧ k (l.set i v) = some o
  | [], i, k, h => by cases h
  | x :: l, 0, k, h => ⟨Nat.succ_pos _, h⟩
  | x :: l, i + 1, k, h => by
    obtain ⟨h1, h2⟩ := rS_some l i (fun ys => k (x :: ys)) h
    exact ⟨Nat.succ_lt_succ h1, h2⟩
theorem rA_some {β : Type} {i : Nat} {k : rCV → Option β} {o : β} : ∀ (l : rLs), rA l i k = some o → ∃ v, (i, v) ∈ l ∧ k v = some o
  | [], h => by cases h
  | (a, v) :: l, h => by
    have h' : rB (Nat.beq a i) (k v) (rA l i k) = some o := h
    rcases rB_some h' with ⟨q, r⟩ | ⟨-, r⟩
    · have e : a = i := Nat.eq_of_beq_eq_true q
      subst e
      exact ⟨v, List.mem_cons_self, r⟩
    · obtain ⟨v2, h1, h2⟩ := rA_some l r
      exact ⟨v2, List.mem_cons_of_mem _ h1, h2⟩
theorem rF_eq {β : Type} {p : Nat × rCV → Bool} : ∀ (l : rLs) (k : rLs → Option β), rF p l k = k (l.filter p)
  | [], k => rfl
  | x :: l, k => by
    show rB (p x) (rF p l (fun ys => k (x :: ys))) (rF p l k) = _
    cases e : p x
    · rw [List.filter_cons_of_neg (by simp [e])]
      exact rF_eq l k
    · rw [List.filter_cons_of_pos (by simp [e])]
      exact rF_eq l _
/-- what the world tells of cell i -/
def wGet (i : Nat) : rWd → Option rCC
  | [] => none
  | (a, x) :: w => if a = i then some x else wGet i w
def wSet (i : Nat) (x : rCC) : rWd → rWd
  | [] => []
  | (a, y) :: w => if a = i then (a, x) :: w else (a, y) :: wSet i x w
theorem beq_t {a b : Nat} (h : a = b) : Nat.beq a b = true := by subst h; exact Nat.beq_refl a
theorem beq_f {a b : Nat} (h : ¬ a = b) : Nat.beq a b = false := by
  cases e : Nat.beq a b
  · rfl
  · exact absurd (Nat.eq_of_beq_eq_true e) h
theorem rWG_some {β : Type} {i : Nat} {k : rCC → Option β} {o : β} : ∀ (w : rWd), rWG w i k = some o → ∃ x, wGet i w = some x ∧ k x = some o
  | [], h => by cases h
  | (a, x) :: w, h => by
    have h' : rB (Nat.beq a i) (k x) (rWG w i k) = some o := h
    by_cases e : a = i
    · rw [beq_t e] at h'
      exact ⟨x, by show (if a = i then some x else wGet i w) = _; rw [if_pos e], h'⟩
    · rw [beq_f e] at h'
      obtain ⟨y, h1, h2⟩ := rWG_some w h'
      exact ⟨y, by show (if a = i then some x else wGet i w) = _; rw [if_neg e]; exact h1, h2⟩
theorem rWS_some {β : Type} {i : Nat} {x : rCC} {o : β} : ∀ (w : rWd) (k : rWd → Option β), rWS w i x k = some o → k (wSet i x w) = some o
  | [], k, h => by cases h
  | (a, y) :: w, k, h => by
    have h' : rB (Nat.beq a i) (k ((a, x) :: w)) (rWS w i x (fun w => k ((a, y) :: w))) = some o := h
    by_cases e : a = i
    · rw [beq_t e] at h'
      show k (if a = i then (a, x) :: w else (a, y) :: wSet i x w) = _
      rw [if_pos e]; exact h'
    · rw [beq_f e] at h'
      show k (if a = i then (a, x) :: w else (a, y) :: wSet i x w) = _
      rw [if_neg e]
      exact rWS_some w _ h'
theorem wGet_set {i j : Nat} {x : rCC} : ∀ (w : rWd) {y : rCC}, wGet j (wSet i x w) = some y → (j = i ∧ y = x) ∨ (j ≠ i ∧ wGet j w = some y)
  | [], y, h => by cases h
  | (a, z) :: w, y, h => by
    have h' : wGet j (if a = i then (a, x) :: w else (a, z) :: wSet i x w) = some y := h
    show _ ∨ (_ ∧ (if a = j then some z else wGet j w) = some y)
    by_cases e : a = i
    · rw [if_pos e] at h'
      have h2 : (if a = j then some x else wGet j w) = some y := h'
      by_cases e2 : a = j
      · rw [if_pos e2] at h2
        cases h2
        exact Or.inl ⟨e2.symm.trans e, rfl⟩
      · rw [if_neg e2] at h2
        exact Or.inr ⟨fun q => e2 (e.trans q.symm), by rw [if_neg e2]; exact h2⟩
    · rw [if_neg e] at h'
      have h2 : (if a = j then some z else wGet j (wSet i x w)) = some y := h'
      by_cases e2 : a = j
      · rw [if_pos e2] at h2 ⊢
        exact Or.inr ⟨fun q => e (e2.trans q), h2⟩
      · rw [if_neg e2] at h2 ⊢
        exact wGet_set w h2
theorem rI_some {β : Type} {v : rCV} {k : Nat → Option β} {o : β} (h : rI v k = some o) : ∃ a, v = .inl a ∧ k a = some o := by
  rcases v with a | a | a
  · exact ⟨a, rfl, h⟩
  · cases h
  · cases h
theorem rJ_some {β : Type} {v : rCV} {k : Nat → Option β} {o : β} (h : rJ v k = some o) : ∃ a, v = .inr (.inl a) ∧ k a = some o := by
  rcases v with a | a | a
  · cases h
  · exact ⟨a, rfl, h⟩
  · cases h
theorem rR_some {β : Type} {v : rCV} {k : Nat → Option β} {o : β} (h : rR v k = some o) : ∃ a, v = .inr (.inr a) ∧ k a = some o := by
  rcases v with a | a | a
  · cases h
  · cases h
  · exact ⟨a, rfl, h⟩
theorem rV_eq {β : Type} (v : rCV) (k : rCV → Option β) : rV v k = k v := by
  rcases v with a | a | a <;> rfl
theorem rP_some {β : Type} {st : List rCV} {k : rCV → List rCV → Option β} {o : β} (h : rP st k = some o) : ∃ v st', st = v :: st' ∧ k v st' = some o := by
  cases st with
  | nil => cases h
  | cons v st => exact ⟨v, st, rfl, h⟩
theorem rCO_some {β : Type} {x : rCC} {k : Nat → List rCV → Option β} {o : β} (h : rCO x k = some o) : ∃ ci fs, x = .inl (ci, fs) ∧ k ci fs = some o := by
  rcases x with ⟨a, b⟩ | x
  · exact ⟨a, b, rfl, h⟩
  · cases h
theorem rCA_some {β : Type} {x : rCC} {k : Nat → Nat → rCV → rMp → Option β} {o : β} (h : rCA x k = some o) : ∃ t N d m, x = .inr (t, N, d, m) ∧ k t N d m = some o := by
  rcases x with x | ⟨t, N, d, m⟩
  · cases h
  · exact ⟨t, N, d, m, rfl, h⟩
theorem isI_e {v : rCV} (h : isI v = true) : ∃ a, v = .inl a := by
  rcases v with a | a | a
  · exact ⟨a, rfl⟩
  · cases h
  · cases h
theorem isJ_e {v : rCV} (h : isJ v = true) : ∃ a, v = .inr (.inl a) := by
  rcases v with a | a | a
  · cases h
  · exact ⟨a, rfl⟩
  · cases h
theorem isR_e {v : rCV} (h : isR v = true) : ∃ a, v = .inr (.inr a) := by
  rcases v with a | a | a
  · cases h
  · cases h
  · exact ⟨a, rfl⟩
-- the judgement, for any reading V of the runner's states
abbrev rPr : Type := rOut → Nat → rLs → List rCV → rWd → Nat → Nat → Prop
def HS (V : rPr) (pc pc' : Nat) (h : rK → rK) : Prop := ∀ (k : rK) (ls : rLs) (st : List rCV) (w : rWd) (n c : Nat) (o : rOut), h k ls st w n c = some o → ∃ ls' st' w' n' c', k ls' st' w' n' c' = some o ∧ n ≤ n' ∧ c ≤ c' ∧ (n' ≤ o.2.2.1 → c' ≤ o.2.2.2 → V o pc' ls' st' w' n' c' → V o pc ls st w n c)
def BG (V : rPr) (o : rOut) (pc : Nat) (ls : rLs) (st : List rCV) (w : rWd) (n c : Nat) : Prop := (n ≤ o.2.2.1 ∧ c ≤ o.2.2.2) ∧ V o pc ls st w n c
def BS (V : rPr) (pcs : List Nat) (pc : Nat) (t : rBl) : Prop := ∀ (J : Nat → rK), (∀ b pb, pcs[b]? = some pb → ∀ ls st w n c o, J b ls st w n c = some o → BG V o pb ls st w n c) → ∀ ls st w n c o, t J ls st w n c = some o → BG V o pc ls st w n c
theorem HS.same {V : rPr} {pc pc' : Nat} {h : rK → rK} (H : ∀ (k : rK) (ls : rLs) (st : List rCV) (w : rWd) (n c : Nat) (o : rOut), h k ls st w n c = some o → ∃ ls' st', k ls' st' w n c = some o ∧ (V o pc' ls' st' w n c → V o pc ls st w n c)) : HS V pc pc' h := by
  intro k ls st w n c o e
  obtain ⟨ls', st', e1, h1⟩ := H k ls st w n c o e
  exact ⟨ls', st', w, n, c, e1, Nat.le_refl _, Nat.le_refl _, fun _ _ => h1⟩
theorem BS.sq {V : rPr} {pcs : List Nat} {pc pc' : Nat} {h : rK → rK} {t : rBl} (hh : HS V pc pc' h) (ht : BS V pcs pc' t) : BS V pcs pc (sq h t) := by
  intro J hJ ls st w n c o e
  obtain ⟨ls', st', w', n', c', e2, h1, h2, hV⟩ := hh (t J) ls st w n c o e
  obtain ⟨⟨a1, a2⟩, hv⟩ := ht J hJ ls' st' w' n' c' o e2
  exact ⟨⟨Nat.le_trans h1 a1, Nat.le_trans h2 a2⟩, hV a1 a2 hv⟩
theorem BS.go {V : rPr} {pcs : List Nat} {pc b : Nat} (hb : pcs[b]? = some pc) : BS V pcs pc (t_go b) := fun J hJ ls st w n c o e => hJ b pc hb ls st w n c o e
theorem BS.no {V : rPr} {pcs : List Nat} {pc : Nat} : BS V pcs pc t_no := fun J hJ ls st w n c o e => by cases e
theorem BS.via {V : rPr} {pcs : List Nat} {pc pc' : Nat} {t : rBl} (ht : BS V pcs pc' t) (h : ∀ o ls st w n c, V o pc' ls st w n c → V o pc ls st w n c) : BS V pcs pc t := by
  intro J hJ ls st w n c o e
  obtain ⟨a, b⟩ := ht J hJ ls st w n c o e
  exact ⟨a, h _ _ _ _ _ _ b⟩
def AllB (V : rPr) (pcs : List Nat) : List Nat → List rBl → Prop
  | pb :: ps, t :: ts => BS V pcs pb t ∧ AllB V pcs ps ts
  | [], [] => True
  | _, _ => False
theorem AllB.n {V : rPr} {pcs : List Nat} : AllB V pcs [] [] := trivial
theorem AllB.c {V : rPr} {pcs : List Nat} {pb : Nat} {ps : List Nat} {t : rBl} {ts : List rBl} (h1 : BS V pcs pb t) (h2 : AllB V pcs ps ts) : AllB V pcs (pb :: ps) (t :: ts) := ⟨h1, h2⟩
theorem AllB.at {V : rPr} {pcs : List Nat} : ∀ (ps : List Nat) (ts : List rBl), AllB V pcs ps ts → ∀ (b : Nat) (t : rBl), ts[b]? = some t → ∃ pb : Nat, ps[b]? = some pb ∧ BS V pcs pb t
  | [], [], _, b, t, h => by simp at h
  | [], _ :: _, h, _, _, _ => h.elim
  | _ :: _, [], h, _, _, _ => h.elim
  | pb :: ps, t0 :: ts, h, 0, t, e => by
    rw [List.getElem?_cons_zero] at e
    cases e
    exact ⟨pb, rfl, h.1⟩
  | pb :: ps, t0 :: ts, h, b + 1, t, e => by
    rw [List.getElem?_cons_succ] at e
    obtain ⟨p2, h1, h2⟩ := AllB.at ps ts h.2 b t e
    exact ⟨p2, by rw [List.getElem?_cons_succ]; exact h1, h2⟩
theorem run_ok {V : rPr} {pcs : List Nat} {bs : List rBl} (h : AllB V pcs pcs bs) : ∀ fuel b pb, pcs[b]? = some pb → ∀ ls st w n c o, rRun bs fuel b ls st w n c = some o → BG V o pb ls st w n c := by
  intro fuel
  induction fuel with
  | zero => intro b pb _ ls st w n c o e; cases e
  | succ f ih =>
    intro b pb hb ls st w n c o e
    obtain ⟨t, h1, h2⟩ := rG_some (k := fun t : rBl => t (rRun bs f) ls st w n c) bs b e
    obtain ⟨p2, h3, h4⟩ := h.at _ _ b t h1
    have e2 : p2 = pb := Option.some.inj (h3.symm.trans hb)
    subst e2
    exact h4 (rRun bs f) ih ls st w n c o h2
end
section
/-! THE RUNNER'S NUMBERS -/
theorem r_beq (a b : Nat) : (a == b) = Nat.beq a b := by
  rw [Bool.eq_iff_iff]
  simp [Nat.beq_eq]
theorem rI_mod (n : Nat) : nI (n % 4294967296) = nI n := by
  apply Int32.toBitVec_inj.mp
  apply BitVec.eq_of_toNat_eq
  show (BitVec.ofNat 32 _).toNat = (BitVec.ofNat 32 _).toNat
  rw [BitVec.toNat_ofNat, BitVec.toNat_ofNat, Nat.mod_mod]
theorem rJ_mod (n : Nat) : lN (n % 18446744073709551616) = lN n := by
  apply Int64.toBitVec_inj.mp
  apply BitVec.eq_of_toNat_eq
  show (BitVec.ofNat 64 _).toNat = (BitVec.ofNat 64 _).toNat
  rw [BitVec.toNat_ofNat, BitVec.toNat_ofNat, Nat.mod_mod]
theorem n_add (a b : Nat) : nI a + nI b = nI (rAdd a b) := (nI_add a b).trans (rI_mod (a + b)).symm
theorem n_neg (a : Nat) : -nI a = nI (rNeg a) := by
  have h : nI a + nI (rNeg a) = 0 := by
    show nI a + nI ((4294967296 - a % 4294967296) % 4294967296) = 0
    rw [nI_add, ← rI_mod, show (a + (4294967296 - a % 4294967296) % 4294967296) % 4294967296 = 0 by omega]
    rfl
  have h2 : -nI a + (nI a + nI (rNeg a)) = -nI a + 0 := by rw [h]
  rw [← Int32.add_assoc, Int32.add_left_neg, Int32.zero_add, Int32.add_zero] at h2
  exact h2.symm
theorem n_sub (a b : Nat) : nI a - nI b = nI (rSub a b) := by
  rw [Int32.sub_eq_add_neg, n_neg, n_add]
  rfl
theorem n_mul (a b : Nat) : nI a * nI b = nI (rMul a b) := (pk_mul a b).trans (rI_mod (a * b)).symm
theorem n_land (a b : Nat) : nI a &&& nI b = nI (Nat.land a b) := by
  apply Int32.toBitVec_inj.mp
  apply BitVec.eq_of_toNat_eq
  rw [Int32.toBitVec_and, BitVec.toNat_and]
  show (BitVec.ofNat 32 _).toNat &&& (BitVec.ofNat 32 _).toNat = (BitVec.ofNat 32 (a &&& b)).toNat
  rw [BitVec.toNat_ofNat, BitVec.toNat_ofNat, BitVec.toNat_ofNat, ← Nat.and_mod_two_pow]
theorem n_lor (a b : Nat) : nI a ||| nI b = nI (Nat.lor a b) := by
  apply Int32.toBitVec_inj.mp
  apply BitVec.eq_of_toNat_eq
  rw [Int32.toBitVec_or, BitVec.toNat_or]
  show (BitVec.ofNat 32 _).toNat ||| (BitVec.ofNat 32 _).toNat = (BitVec.ofNat 32 (a ||| b)).toNat
  rw [BitVec.toNat_ofNat, BitVec.toNat_ofNat, BitVec.toNat_ofNat, ← Nat.or_mod_two_pow]
theorem n_lorL (a b : Nat) : lN a ||| lN b = lN (Nat.lor a b) := by
  apply Int64.toBitVec_inj.mp
  apply BitVec.eq_of_toNat_eq
  rw [Int64.toBitVec_or, BitVec.toNat_or]
  show (BitVec.ofNat 64 _).toNat ||| (BitVec.ofNat 64 _).toNat = (BitVec.ofNat 64 (a ||| b)).toNat
  rw [BitVec.toNat_ofNat, BitVec.toNat_ofNat, BitVec.toNat_ofNat, ← Nat.or_mod_two_pow]
theorem n_sh : ∀ b, b < 32 → ((nI b &&& 31).toBitVec.smod 32).toNat = b := by decide +kernel
theorem n_shL : ∀ b, b < 64 → (((nI b).toInt64 &&& 63).toBitVec.smod 64).toNat = b := by decide +kernel
theorem n_shl {a b : Nat} (hb : b < 32) : nI a <<< (nI b &&& 31) = nI (rShl a b) := by
  apply Int32.toBitVec_inj.mp
  apply BitVec.eq_of_toNat_eq
  rw [pk_shl _ _ b (n_sh b hb)]
  show (BitVec.ofNat 32 a).toNat * 2 ^ b % 2 ^ 32 = (BitVec.ofNat 32 ((a * 2 ^ (b % 32)) % 4294967296)).toNat
  rw [BitVec.toNat_ofNat, BitVec.toNat_ofNat, Nat.mod_eq_of_lt hb, Nat.mod_mod, Nat.mod_mul_mod]
theorem n_shlL {a b : Nat} (hb : b < 64) : lN a <<< ((nI b).toInt64 &&& 63) = lN (rShlL a b) := by
  apply Int64.toBitVec_inj.mp
  apply BitVec.eq_of_toNat_eq
  show ((lN a).toBitVec <<< (((nI b).toInt64 &&& 63).toBitVec.smod 64).toNat).toNat = (BitVec.ofNat 64 ((a * 2 ^ (b % 64)) % 18446744073709551616)).toNat
  rw [n_shL b hb, BitVec.toNat_shiftLeft, Nat.shiftLeft_eq, BitVec.toNat_ofNat]
  show (BitVec.ofNat 64 a).toNat * 2 ^ b % 2 ^ 64 = _
  rw [BitVec.toNat_ofNat, Nat.mod_eq_of_lt hb, Nat.mod_mod, Nat.mod_mul_mod]
theorem n_shr {a b : Nat} (ha : a < 2147483648) (hb : b < 32) : nI a >>> (nI b &&& 31) = nI (rShr a b) := by
  rw [pk_shrN ha _ b (n_sh b hb)]
  show _ = nI (a / 2 ^ (b % 32))
  rw [Nat.mod_eq_of_lt hb]
theorem n_toInt (a : Nat) : (nI a).toInt + 2147483648 = (rSg a : Nat) := by
  show (Int32.ofNat a).toInt + 2147483648 = (((a + 2147483648) % 4294967296 : Nat) : Int)
  rw [Int32.toInt_ofNat', show Int32.size = 4294967296 from rfl]
  rw [Int.bmod_def]
  split <;> omega
theorem n_lt (a b : Nat) : nI a < nI b ↔ rLt a b = true := by
  show _ ↔ Nat.blt (rSg a) (rSg b) = true
  rw [Int32.lt_iff_toInt_lt, Nat.blt_eq]
  have h1 := n_toInt a
  have h2 := n_toInt b
  omega
theorem n_le (a b : Nat) : nI a ≤ nI b ↔ rLe a b = true := by
  show _ ↔ Nat.ble (rSg a) (rSg b) = true
  rw [Int32.le_iff_toInt_le, Nat.ble_eq]
  have h1 := n_toInt a
  have h2 := n_toInt b
  omega
theorem n_eq (a b : Nat) : nI a = nI b ↔ rEq a b = true := by
  show _ ↔ Nat.beq (a % 4294967296) (b % 4294967296) = true
  rw [Nat.beq_eq]
  constructor
  · intro h
    have h2 : (BitVec.ofNat 32 a).toNat = (BitVec.ofNat 32 b).toNat := congrArg (fun x : Int32 => x.toBitVec.toNat) h
    rw [BitVec.toNat_ofNat, BitVec.toNat_ofNat] at h2
    exact h2
  · intro h
    rw [← rI_mod a, ← rI_mod b, h]
theorem n_i2b : ∀ a, a < 128 → (nI a).toInt8.toInt32 = nI a := by decide +kernel
theorem n_i2c {a : Nat} (h : a ≤ 65535) : ((nI a).toUInt32 % 65536).toInt32 = nI a := by
  rw [pk_char, pk_tn (by omega), Nat.mod_eq_of_lt (by omega)]
theorem n_bb : ∀ a, a < 128 → narrow .byte (.int (nI a)) = .int (nI a) := by decide +kernel
theorem n_bb2 : ∀ a, a < 128 → narrow .byte (.int (nI (a + 4294967168))) = .int (nI (a + 4294967168)) := by decide +kernel
theorem rNot_e {b : Bool} : rNot b = true ↔ ¬ b = true := by cases b <;> simp [rNot, rB]
theorem rB_and {x y : Bool} (h : rB x y false = true) : x = true ∧ y = true := by
  cases x
  · cases h
  · exact ⟨rfl, h⟩
theorem n_ne (a b : Nat) : ¬ nI a = nI b ↔ rNot (rEq a b) = true := by rw [rNot_e, n_eq]
theorem n_ge (a b : Nat) : nI b ≤ nI a ↔ rNot (rLt a b) = true := by
  rw [rNot_e, ← n_lt, Int32.le_iff_toInt_le, Int32.lt_iff_toInt_lt]
  omega
theorem n_gt (a b : Nat) : nI b < nI a ↔ rNot (rLe a b) = true := by
  rw [rNot_e, ← n_le, Int32.le_iff_toInt_le, Int32.lt_iff_toInt_lt]
  omega
theorem rDok_e {a b : Nat} (h : rDok a b = true) : 0 < b ∧ a < 2 ^ 31 ∧ b < 2 ^ 31 := by
  have h' : rB (Nat.beq b 0) false (rB (Nat.blt a 2147483648) (Nat.blt b 2147483648) false) = true := h
  cases e : Nat.beq b 0
  · rw [e] at h'
    obtain ⟨h1, h2⟩ := rB_and h'
    refine ⟨?_, Nat.blt_eq.mp h1, Nat.blt_eq.mp h2⟩
    rcases Nat.eq_zero_or_pos b with q | q
    · subst q; cases e
    · exact q
  · rw [e] at h'; cases h'
end
section
/-! THE RUNNER'S READING: G: classes' numbers and slots; the arrays' classes by their types; the base; what is there from the start; the heap at the base. -/
abbrev rGm : Type := va_G × ((Nat → ClassId) × (Nat × ((Nat → Value) × Heap)))
def rTy (t : Nat) : FieldType := match t with
  | 0 => .int
  | 1 => .long
  | 2 => .byte
  | 3 => .boolean
  | 4 => .object "java/lang/String"
  | 5 => .array .int
  | _ => .array .byte
def rv (G : rGm) (v : rCV) : Value := match v with
  | .inl a => .int (nI a)
  | .inr (.inl a) => .long (lN a)
  | .inr (.inr r) => if r = 0 then .null else if r % 2 = 1 then .ref (G.2.2.1 + r / 2) else G.2.2.2.1 (r / 2 - 1)
def rLv (G : rGm) (q : Nat × rCV) : Nat × Value := (q.1, rv G q.2)
def rTys (G : rGm) : List (ClassId × FieldType) := (List.range 7).map (fun t => (G.2.1 t, rTy t))
/-- a cell at address a -/
def rCell (cl : List vw_C) (G : rGm) (x : rCC) (H : Heap) (a : Nat) : Prop := match x with
  | .inl (ci, fs) => ∃ r : vw_C, cl[ci]? = some r ∧ t_OB a (G.1.1 ci) r.2.2 (G.1.2 ci) H (vp_V (fs.map (rv G)))
  | .inr (t, N, d, m) => t < 7 ∧ N ≤ 60000000 ∧ H[a]? = some (arrV (G.2.1 t) N (fun j => rv G (rL d m j)))
def rPic (cl : List vw_C) (G : rGm) (w : rWd) (n : Nat) (H : Heap) : Prop := H.size = G.2.2.1 + n ∧ (∀ q : Nat, q < G.2.2.1 → H[q]? = G.2.2.2.2[q]?) ∧ ∀ (i : Nat) (x : rCC), wGet i w = some x → i < n ∧ rCell cl G x H (G.2.2.1 + i)
/-- a thing that is there from the start -/
def rFx (cl : List vw_C) (G : rGm) (i : Nat) (x : rCC) (U : State) : Prop := match x with
  | .inl (ci, fs) => ∃ (a : Nat) (cell : Cell) (r : vw_C), G.2.2.2.1 i = .ref a ∧ a < G.2.2.1 ∧ G.2.2.2.2[a]? = some cell ∧ cl[ci]? = some r ∧ cell.cls = G.1.1 ci ∧ cell.vm = .none ∧ ∀ (j : Nat) (v : rCV), fs[j]? = some v → cell.slots[G.1.2 ci j]? = some (rv G v)
  | .inr (t, N, d, m) => ∃ a : Nat, G.2.2.2.1 i = .ref a ∧ a < G.2.2.1 ∧ t < 4 ∧ N ≤ 60000000 ∧ va_T (rTy t) a N (fun j => rv G (rL d m j)) (fun q => G.2.2.1 ≤ q) U G.2.2.2.2
/-- what the tables and the heap below the base say, at any time -/
def rKK (cl : List vw_C) (fo : List rCC) (zs : List (String × String × String × rCV)) (rs : List (String × Nat × String × Nat)) (ns : List Cond) (G : rGm) (U : State) : Prop :=
  va_K G.1 cl (rTys G) U ∧ (G.2.2.2.2.size = G.2.2.1 ∧ ∀ w ∈ ns, va_Nw w U ∧ ∀ s1 s2 : State, s1.WarmedH s2.vm → va_Nw w s1 → va_Nw w s2) ∧ (∀ i : Nat, G.2.2.2.1 i = .null ∨ ∃ a, G.2.2.2.1 i = .ref a) ∧
  (∀ q ∈ zs, va_Z q.1 q.2.1 q.2.2.1 (rv G q.2.2.2) (fun a => G.2.2.1 ≤ a) U G.2.2.2.2) ∧
  (∀ q ∈ rs, ∃ a, G.2.2.2.1 q.2.2.2 = .ref a ∧ vk_R q.1 q.2.1 q.2.2.1 a U) ∧
  ∀ (i : Nat) (x : rCC), fo[i]? = some x → rFx cl G i x U
/-- a method's end -/
def rQ (cl : List vw_C) (fo : List rCC) (zs : List (String × String × String × rCV)) (rs : List (String × Nat × String × Nat)) (ns : List Cond) (G : rGm) (o : rOut) : Array Value → State → Outcome → State → Prop := fun _ _ oc t => oc = .returned (o.1.map (rv G)) ∧ rPic cl G o.2.1 o.2.2.1 t.heap ∧ rKK cl fo zs rs ns G t
theorem rv_r (G : rGm) (h : ∀ i : Nat, G.2.2.2.1 i = .null ∨ ∃ a, G.2.2.2.1 i = .ref a) (r : Nat) : rv G (.inr (.inr r)) = .null ∨ ∃ a, rv G (.inr (.inr r)) = .ref a := by
  show (if r = 0 then Value.null else if r % 2 = 1 then .ref (G.2.2.1 + r / 2) else G.2.2.2.1 (r / 2 - 1)) = .null ∨ ∃ a, (if r = 0 then Value.null else if r % 2 = 1 then .ref (G.2.2.1 + r / 2) else G.2.2.2.1 (r / 2 - 1)) = .ref a
  by_cases h0 : r = 0
  · rw [if_pos h0]; exact Or.inl rfl
  · rw [if_neg h0]
    by_cases h1 : r % 2 = 1
    · rw [if_pos h1]; exact Or.inr ⟨_, rfl⟩
    · rw [if_neg h1]; exact h _
theorem rv_own (G : rGm) {r : Nat} (h : r % 2 = 1) : rv G (.inr (.inr r)) = .ref (G.2.2.1 + r / 2) := by
  show (if r = 0 then Value.null else if r % 2 = 1 then .ref (G.2.2.1 + r / 2) else G.2.2.2.1 (r / 2 - 1)) = _
  rw [if_neg (by omega), if_pos h]
theorem rv_ext (G : rGm) {r : Nat} (h : ¬ r % 2 = 1) (h0 : ¬ r = 0) : rv G (.inr (.inr r)) = G.2.2.2.1 (r / 2 - 1) := by
  show (if r = 0 then Value.null else if r % 2 = 1 then .ref (G.2.2.1 + r / 2) else G.2.2.2.1 (r / 2 - 1)) = _
  rw [if_neg h0, if_neg h]
theorem rv_cat1 (G : rGm) (h : ∀ i : Nat, G.2.2.2.1 i = .null ∨ ∃ a, G.2.2.2.1 i = .ref a) {v : rCV} (hv : rLong v = false) : (rv G v).category = 1 := by
  rcases v with a | a | a
  · rfl
  · cases hv
  · rcases rv_r G h a with e | ⟨x, e⟩ <;> rw [e] <;> rfl
theorem rv_cat2 (G : rGm) {v : rCV} (hv : rLong v = true) : (rv G v).category = 2 := by
  rcases v with a | a | a
  · cases hv
  · rfl
  · cases hv
theorem rv_cat (G : rGm) (h : ∀ i : Nat, G.2.2.2.1 i = .null ∨ ∃ a, G.2.2.2.1 i = .ref a) (v : rCV) : (rv G v).category = rCat v := by
  cases e : rLong v
  · rw [rv_cat1 G h e]; show 1 = rB (rLong v) 2 1; rw [e]; rfl
  · rw [rv_cat2 G e]; show 2 = rB (rLong v) 2 1; rw [e]; rfl
theorem rKeep1_eq (G : rGm) (h : ∀ i : Nat, G.2.2.2.1 i = .null ∨ ∃ a, G.2.2.2.1 i = .ref a) (i : Nat) (ls : rLs) : (ls.filter (rKeep1 i)).map (rLv G) = (ls.map (rLv G)).filter (fun q => !(q.1 == i) && !(q.1 + 1 == i && q.2.category == 2)) := by
  rw [List.filter_map]
  congr 1
  apply List.filter_congr
  intro q _
  show rB (Nat.beq q.1 i) false (rB (Nat.beq (Nat.succ q.1) i) (rB (rLong q.2) false true) true) = (!(q.1 == i) && !(q.1 + 1 == i && (rv G q.2).category == 2))
  have e1 : (q.1 == i) = Nat.beq q.1 i := r_beq _ _
  have e2 : (q.1 + 1 == i) = Nat.beq (Nat.succ q.1) i := r_beq _ _
  rw [e1, e2]
  cases Nat.beq q.1 i <;> cases Nat.beq (Nat.succ q.1) i <;> cases e3 : rLong q.2 <;> simp [rB, rv_cat1 G h, rv_cat2 G, e3]
theorem rKeep2_eq (G : rGm) (h : ∀ i : Nat, G.2.2.2.1 i = .null ∨ ∃ a, G.2.2.2.1 i = .ref a) (i : Nat) (ls : rLs) : (ls.filter (rKeep2 i)).map (rLv G) = (ls.map (rLv G)).filter (fun q => !(q.1 == i) && (!(q.1 == i + 1) && !(q.1 + 1 == i && q.2.category == 2))) := by
  rw [List.filter_map]
  congr 1
  apply List.filter_congr
  intro q _
  show rB (Nat.beq q.1 i) false (rB (Nat.beq q.1 (Nat.succ i)) false (rB (Nat.beq (Nat.succ q.1) i) (rB (rLong q.2) false true) true)) = (!(q.1 == i) && (!(q.1 == i + 1) && !(q.1 + 1 == i && (rv G q.2).category == 2)))
  have e1 : (q.1 == i) = Nat.beq q.1 i := r_beq _ _
  have e2 : (q.1 + 1 == i) = Nat.beq (Nat.succ q.1) i := r_beq _ _
  have e4 : (q.1 == i + 1) = Nat.beq q.1 (Nat.succ i) := r_beq _ _
  rw [e1, e2, e4]
  cases Nat.beq q.1 i <;> cases Nat.beq q.1 (Nat.succ i) <;> cases Nat.beq (Nat.succ q.1) i <;> cases e3 : rLong q.2 <;> simp [rB, rv_cat1 G h, rv_cat2 G, e3]
section RR
variable {cl : List vw_C} {fo : List rCC} {zs : List (String × String × String × rCV)} {rs : List (String × Nat × String × Nat)} {ns : List Cond} {Ts : List Cond} {G : rGm}
variable {l : Launch} {cc : ByteArray} {nL n0 : Nat} {own : String} {pc : Nat} {ret : Option FieldType} {ini : Bool} {fr lo : Nat}
/-- what holds inside a method -/
def rCx (cl : List vw_C) (fo : List rCC) (zs : List (String × String × String × rCV)) (rs : List (String × Nat × String × Nat)) (ns : List Cond) (Ts : List Cond) (G : rGm) (p : Program) (R : Room) (s : State) (m : MethodId) (args : Array Value) (meth : Method) (c : Code) (cc : ByteArray) (nL : Nat) (own : String) (ret : Option FieldType) (ini : Bool) (fr lo : Nat) : Prop :=
  p.tables.exec = Jvm.exec ∧ c.code = cc ∧ c.maxLocals = nL ∧ s.vm.findClass own = some m.cls ∧ (∀ w ∈ Ts, w.before args s = true) ∧ rKK cl fo zs rs ns G s ∧ meth.locks = false ∧ G.2.2.1 ≤ s.heap.size ∧ meth.sig.returnType = ret ∧ (ini = true → meth.name = "<init>") ∧ R.frames = fr ∧ R.locals = lo
/-- the reading: from such a state, in any such method, the machine comes to the end that the runner tells -/
def rW (cl : List vw_C) (fo : List rCC) (zs : List (String × String × String × rCV)) (rs : List (String × Nat × String × Nat)) (ns : List Cond) (Ts : List Cond) (G : rGm) (l : Launch) (cc : ByteArray) (nL : Nat) (own : String) (ret : Option FieldType) (ini : Bool) (fr lo n0 : Nat) : rPr := fun o pc ls st w n k =>
  ∀ (p : Program) (e : Env) (R : Room) (s : State) (m : MethodId) (args : Array Value) (below : List Frame) (meth : Method) (c : Code), rCx cl fo zs rs ns Ts G p R s m args meth c cc nL own ret ini fr lo →
  o.2.2.1 - n0 ≤ R.cells → o.2.2.2 ≤ R.slots → n0 ≤ n → ∀ (rl : Array Slot) (H : Heap) (locs : List Loc), lv_has rl nL (ls.map (rLv G)) → rPic cl G w n H → (∀ x ∈ locs, G.2.2.1 ≤ x.base) →
    W p l e R s m args below meth c H locs (n - n0) k (MQ below (rQ cl fo zs rs ns G o) args s (o.2.2.1 - n0) o.2.2.2 (fun q => G.2.2.1 ≤ q)) (F0 m pc rl (st.map (rv G)))
theorem rLv_mem {ls : rLs} {rl : Array Slot} {i : Nat} {v : rCV} (hl : lv_has rl nL (ls.map (rLv G))) (h : (i, v) ∈ ls) : rl[i]? = some (.val (rv G v)) := hl.2.2 (i, rv G v) (List.mem_map.mpr ⟨(i, v), h, rfl⟩)
/-- one row of the kit that changes the stack alone -/
theorem s_row {pc' : Nat} {h : rK → rK} (hh : ∀ (k : rK) (ls : rLs) (st : List rCV) (w : rWd) (n k0 : Nat) (o : rOut), h k ls st w n k0 = some o → ∃ st', k ls st' w n k0 = some o ∧ ∀ (p : Program) (e : Env) (R : Room) (s : State) (m : MethodId) (args : Array Value) (below : List Frame) (meth : Method) (c : Code), rCx cl fo zs rs ns Ts G p R s m args meth c cc nL own ret ini fr lo → ∀ (rl : Array Slot) (H : Heap) (locs : List Loc) (cells slots : Nat) (Q : State → Prop), lv_has rl nL (ls.map (rLv G)) → W p l e R s m args below meth c H locs cells slots Q (F0 m pc' rl (st'.map (rv G))) → W p l e R s m args below meth c H locs cells slots Q (F0 m pc rl (st.map (rv G)))) :
    HS (rW cl fo zs rs ns Ts G l cc nL own ret ini fr lo n0) pc pc' h := by
  apply HS.same
  intro k ls st w n k0 o e0
  obtain ⟨st', e1, hr⟩ := hh k ls st w n k0 o e0
  refine ⟨ls, st', e1, fun hV p e R s m args below meth c X r1 r2 r3 rl H locs hl hP hL => ?_⟩
  exact hr p e R s m args below meth c X rl H locs _ _ _ hl (hV p e R s m args below meth c X r1 r2 r3 rl H locs hl hP hL)
theorem s_iload_n {k : Fin 4} (i : Nat) (hi : (k : Nat) = i) (hd : decode cc pc = .ok (.iload_n k, 1)) : HS (rW cl fo zs rs ns Ts G l cc nL own ret ini fr lo n0) pc (pc + 1) (h_ld isI i) := by
  apply s_row
  intro k0 ls st w n kk o e0
  obtain ⟨v, h1, h2⟩ := rA_some ls e0
  obtain ⟨h3, h4⟩ := rB_yes h2
  obtain ⟨a, rfl⟩ := isI_e h3
  exact ⟨_, h4, fun p e R s m args below meth c X rl H locs cells slots Q hl hk => lv_iload_n X.1 X.2.1 hd hi (rLv_mem hl h1) hk⟩
theorem s_iload (i : Nat) (hd : decode cc pc = .ok (.iload i, 2)) : HS (rW cl fo zs rs ns Ts G l cc nL own ret ini fr lo n0) pc (pc + 2) (h_ld isI i) := by
  apply s_row
  intro k0 ls st w n kk o e0
  obtain ⟨v, h1, h2⟩ := rA_some ls e0
  obtain ⟨h3, h4⟩ := rB_yes h2
  obtain ⟨a, rfl⟩ := isI_e h3
  exact ⟨_, h4, fun p e R s m args below meth c X rl H locs cells slots Q hl hk => lv_iload X.1 X.2.1 hd (rLv_mem hl h1) hk⟩
theorem s_lload_n {k : Fin 4} (i : Nat) (hi : (k : Nat) = i) (hd : decode cc pc = .ok (.lload_n k, 1)) : HS (rW cl fo zs rs ns Ts G l cc nL own ret ini fr lo n0) pc (pc + 1) (h_ld isJ i) := by
  apply s_row
  intro k0 ls st w n kk o e0
  obtain ⟨v, h1, h2⟩ := rA_some ls e0
  obtain ⟨h3, h4⟩ := rB_yes h2
  obtain ⟨a, rfl⟩ := isJ_e h3
  exact ⟨_, h4, fun p e R s m args below meth c X rl H locs cells slots Q hl hk => lv_lload_n X.1 X.2.1 hd hi (rLv_mem hl h1) hk⟩
theorem s_lload (i : Nat) (hd : decode cc pc = .ok (.lload i, 2)) : HS (rW cl fo zs rs ns Ts G l cc nL own ret ini fr lo n0) pc (pc + 2) (h_ld isJ i) := by
  apply s_row
  intro k0 ls st w n kk o e0
  obtain ⟨v, h1, h2⟩ := rA_some ls e0
  obtain ⟨h3, h4⟩ := rB_yes h2
  obtain ⟨a, rfl⟩ := isJ_e h3
  exact ⟨_, h4, fun p e R s m args below meth c X rl H locs cells slots Q hl hk => lv_lload X.1 X.2.1 hd (rLv_mem hl h1) hk⟩
theorem s_aload_n {k : Fin 4} (i : Nat) (hi : (k : Nat) = i) (hd : decode cc pc = .ok (.aload_n k, 1)) : HS (rW cl fo zs rs ns Ts G l cc nL own ret ini fr lo n0) pc (pc + 1) (h_ld isR i) := by
  apply s_row
  intro k0 ls st w n kk o e0
  obtain ⟨v, h1, h2⟩ := rA_some ls e0
  obtain ⟨h3, h4⟩ := rB_yes h2
  obtain ⟨a, rfl⟩ := isR_e h3
  refine ⟨_, h4, fun p e R s m args below meth c X rl H locs cells slots Q hl hk => ?_⟩
  have hm := rLv_mem hl h1
  rw [List.map_cons] at hk
  rcases rv_r G X.2.2.2.2.2.1.2.2.1 a with q | ⟨x, q⟩
  · rw [q] at hm hk
    exact lv_aload_nN X.1 X.2.1 hd hi hm hk
  · rw [q] at hm hk
    exact lv_aload_n X.1 X.2.1 hd hi hm hk
theorem s_aload (i : Nat) (hd : decode cc pc = .ok (.aload i, 2)) : HS (rW cl fo zs rs ns Ts G l cc nL own ret ini fr lo n0) pc (pc + 2) (h_ld isR i) := by
  apply s_row
  intro k0 ls st w n kk o e0
  obtain ⟨v, h1, h2⟩ := rA_some ls e0
  obtain ⟨h3, h4⟩ := rB_yes h2
  obtain ⟨a, rfl⟩ := isR_e h3
  refine ⟨_, h4, fun p e R s m args below meth c X rl H locs cells slots Q hl hk => ?_⟩
  have hm := rLv_mem hl h1
  rw [List.map_cons] at hk
  rcases rv_r G X.2.2.2.2.2.1.2.2.1 a with q | ⟨x, q⟩
  · rw [q] at hm hk
    exact lv_aloadN X.1 X.2.1 hd hm hk
  · rw [q] at hm hk
    exact lv_aload X.1 X.2.1 hd hm hk
theorem s_istore_n {k : Fin 4} (i : Nat) (hi : (k : Nat) = i) (hi2 : i < nL) (hd : decode cc pc = .ok (.istore_n k, 1)) : HS (rW cl fo zs rs ns Ts G l cc nL own ret ini fr lo n0) pc (pc + 1) (h_st isI i) := by
  apply HS.same
  intro k0 ls st w n kk o e0
  obtain ⟨v, st', rfl, h2⟩ := rP_some e0
  obtain ⟨h3, h4⟩ := rB_yes h2
  obtain ⟨a, rfl⟩ := isI_e h3
  rw [rF_eq] at h4
  refine ⟨_, _, h4, fun hV p e R s m args below meth c X r1 r2 r3 rl H locs hl hP hL => ?_⟩
  refine lv_istore_n X.1 X.2.1 hd hi hl hi2 rfl (fun ls' hl' => ?_)
  refine hV p e R s m args below meth c X r1 r2 r3 ls' H locs ?_ hP hL
  rw [List.map_cons, rKeep1_eq G X.2.2.2.2.2.1.2.2.1]
  exact hl'
theorem s_istore (i : Nat) (hi2 : i < nL) (hd : decode cc pc = .ok (.istore i, 2)) : HS (rW cl fo zs rs ns Ts G l cc nL own ret ini fr lo n0) pc (pc + 2) (h_st isI i) := by
  apply HS.same
  intro k0 ls st w n kk o e0
  obtain ⟨v, st', rfl, h2⟩ := rP_some e0
  obtain ⟨h3, h4⟩ := rB_yes h2
  obtain ⟨a, rfl⟩ := isI_e h3
  rw [rF_eq] at h4
  refine ⟨_, _, h4, fun hV p e R s m args below meth c X r1 r2 r3 rl H locs hl hP hL => ?_⟩
  refine lv_istore X.1 X.2.1 hd hl hi2 rfl (fun ls' hl' => ?_)
  refine hV p e R s m args below meth c X r1 r2 r3 ls' H locs ?_ hP hL
  rw [List.map_cons, rKeep1_eq G X.2.2.2.2.2.1.2.2.1]
  exact hl'
theorem s_astore_n {k : Fin 4} (i : Nat) (hi : (k : Nat) = i) (hi2 : i < nL) (hd : decode cc pc = .ok (.astore_n k, 1)) : HS (rW cl fo zs rs ns Ts G l cc nL own ret ini fr lo n0) pc (pc + 1) (h_st isR i) := by
  apply HS.same
  intro k0 ls st w n kk o e0
  obtain ⟨v, st', rfl, h2⟩ := rP_some e0
  obtain ⟨h3, h4⟩ := rB_yes h2
  obtain ⟨a, rfl⟩ := isR_e h3
  rw [rF_eq] at h4
  refine ⟨_, _, h4, fun hV p e R s m args below meth c X r1 r2 r3 rl H locs hl hP hL => ?_⟩
  have key : ∀ rl', lv_has rl' nL ((i, rv G (.inr (.inr a))) :: (ls.map (rLv G)).filter (fun q => !(q.1 == i) && !(q.1 + 1 == i && q.2.category == 2))) → W p l e R s m args below meth c H locs (n - n0) kk (MQ below (rQ cl fo zs rs ns G o) args s (o.2.2.1 - n0) o.2.2.2 (fun q => G.2.2.1 ≤ q)) (F0 m (pc + 1) rl' (st'.map (rv G))) := fun rl' hl' => by
    refine hV p e R s m args below meth c X r1 r2 r3 rl' H locs ?_ hP hL
    rw [List.map_cons, rKeep1_eq G X.2.2.2.2.2.1.2.2.1]
    exact hl'
  rw [List.map_cons]
  rcases rv_r G X.2.2.2.2.2.1.2.2.1 a with q | ⟨x, q⟩
  · rw [q] at key ⊢
    exact lv_astore_nN X.1 X.2.1 hd hi hl hi2 rfl key
  · rw [q] at key ⊢
    exact lv_astore_n X.1 X.2.1 hd hi hl hi2 rfl key
theorem s_astore (i : Nat) (hi2 : i < nL) (hd : decode cc pc = .ok (.astore i, 2)) : HS (rW cl fo zs rs ns Ts G l cc nL own ret ini fr lo n0) pc (pc + 2) (h_st isR i) := by
  apply HS.same
  intro k0 ls st w n kk o e0
  obtain ⟨v, st', rfl, h2⟩ := rP_some e0
  obtain ⟨h3, h4⟩ := rB_yes h2
  obtain ⟨a, rfl⟩ := isR_e h3
  rw [rF_eq] at h4
  refine ⟨_, _, h4, fun hV p e R s m args below meth c X r1 r2 r3 rl H locs hl hP hL => ?_⟩
  have key : ∀ rl', lv_has rl' nL ((i, rv G (.inr (.inr a))) :: (ls.map (rLv G)).filter (fun q => !(q.1 == i) && !(q.1 + 1 == i && q.2.category == 2))) → W p l e R s m args below meth c H locs (n - n0) kk (MQ below (rQ cl fo zs rs ns G o) args s (o.2.2.1 - n0) o.2.2.2 (fun q => G.2.2.1 ≤ q)) (F0 m (pc + 2) rl' (st'.map (rv G))) := fun rl' hl' => by
    refine hV p e R s m args below meth c X r1 r2 r3 rl' H locs ?_ hP hL
    rw [List.map_cons, rKeep1_eq G X.2.2.2.2.2.1.2.2.1]
    exact hl'
  rw [List.map_cons]
  rcases rv_r G X.2.2.2.2.2.1.2.2.1 a with q | ⟨x, q⟩
  · rw [q] at key ⊢
    exact lv_astoreN X.1 X.2.1 hd hl hi2 rfl key
  · rw [q] at key ⊢
    exact lv_astore X.1 X.2.1 hd hl hi2 rfl key
theorem s_lstore_n {k : Fin 4} (i : Nat) (hi : (k : Nat) = i) (hi2 : i + 1 < nL) (hd : decode cc pc = .ok (.lstore_n k, 1)) : HS (rW cl fo zs rs ns Ts G l cc nL own ret ini fr lo n0) pc (pc + 1) (h_st2 i) := by
  apply HS.same
  intro k0 ls st w n kk o e0
  obtain ⟨v, st', rfl, h2⟩ := rP_some e0
  obtain ⟨h3, h4⟩ := rB_yes h2
  obtain ⟨a, rfl⟩ := isJ_e h3
  rw [rF_eq] at h4
  refine ⟨_, _, h4, fun hV p e R s m args below meth c X r1 r2 r3 rl H locs hl hP hL => ?_⟩
  refine lv_lstore_n X.1 X.2.1 hd hi hl hi2 rfl (fun ls' hl' => ?_)
  refine hV p e R s m args below meth c X r1 r2 r3 ls' H locs ?_ hP hL
  rw [List.map_cons, rKeep2_eq G X.2.2.2.2.2.1.2.2.1]
  exact hl'
theorem s_lstore (i : Nat) (hi2 : i + 1 < nL) (hd : decode cc pc = .ok (.lstore i, 2)) : HS (rW cl fo zs rs ns Ts G l cc nL own ret ini fr lo n0) pc (pc + 2) (h_st2 i) := by
  apply HS.same
  intro k0 ls st w n kk o e0
  obtain ⟨v, st', rfl, h2⟩ := rP_some e0
  obtain ⟨h3, h4⟩ := rB_yes h2
  obtain ⟨a, rfl⟩ := isJ_e h3
  rw [rF_eq] at h4
  refine ⟨_, _, h4, fun hV p e R s m args below meth c X r1 r2 r3 rl H locs hl hP hL => ?_⟩
  refine lv_lstore X.1 X.2.1 hd hl hi2 rfl (fun ls' hl' => ?_)
  refine hV p e R s m args below meth c X r1 r2 r3 ls' H locs ?_ hP hL
  rw [List.map_cons, rKeep2_eq G X.2.2.2.2.2.1.2.2.1]
  exact hl'
theorem s_iinc (i d : Nat) (z : Int) (hz : Int32.ofInt z = nI d) (hi2 : i < nL) (hd : decode cc pc = .ok (.iinc i z, 3)) : HS (rW cl fo zs rs ns Ts G l cc nL own ret ini fr lo n0) pc (pc + 3) (h_inc i d) := by
  apply HS.same
  intro k0 ls st w n kk o e0
  obtain ⟨v, h1, h2⟩ := rA_some ls e0
  obtain ⟨a, rfl, h3⟩ := rI_some h2
  rw [rN_eq, rF_eq] at h3
  refine ⟨_, _, h3, fun hV p e R s m args below meth c X r1 r2 r3 rl H locs hl hP hL => ?_⟩
  have hm : (i, rv G (.inl a)) ∈ ls.map (rLv G) := List.mem_map.mpr ⟨_, h1, rfl⟩
  obtain ⟨q, hq⟩ := List.getElem?_of_mem hm
  refine lv_iinc (k := q) X.1 X.2.1 hd hl hq (v := nI (rAdd a d)) (by rw [hz]; exact n_add a d) hi2 rfl (fun ls' hl' => ?_)
  refine hV p e R s m args below meth c X r1 r2 r3 ls' H locs ?_ hP hL
  rw [List.map_cons, rKeep1_eq G X.2.2.2.2.2.1.2.2.1]
  exact hl'
theorem s_iconst (a : Nat) {z : Int} (hz : Int32.ofInt z = nI a) (hd : decode cc pc = .ok (.iconst z, 1)) : HS (rW cl fo zs rs ns Ts G l cc nL own ret ini fr lo n0) pc (pc + 1) (h_v (.inl a)) := by
  apply s_row
  intro k0 ls st w n kk o e0
  exact ⟨_, e0, fun p e R s m args below meth c X rl H locs cells slots Q hl hk => lv_iconst X.1 X.2.1 hd hz hk⟩
theorem s_bipush (a : Nat) {z : Int} (hz : (Int8.ofInt z).toInt32 = nI a) (hd : decode cc pc = .ok (.bipush z, 2)) : HS (rW cl fo zs rs ns Ts G l cc nL own ret ini fr lo n0) pc (pc + 2) (h_v (.inl a)) := by
  apply s_row
  intro k0 ls st w n kk o e0
  exact ⟨_, e0, fun p e R s m args below meth c X rl H locs cells slots Q hl hk => lv_bipush X.1 X.2.1 hd hz hk⟩
theorem s_sipush (a : Nat) {z : Int} (hz : (Int16.ofInt z).toInt32 = nI a) (hd : decode cc pc = .ok (.sipush z, 3)) : HS (rW cl fo zs rs ns Ts G l cc nL own ret ini fr lo n0) pc (pc + 3) (h_v (.inl a)) := by
  apply s_row
  intro k0 ls st w n kk o e0
  exact ⟨_, e0, fun p e R s m args below meth c X rl H locs cells slots Q hl hk => lv_sipush X.1 X.2.1 hd hz hk⟩
theorem s_ldc (a : Nat) {ix : Nat} (hw : Cond.constant own ix (nI a) ∈ Ts) (hd : decode cc pc = .ok (.ldc ix, 2)) : HS (rW cl fo zs rs ns Ts G l cc nL own ret ini fr lo n0) pc (pc + 2) (h_v (.inl a)) := by
  apply s_row
  intro k0 ls st w n kk o e0
  exact ⟨_, e0, fun p e R s m args below meth c X rl H locs cells slots Q hl hk => lv_ldc X.1 X.2.1 X.2.2.2.1 (X.2.2.2.2.1 _ hw) hd hk⟩
theorem s_ldcw (a : Nat) {ix : Nat} (hw : Cond.constant own ix (nI a) ∈ Ts) (hd : decode cc pc = .ok (.ldc_w ix, 3)) : HS (rW cl fo zs rs ns Ts G l cc nL own ret ini fr lo n0) pc (pc + 3) (h_v (.inl a)) := by
  apply s_row
  intro k0 ls st w n kk o e0
  exact ⟨_, e0, fun p e R s m args below meth c X rl H locs cells slots Q hl hk => lv_ldcw X.1 X.2.1 X.2.2.2.1 (X.2.2.2.2.1 _ hw) hd hk⟩
theorem s_ldc2 (a : Nat) {ix : Nat} (hw : Cond.constantLong own ix (lN a) ∈ Ts) (hd : decode cc pc = .ok (.ldc2_w ix, 3)) : HS (rW cl fo zs rs ns Ts G l cc nL own ret ini fr lo n0) pc (pc + 3) (h_v (.inr (.inl a))) := by
  apply s_row
  intro k0 ls st w n kk o e0
  exact ⟨_, e0, fun p e R s m args below meth c X rl H locs cells slots Q hl hk => lv_ldc2 X.1 X.2.1 X.2.2.2.1 (X.2.2.2.2.1 _ hw) hd hk⟩
theorem s_lconst (a : Nat) {z : Fin 2} (hz : Int64.ofNat (z : Nat) = lN a) (hd : decode cc pc = .ok (.lconst z, 1)) : HS (rW cl fo zs rs ns Ts G l cc nL own ret ini fr lo n0) pc (pc + 1) (h_v (.inr (.inl a))) := by
  apply s_row
  intro k0 ls st w n kk o e0
  exact ⟨_, e0, fun p e R s m args below meth c X rl H locs cells slots Q hl hk => lv_lconst X.1 X.2.1 hd hz hk⟩
theorem s_null  (hd : decode cc pc = .ok (.aconst_null, 1)) : HS (rW cl fo zs rs ns Ts G l cc nL own ret ini fr lo n0) pc (pc + 1) (h_v (.inr (.inr 0))) := by
  apply s_row
  intro k0 ls st w n kk o e0
  exact ⟨_, e0, fun p e R s m args below meth c X rl H locs cells slots Q hl hk => lv_null X.1 X.2.1 hd hk⟩
theorem s_ldcS (i : Nat) {ix : Nat} {tx : String} (hw : (own, ix, tx, i) ∈ rs) (hd : decode cc pc = .ok (.ldc ix, 2)) : HS (rW cl fo zs rs ns Ts G l cc nL own ret ini fr lo n0) pc (pc + 2) (h_v (.inr (.inr (2 * i + 2)))) := by
  apply s_row
  intro k0 ls st w n kk o e0
  refine ⟨_, e0, fun p e R s m args below meth c X rl H locs cells slots Q hl hk => ?_⟩
  obtain ⟨a, h1, h2⟩ := X.2.2.2.2.2.1.2.2.2.2.1 _ hw
  rw [List.map_cons, rv_ext G (by omega) (by omega), show (2 * i + 2) / 2 - 1 = i by omega, h1] at hk
  exact va_ldcS X.1 X.2.1 X.2.2.2.1 h2 hd hk
theorem s_dup (hd : decode cc pc = .ok (.dup, 1)) : HS (rW cl fo zs rs ns Ts G l cc nL own ret ini fr lo n0) pc (pc + 1) h_dup := by
  apply s_row
  intro k0 ls st w n kk o e0
  obtain ⟨v, st', rfl, h2⟩ := rP_some e0
  obtain ⟨h3, h4⟩ := rB_no h2
  exact ⟨_, h4, fun p e R s m args below meth c X rl H locs cells slots Q hl hk => lv_dup X.1 X.2.1 hd (rv_cat1 G X.2.2.2.2.2.1.2.2.1 h3) hk⟩
theorem s_pop (hd : decode cc pc = .ok (.pop, 1)) : HS (rW cl fo zs rs ns Ts G l cc nL own ret ini fr lo n0) pc (pc + 1) h_pop := by
  apply s_row
  intro k0 ls st w n kk o e0
  obtain ⟨v, st', rfl, h2⟩ := rP_some e0
  obtain ⟨h3, h4⟩ := rB_no h2
  exact ⟨_, h4, fun p e R s m args below meth c X rl H locs cells slots Q hl hk => lv_pop X.1 X.2.1 hd (rv_cat1 G X.2.2.2.2.2.1.2.2.1 h3) hk⟩
theorem s_dupx1 (hd : decode cc pc = .ok (.dup_x1, 1)) : HS (rW cl fo zs rs ns Ts G l cc nL own ret ini fr lo n0) pc (pc + 1) h_dupx1 := by
  apply s_row
  intro k0 ls st w n kk o e0
  obtain ⟨v, st', rfl, h2⟩ := rP_some e0
  obtain ⟨v2, st2, rfl, h21⟩ := rP_some h2
  obtain ⟨h3, h4⟩ := rB_no h21
  obtain ⟨h5, h6⟩ := rB_no h4
  exact ⟨_, h6, fun p e R s m args below meth c X rl H locs cells slots Q hl hk => lv_dup_x1 X.1 X.2.1 hd (rv_cat1 G X.2.2.2.2.2.1.2.2.1 h3) (rv_cat1 G X.2.2.2.2.2.1.2.2.1 h5) hk⟩
theorem s_iadd (hd : decode cc pc = .ok (.iadd, 1)) : HS (rW cl fo zs rs ns Ts G l cc nL own ret ini fr lo n0) pc (pc + 1) (h_bin (fun _ _ => true) rAdd) := by
  apply s_row
  intro k0 ls st w n kk o e0
  obtain ⟨y, st', rfl, h2⟩ := rP_some e0
  obtain ⟨x, st2, rfl, h3⟩ := rP_some h2
  obtain ⟨b, rfl, h31⟩ := rI_some h3
  obtain ⟨a, rfl, h4⟩ := rI_some h31
  obtain ⟨h5, h6⟩ := rB_yes h4
  rw [rN_eq] at h6
  refine ⟨_, h6, fun p e R s m args below meth c X rl H locs cells slots Q hl hk => lv_iadd X.1 X.2.1 hd ?_⟩
  rw [show nI a + nI b = nI (rAdd a b) from n_add a b]
  exact hk
theorem s_isub (hd : decode cc pc = .ok (.isub, 1)) : HS (rW cl fo zs rs ns Ts G l cc nL own ret ini fr lo n0) pc (pc + 1) (h_bin (fun _ _ => true) rSub) := by
  apply s_row
  intro k0 ls st w n kk o e0
  obtain ⟨y, st', rfl, h2⟩ := rP_some e0
  obtain ⟨x, st2, rfl, h3⟩ := rP_some h2
  obtain ⟨b, rfl, h31⟩ := rI_some h3
  obtain ⟨a, rfl, h4⟩ := rI_some h31
  obtain ⟨h5, h6⟩ := rB_yes h4
  rw [rN_eq] at h6
  refine ⟨_, h6, fun p e R s m args below meth c X rl H locs cells slots Q hl hk => lv_isub X.1 X.2.1 hd ?_⟩
  rw [show nI a - nI b = nI (rSub a b) from n_sub a b]
  exact hk
theorem s_imul (hd : decode cc pc = .ok (.imul, 1)) : HS (rW cl fo zs rs ns Ts G l cc nL own ret ini fr lo n0) pc (pc + 1) (h_bin (fun _ _ => true) rMul) := by
  apply s_row
  intro k0 ls st w n kk o e0
  obtain ⟨y, st', rfl, h2⟩ := rP_some e0
  obtain ⟨x, st2, rfl, h3⟩ := rP_some h2
  obtain ⟨b, rfl, h31⟩ := rI_some h3
  obtain ⟨a, rfl, h4⟩ := rI_some h31
  obtain ⟨h5, h6⟩ := rB_yes h4
  rw [rN_eq] at h6
  refine ⟨_, h6, fun p e R s m args below meth c X rl H locs cells slots Q hl hk => lv_imul X.1 X.2.1 hd ?_⟩
  rw [show nI a * nI b = nI (rMul a b) from n_mul a b]
  exact hk
theorem s_iand (hd : decode cc pc = .ok (.iand, 1)) : HS (rW cl fo zs rs ns Ts G l cc nL own ret ini fr lo n0) pc (pc + 1) (h_bin (fun _ _ => true) Nat.land) := by
  apply s_row
  intro k0 ls st w n kk o e0
  obtain ⟨y, st', rfl, h2⟩ := rP_some e0
  obtain ⟨x, st2, rfl, h3⟩ := rP_some h2
  obtain ⟨b, rfl, h31⟩ := rI_some h3
  obtain ⟨a, rfl, h4⟩ := rI_some h31
  obtain ⟨h5, h6⟩ := rB_yes h4
  rw [rN_eq] at h6
  refine ⟨_, h6, fun p e R s m args below meth c X rl H locs cells slots Q hl hk => lv_iand X.1 X.2.1 hd ?_⟩
  rw [show nI a &&& nI b = nI (Nat.land a b) from n_land a b]
  exact hk
theorem s_ior (hd : decode cc pc = .ok (.ior, 1)) : HS (rW cl fo zs rs ns Ts G l cc nL own ret ini fr lo n0) pc (pc + 1) (h_bin (fun _ _ => true) Nat.lor) := by
  apply s_row
  intro k0 ls st w n kk o e0
  obtain ⟨y, st', rfl, h2⟩ := rP_some e0
  obtain ⟨x, st2, rfl, h3⟩ := rP_some h2
  obtain ⟨b, rfl, h31⟩ := rI_some h3
  obtain ⟨a, rfl, h4⟩ := rI_some h31
  obtain ⟨h5, h6⟩ := rB_yes h4
  rw [rN_eq] at h6
  refine ⟨_, h6, fun p e R s m args below meth c X rl H locs cells slots Q hl hk => lv_ior X.1 X.2.1 hd ?_⟩
  rw [show nI a ||| nI b = nI (Nat.lor a b) from n_lor a b]
  exact hk
theorem s_ishl (hd : decode cc pc = .ok (.ishl, 1)) : HS (rW cl fo zs rs ns Ts G l cc nL own ret ini fr lo n0) pc (pc + 1) (h_bin okSh rShl) := by
  apply s_row
  intro k0 ls st w n kk o e0
  obtain ⟨y, st', rfl, h2⟩ := rP_some e0
  obtain ⟨x, st2, rfl, h3⟩ := rP_some h2
  obtain ⟨b, rfl, h31⟩ := rI_some h3
  obtain ⟨a, rfl, h4⟩ := rI_some h31
  obtain ⟨h5, h6⟩ := rB_yes h4
  rw [rN_eq] at h6
  refine ⟨_, h6, fun p e R s m args below meth c X rl H locs cells slots Q hl hk => lv_ishl X.1 X.2.1 hd ?_⟩
  rw [show nI a <<< (nI b &&& 31) = nI (rShl a b) from n_shl (Nat.blt_eq.mp h5)]
  exact hk
theorem s_ishr (hd : decode cc pc = .ok (.ishr, 1)) : HS (rW cl fo zs rs ns Ts G l cc nL own ret ini fr lo n0) pc (pc + 1) (h_bin okShr rShr) := by
  apply s_row
  intro k0 ls st w n kk o e0
  obtain ⟨y, st', rfl, h2⟩ := rP_some e0
  obtain ⟨x, st2, rfl, h3⟩ := rP_some h2
  obtain ⟨b, rfl, h31⟩ := rI_some h3
  obtain ⟨a, rfl, h4⟩ := rI_some h31
  obtain ⟨h5, h6⟩ := rB_yes h4
  rw [rN_eq] at h6
  refine ⟨_, h6, fun p e R s m args below meth c X rl H locs cells slots Q hl hk => lv_ishr X.1 X.2.1 hd ?_⟩
  rw [show nI a >>> (nI b &&& 31) = nI (rShr a b) from n_shr (Nat.blt_eq.mp (rB_and h5).1) (Nat.blt_eq.mp (rB_and h5).2)]
  exact hk
theorem s_idiv (hd : decode cc pc = .ok (.idiv, 1)) : HS (rW cl fo zs rs ns Ts G l cc nL own ret ini fr lo n0) pc (pc + 1) (h_bin rDok Nat.div) := by
  apply s_row
  intro k0 ls st w n kk o e0
  obtain ⟨y, st', rfl, h2⟩ := rP_some e0
  obtain ⟨x, st2, rfl, h3⟩ := rP_some h2
  obtain ⟨b, rfl, h31⟩ := rI_some h3
  obtain ⟨a, rfl, h4⟩ := rI_some h31
  obtain ⟨h5, h6⟩ := rB_yes h4
  rw [rN_eq] at h6
  obtain ⟨q0, q1, q2⟩ := rDok_e h5
  refine ⟨_, h6, fun p e R s m args below meth c X rl H locs cells slots Q hl hk => lv_idiv X.1 X.2.1 hd (fun q => ?_) ?_⟩
  · have := (nI_eq (b := 0) q2 (by decide)).mp q
    omega
  · rw [show nI a / nI b = nI (Nat.div a b) from pk_div q1 q0 q2]
    exact hk
theorem s_irem (hd : decode cc pc = .ok (.irem, 1)) : HS (rW cl fo zs rs ns Ts G l cc nL own ret ini fr lo n0) pc (pc + 1) (h_bin rDok Nat.mod) := by
  apply s_row
  intro k0 ls st w n kk o e0
  obtain ⟨y, st', rfl, h2⟩ := rP_some e0
  obtain ⟨x, st2, rfl, h3⟩ := rP_some h2
  obtain ⟨b, rfl, h31⟩ := rI_some h3
  obtain ⟨a, rfl, h4⟩ := rI_some h31
  obtain ⟨h5, h6⟩ := rB_yes h4
  rw [rN_eq] at h6
  obtain ⟨q0, q1, q2⟩ := rDok_e h5
  refine ⟨_, h6, fun p e R s m args below meth c X rl H locs cells slots Q hl hk => lv_irem X.1 X.2.1 hd (fun q => ?_) ?_⟩
  · have := (nI_eq (b := 0) q2 (by decide)).mp q
    omega
  · rw [show nI a - nI a / nI b * nI b = nI (Nat.mod a b) from pk_rem q1 q0 q2]
    exact hk
theorem s_ineg (hd : decode cc pc = .ok (.ineg, 1)) : HS (rW cl fo zs rs ns Ts G l cc nL own ret ini fr lo n0) pc (pc + 1) (h_un (fun _ => true) rNeg) := by
  apply s_row
  intro k0 ls st w n kk o e0
  obtain ⟨x, st', rfl, h2⟩ := rP_some e0
  obtain ⟨a, rfl, h4⟩ := rI_some h2
  obtain ⟨h5, h6⟩ := rB_yes h4
  rw [rN_eq] at h6
  exact ⟨_, h6, fun p e R s m args below meth c X rl H locs cells slots Q hl hk => lv_ineg X.1 X.2.1 hd (by rw [n_neg]; exact hk)⟩
theorem s_i2b (hd : decode cc pc = .ok (.i2b, 1)) : HS (rW cl fo zs rs ns Ts G l cc nL own ret ini fr lo n0) pc (pc + 1) (h_un (fun a => Nat.ble a 127) (fun a => a)) := by
  apply s_row
  intro k0 ls st w n kk o e0
  obtain ⟨x, st', rfl, h2⟩ := rP_some e0
  obtain ⟨a, rfl, h4⟩ := rI_some h2
  obtain ⟨h5, h6⟩ := rB_yes h4
  rw [rN_eq] at h6
  exact ⟨_, h6, fun p e R s m args below meth c X rl H locs cells slots Q hl hk => lv_i2b X.1 X.2.1 hd (n_i2b a (by have := Nat.ble_eq.mp h5; omega)) hk⟩
theorem s_i2c (hd : decode cc pc = .ok (.i2c, 1)) : HS (rW cl fo zs rs ns Ts G l cc nL own ret ini fr lo n0) pc (pc + 1) (h_un (fun a => Nat.ble a 65535) (fun a => a)) := by
  apply s_row
  intro k0 ls st w n kk o e0
  obtain ⟨x, st', rfl, h2⟩ := rP_some e0
  obtain ⟨a, rfl, h4⟩ := rI_some h2
  obtain ⟨h5, h6⟩ := rB_yes h4
  rw [rN_eq] at h6
  exact ⟨_, h6, fun p e R s m args below meth c X rl H locs cells slots Q hl hk => lv_i2c X.1 X.2.1 hd (n_i2c (Nat.ble_eq.mp h5)) hk⟩
theorem s_i2l (hd : decode cc pc = .ok (.i2l, 1)) : HS (rW cl fo zs rs ns Ts G l cc nL own ret ini fr lo n0) pc (pc + 1) h_i2l := by
  apply s_row
  intro k0 ls st w n kk o e0
  obtain ⟨x, st', rfl, h2⟩ := rP_some e0
  obtain ⟨a, rfl, h4⟩ := rI_some h2
  obtain ⟨h5, h6⟩ := rB_no h4
  have ha : a < 2 ^ 31 := by
    rcases Nat.lt_or_ge a (2 ^ 31) with q | q
    · exact q
    · rw [Nat.ble_eq.mpr q] at h5; cases h5
  exact ⟨_, h6, fun p e R s m args below meth c X rl H locs cells slots Q hl hk => lv_i2l X.1 X.2.1 hd (nI_l ha) hk⟩
theorem s_lor (hd : decode cc pc = .ok (.lor, 1)) : HS (rW cl fo zs rs ns Ts G l cc nL own ret ini fr lo n0) pc (pc + 1) (h_lbin Nat.lor) := by
  apply s_row
  intro k0 ls st w n kk o e0
  obtain ⟨y, st', rfl, h2⟩ := rP_some e0
  obtain ⟨x, st2, rfl, h3⟩ := rP_some h2
  obtain ⟨b, rfl, h31⟩ := rJ_some h3
  obtain ⟨a, rfl, h4⟩ := rJ_some h31
  rw [rN_eq] at h4
  refine ⟨_, h4, fun p e R s m args below meth c X rl H locs cells slots Q hl hk => lv_lor X.1 X.2.1 hd ?_⟩
  rw [n_lorL]
  exact hk
theorem s_lshl (hd : decode cc pc = .ok (.lshl, 1)) : HS (rW cl fo zs rs ns Ts G l cc nL own ret ini fr lo n0) pc (pc + 1) (h_lsh rShlL) := by
  apply s_row
  intro k0 ls st w n kk o e0
  obtain ⟨y, st', rfl, h2⟩ := rP_some e0
  obtain ⟨x, st2, rfl, h3⟩ := rP_some h2
  obtain ⟨b, rfl, h31⟩ := rI_some h3
  obtain ⟨a, rfl, h4⟩ := rJ_some h31
  obtain ⟨h5, h6⟩ := rB_yes h4
  rw [rN_eq] at h6
  exact ⟨_, h6, fun p e R s m args below meth c X rl H locs cells slots Q hl hk => lv_lshl X.1 X.2.1 hd (n_shlL (Nat.blt_eq.mp h5)) hk⟩
theorem s_goto {pcs : List Nat} {b tgt : Nat} {off : Int} (hb : pcs[b]? = some tgt) (ht : (pc : Int) + off = (tgt : Int)) (hd : decode cc pc = .ok (.goto off, 3)) : BS (rW cl fo zs rs ns Ts G l cc nL own ret ini fr lo n0) pcs pc (t_go b) :=
  BS.via (BS.go hb) fun o ls st w n k hV p e R s m args below meth c X r1 r2 r3 rl H locs hl hP hL => lv_goto X.1 X.2.1 hd ht (hV p e R s m args below meth c X r1 r2 r3 rl H locs hl hP hL)
theorem s_icmp_eq {pcs : List Nat} {b1 b2 tgt : Nat} {off : Int} (hb1 : pcs[b1]? = some tgt) (hb2 : pcs[b2]? = some (pc + 3)) (ht : (pc : Int) + off = (tgt : Int)) (hd : decode cc pc = .ok (.if_icmp .eq off, 3)) : BS (rW cl fo zs rs ns Ts G l cc nL own ret ini fr lo n0) pcs pc (t_icmp rEq b1 b2) := by
  intro J hJ ls st w n k o e0
  obtain ⟨y, st', rfl, h2⟩ := rP_some e0
  obtain ⟨x, st2, rfl, h3⟩ := rP_some h2
  obtain ⟨b, rfl, h31⟩ := rI_some h3
  obtain ⟨a, rfl, h4⟩ := rI_some h31
  have h4 : rB (rEq a b) (J b1 ls st2 w n k) (J b2 ls st2 w n k) = some o := h4
  rcases rB_some h4 with ⟨h5, h6⟩ | ⟨h5, h6⟩
  · obtain ⟨q1, hV⟩ := hJ b1 _ hb1 _ _ _ _ _ _ h6
    exact ⟨q1, fun p e R s m args below meth c X r1 r2 r3 rl H locs hl hP hL => lv_icmp_eq X.1 X.2.1 hd ht (fun _ => hV p e R s m args below meth c X r1 r2 r3 rl H locs hl hP hL) (fun z => absurd ((n_eq a b).mpr h5) z)⟩
  · obtain ⟨q1, hV⟩ := hJ b2 _ hb2 _ _ _ _ _ _ h6
    exact ⟨q1, fun p e R s m args below meth c X r1 r2 r3 rl H locs hl hP hL => lv_icmp_eq X.1 X.2.1 hd ht (fun z => by rw [(n_eq a b).mp z] at h5; cases h5) (fun _ => hV p e R s m args below meth c X r1 r2 r3 rl H locs hl hP hL)⟩
theorem s_if_eq {pcs : List Nat} {b1 b2 tgt : Nat} {off : Int} (hb1 : pcs[b1]? = some tgt) (hb2 : pcs[b2]? = some (pc + 3)) (ht : (pc : Int) + off = (tgt : Int)) (hd : decode cc pc = .ok (.ifCond .eq off, 3)) : BS (rW cl fo zs rs ns Ts G l cc nL own ret ini fr lo n0) pcs pc (t_if (fun a => rEq a 0) b1 b2) := by
  intro J hJ ls st w n k o e0
  obtain ⟨x, st2, rfl, h3⟩ := rP_some e0
  obtain ⟨a, rfl, h4⟩ := rI_some h3
  have h4 : rB (rEq a 0) (J b1 ls st2 w n k) (J b2 ls st2 w n k) = some o := h4
  rcases rB_some h4 with ⟨h5, h6⟩ | ⟨h5, h6⟩
  · obtain ⟨q1, hV⟩ := hJ b1 _ hb1 _ _ _ _ _ _ h6
    exact ⟨q1, fun p e R s m args below meth c X r1 r2 r3 rl H locs hl hP hL => lv_if_eq X.1 X.2.1 hd ht (fun _ => hV p e R s m args below meth c X r1 r2 r3 rl H locs hl hP hL) (fun z => absurd ((n_eq a 0).mpr h5) z)⟩
  · obtain ⟨q1, hV⟩ := hJ b2 _ hb2 _ _ _ _ _ _ h6
    exact ⟨q1, fun p e R s m args below meth c X r1 r2 r3 rl H locs hl hP hL => lv_if_eq X.1 X.2.1 hd ht (fun z => by rw [(n_eq a 0).mp z] at h5; cases h5) (fun _ => hV p e R s m args below meth c X r1 r2 r3 rl H locs hl hP hL)⟩
theorem s_icmp_ne {pcs : List Nat} {b1 b2 tgt : Nat} {off : Int} (hb1 : pcs[b1]? = some tgt) (hb2 : pcs[b2]? = some (pc + 3)) (ht : (pc : Int) + off = (tgt : Int)) (hd : decode cc pc = .ok (.if_icmp .ne off, 3)) : BS (rW cl fo zs rs ns Ts G l cc nL own ret ini fr lo n0) pcs pc (t_icmp (fun a b => rNot (rEq a b)) b1 b2) := by
  intro J hJ ls st w n k o e0
  obtain ⟨y, st', rfl, h2⟩ := rP_some e0
  obtain ⟨x, st2, rfl, h3⟩ := rP_some h2
  obtain ⟨b, rfl, h31⟩ := rI_some h3
  obtain ⟨a, rfl, h4⟩ := rI_some h31
  have h4 : rB (rNot (rEq a b)) (J b1 ls st2 w n k) (J b2 ls st2 w n k) = some o := h4
  rcases rB_some h4 with ⟨h5, h6⟩ | ⟨h5, h6⟩
  · obtain ⟨q1, hV⟩ := hJ b1 _ hb1 _ _ _ _ _ _ h6
    exact ⟨q1, fun p e R s m args below meth c X r1 r2 r3 rl H locs hl hP hL => lv_icmp_ne X.1 X.2.1 hd ht (fun _ => hV p e R s m args below meth c X r1 r2 r3 rl H locs hl hP hL) (fun z => absurd z ((n_ne a b).mpr h5))⟩
  · obtain ⟨q1, hV⟩ := hJ b2 _ hb2 _ _ _ _ _ _ h6
    exact ⟨q1, fun p e R s m args below meth c X r1 r2 r3 rl H locs hl hP hL => lv_icmp_ne X.1 X.2.1 hd ht (fun z => by rw [(n_ne a b).mp z] at h5; cases h5) (fun _ => hV p e R s m args below meth c X r1 r2 r3 rl H locs hl hP hL)⟩
theorem s_if_ne {pcs : List Nat} {b1 b2 tgt : Nat} {off : Int} (hb1 : pcs[b1]? = some tgt) (hb2 : pcs[b2]? = some (pc + 3)) (ht : (pc : Int) + off = (tgt : Int)) (hd : decode cc pc = .ok (.ifCond .ne off, 3)) : BS (rW cl fo zs rs ns Ts G l cc nL own ret ini fr lo n0) pcs pc (t_if (fun a => rNot (rEq a 0)) b1 b2) := by
  intro J hJ ls st w n k o e0
  obtain ⟨x, st2, rfl, h3⟩ := rP_some e0
  obtain ⟨a, rfl, h4⟩ := rI_some h3
  have h4 : rB (rNot (rEq a 0)) (J b1 ls st2 w n k) (J b2 ls st2 w n k) = some o := h4
  rcases rB_some h4 with ⟨h5, h6⟩ | ⟨h5, h6⟩
  · obtain ⟨q1, hV⟩ := hJ b1 _ hb1 _ _ _ _ _ _ h6
    exact ⟨q1, fun p e R s m args below meth c X r1 r2 r3 rl H locs hl hP hL => lv_if_ne X.1 X.2.1 hd ht (fun _ => hV p e R s m args below meth c X r1 r2 r3 rl H locs hl hP hL) (fun z => absurd z ((n_ne a 0).mpr h5))⟩
  · obtain ⟨q1, hV⟩ := hJ b2 _ hb2 _ _ _ _ _ _ h6
    exact ⟨q1, fun p e R s m args below meth c X r1 r2 r3 rl H locs hl hP hL => lv_if_ne X.1 X.2.1 hd ht (fun z => by rw [(n_ne a 0).mp z] at h5; cases h5) (fun _ => hV p e R s m args below meth c X r1 r2 r3 rl H locs hl hP hL)⟩
theorem s_icmp_lt {pcs : List Nat} {b1 b2 tgt : Nat} {off : Int} (hb1 : pcs[b1]? = some tgt) (hb2 : pcs[b2]? = some (pc + 3)) (ht : (pc : Int) + off = (tgt : Int)) (hd : decode cc pc = .ok (.if_icmp .lt off, 3)) : BS (rW cl fo zs rs ns Ts G l cc nL own ret ini fr lo n0) pcs pc (t_icmp rLt b1 b2) := by
  intro J hJ ls st w n k o e0
  obtain ⟨y, st', rfl, h2⟩ := rP_some e0
  obtain ⟨x, st2, rfl, h3⟩ := rP_some h2
  obtain ⟨b, rfl, h31⟩ := rI_some h3
  obtain ⟨a, rfl, h4⟩ := rI_some h31
  have h4 : rB (rLt a b) (J b1 ls st2 w n k) (J b2 ls st2 w n k) = some o := h4
  rcases rB_some h4 with ⟨h5, h6⟩ | ⟨h5, h6⟩
  · obtain ⟨q1, hV⟩ := hJ b1 _ hb1 _ _ _ _ _ _ h6
    exact ⟨q1, fun p e R s m args below meth c X r1 r2 r3 rl H locs hl hP hL => lv_icmp_lt X.1 X.2.1 hd ht (fun _ => hV p e R s m args below meth c X r1 r2 r3 rl H locs hl hP hL) (fun z => absurd ((n_lt a b).mpr h5) z)⟩
  · obtain ⟨q1, hV⟩ := hJ b2 _ hb2 _ _ _ _ _ _ h6
    exact ⟨q1, fun p e R s m args below meth c X r1 r2 r3 rl H locs hl hP hL => lv_icmp_lt X.1 X.2.1 hd ht (fun z => by rw [(n_lt a b).mp z] at h5; cases h5) (fun _ => hV p e R s m args below meth c X r1 r2 r3 rl H locs hl hP hL)⟩
theorem s_if_lt {pcs : List Nat} {b1 b2 tgt : Nat} {off : Int} (hb1 : pcs[b1]? = some tgt) (hb2 : pcs[b2]? = some (pc + 3)) (ht : (pc : Int) + off = (tgt : Int)) (hd : decode cc pc = .ok (.ifCond .lt off, 3)) : BS (rW cl fo zs rs ns Ts G l cc nL own ret ini fr lo n0) pcs pc (t_if (fun a => rLt a 0) b1 b2) := by
  intro J hJ ls st w n k o e0
  obtain ⟨x, st2, rfl, h3⟩ := rP_some e0
  obtain ⟨a, rfl, h4⟩ := rI_some h3
  have h4 : rB (rLt a 0) (J b1 ls st2 w n k) (J b2 ls st2 w n k) = some o := h4
  rcases rB_some h4 with ⟨h5, h6⟩ | ⟨h5, h6⟩
  · obtain ⟨q1, hV⟩ := hJ b1 _ hb1 _ _ _ _ _ _ h6
    exact ⟨q1, fun p e R s m args below meth c X r1 r2 r3 rl H locs hl hP hL => lv_if_lt X.1 X.2.1 hd ht (fun _ => hV p e R s m args below meth c X r1 r2 r3 rl H locs hl hP hL) (fun z => absurd ((n_lt a 0).mpr h5) z)⟩
  · obtain ⟨q1, hV⟩ := hJ b2 _ hb2 _ _ _ _ _ _ h6
    exact ⟨q1, fun p e R s m args below meth c X r1 r2 r3 rl H locs hl hP hL => lv_if_lt X.1 X.2.1 hd ht (fun z => by rw [(n_lt a 0).mp z] at h5; cases h5) (fun _ => hV p e R s m args below meth c X r1 r2 r3 rl H locs hl hP hL)⟩
theorem s_icmp_ge {pcs : List Nat} {b1 b2 tgt : Nat} {off : Int} (hb1 : pcs[b1]? = some tgt) (hb2 : pcs[b2]? = some (pc + 3)) (ht : (pc : Int) + off = (tgt : Int)) (hd : decode cc pc = .ok (.if_icmp .ge off, 3)) : BS (rW cl fo zs rs ns Ts G l cc nL own ret ini fr lo n0) pcs pc (t_icmp (fun a b => rNot (rLt a b)) b1 b2) := by
  intro J hJ ls st w n k o e0
  obtain ⟨y, st', rfl, h2⟩ := rP_some e0
  obtain ⟨x, st2, rfl, h3⟩ := rP_some h2
  obtain ⟨b, rfl, h31⟩ := rI_some h3
  obtain ⟨a, rfl, h4⟩ := rI_some h31
  have h4 : rB (rNot (rLt a b)) (J b1 ls st2 w n k) (J b2 ls st2 w n k) = some o := h4
  rcases rB_some h4 with ⟨h5, h6⟩ | ⟨h5, h6⟩
  · obtain ⟨q1, hV⟩ := hJ b1 _ hb1 _ _ _ _ _ _ h6
    exact ⟨q1, fun p e R s m args below meth c X r1 r2 r3 rl H locs hl hP hL => lv_icmp_ge X.1 X.2.1 hd ht (fun _ => hV p e R s m args below meth c X r1 r2 r3 rl H locs hl hP hL) (fun z => absurd ((n_ge a b).mpr h5) z)⟩
  · obtain ⟨q1, hV⟩ := hJ b2 _ hb2 _ _ _ _ _ _ h6
    exact ⟨q1, fun p e R s m args below meth c X r1 r2 r3 rl H locs hl hP hL => lv_icmp_ge X.1 X.2.1 hd ht (fun z => by rw [(n_ge a b).mp z] at h5; cases h5) (fun _ => hV p e R s m args below meth c X r1 r2 r3 rl H locs hl hP hL)⟩
theorem s_if_ge {pcs : List Nat} {b1 b2 tgt : Nat} {off : Int} (hb1 : pcs[b1]? = some tgt) (hb2 : pcs[b2]? = some (pc + 3)) (ht : (pc : Int) + off = (tgt : Int)) (hd : decode cc pc = .ok (.ifCond .ge off, 3)) : BS (rW cl fo zs rs ns Ts G l cc nL own ret ini fr lo n0) pcs pc (t_if (fun a => rNot (rLt a 0)) b1 b2) := by
  intro J hJ ls st w n k o e0
  obtain ⟨x, st2, rfl, h3⟩ := rP_some e0
  obtain ⟨a, rfl, h4⟩ := rI_some h3
  have h4 : rB (rNot (rLt a 0)) (J b1 ls st2 w n k) (J b2 ls st2 w n k) = some o := h4
  rcases rB_some h4 with ⟨h5, h6⟩ | ⟨h5, h6⟩
  · obtain ⟨q1, hV⟩ := hJ b1 _ hb1 _ _ _ _ _ _ h6
    exact ⟨q1, fun p e R s m args below meth c X r1 r2 r3 rl H locs hl hP hL => lv_if_ge X.1 X.2.1 hd ht (fun _ => hV p e R s m args below meth c X r1 r2 r3 rl H locs hl hP hL) (fun z => absurd ((n_ge a 0).mpr h5) z)⟩
  · obtain ⟨q1, hV⟩ := hJ b2 _ hb2 _ _ _ _ _ _ h6
    exact ⟨q1, fun p e R s m args below meth c X r1 r2 r3 rl H locs hl hP hL => lv_if_ge X.1 X.2.1 hd ht (fun z => by rw [(n_ge a 0).mp z] at h5; cases h5) (fun _ => hV p e R s m args below meth c X r1 r2 r3 rl H locs hl hP hL)⟩
theorem s_icmp_gt {pcs : List Nat} {b1 b2 tgt : Nat} {off : Int} (hb1 : pcs[b1]? = some tgt) (hb2 : pcs[b2]? = some (pc + 3)) (ht : (pc : Int) + off = (tgt : Int)) (hd : decode cc pc = .ok (.if_icmp .gt off, 3)) : BS (rW cl fo zs rs ns Ts G l cc nL own ret ini fr lo n0) pcs pc (t_icmp (fun a b => rNot (rLe a b)) b1 b2) := by
  intro J hJ ls st w n k o e0
  obtain ⟨y, st', rfl, h2⟩ := rP_some e0
  obtain ⟨x, st2, rfl, h3⟩ := rP_some h2
  obtain ⟨b, rfl, h31⟩ := rI_some h3
  obtain ⟨a, rfl, h4⟩ := rI_some h31
  have h4 : rB (rNot (rLe a b)) (J b1 ls st2 w n k) (J b2 ls st2 w n k) = some o := h4
  rcases rB_some h4 with ⟨h5, h6⟩ | ⟨h5, h6⟩
  · obtain ⟨q1, hV⟩ := hJ b1 _ hb1 _ _ _ _ _ _ h6
    exact ⟨q1, fun p e R s m args below meth c X r1 r2 r3 rl H locs hl hP hL => lv_icmp_gt X.1 X.2.1 hd ht (fun _ => hV p e R s m args below meth c X r1 r2 r3 rl H locs hl hP hL) (fun z => absurd ((n_gt a b).mpr h5) z)⟩
  · obtain ⟨q1, hV⟩ := hJ b2 _ hb2 _ _ _ _ _ _ h6
    exact ⟨q1, fun p e R s m args below meth c X r1 r2 r3 rl H locs hl hP hL => lv_icmp_gt X.1 X.2.1 hd ht (fun z => by rw [(n_gt a b).mp z] at h5; cases h5) (fun _ => hV p e R s m args below meth c X r1 r2 r3 rl H locs hl hP hL)⟩
theorem s_if_gt {pcs : List Nat} {b1 b2 tgt : Nat} {off : Int} (hb1 : pcs[b1]? = some tgt) (hb2 : pcs[b2]? = some (pc + 3)) (ht : (pc : Int) + off = (tgt : Int)) (hd : decode cc pc = .ok (.ifCond .gt off, 3)) : BS (rW cl fo zs rs ns Ts G l cc nL own ret ini fr lo n0) pcs pc (t_if (fun a => rNot (rLe a 0)) b1 b2) := by
  intro J hJ ls st w n k o e0
  obtain ⟨x, st2, rfl, h3⟩ := rP_some e0
  obtain ⟨a, rfl, h4⟩ := rI_some h3
  have h4 : rB (rNot (rLe a 0)) (J b1 ls st2 w n k) (J b2 ls st2 w n k) = some o := h4
  rcases rB_some h4 with ⟨h5, h6⟩ | ⟨h5, h6⟩
  · obtain ⟨q1, hV⟩ := hJ b1 _ hb1 _ _ _ _ _ _ h6
    exact ⟨q1, fun p e R s m args below meth c X r1 r2 r3 rl H locs hl hP hL => lv_if_gt X.1 X.2.1 hd ht (fun _ => hV p e R s m args below meth c X r1 r2 r3 rl H locs hl hP hL) (fun z => absurd ((n_gt a 0).mpr h5) z)⟩
  · obtain ⟨q1, hV⟩ := hJ b2 _ hb2 _ _ _ _ _ _ h6
    exact ⟨q1, fun p e R s m args below meth c X r1 r2 r3 rl H locs hl hP hL => lv_if_gt X.1 X.2.1 hd ht (fun z => by rw [(n_gt a 0).mp z] at h5; cases h5) (fun _ => hV p e R s m args below meth c X r1 r2 r3 rl H locs hl hP hL)⟩
theorem s_icmp_le {pcs : List Nat} {b1 b2 tgt : Nat} {off : Int} (hb1 : pcs[b1]? = some tgt) (hb2 : pcs[b2]? = some (pc + 3)) (ht : (pc : Int) + off = (tgt : Int)) (hd : decode cc pc = .ok (.if_icmp .le off, 3)) : BS (rW cl fo zs rs ns Ts G l cc nL own ret ini fr lo n0) pcs pc (t_icmp rLe b1 b2) := by
  intro J hJ ls st w n k o e0
  obtain ⟨y, st', rfl, h2⟩ := rP_some e0
  obtain ⟨x, st2, rfl, h3⟩ := rP_some h2
  obtain ⟨b, rfl, h31⟩ := rI_some h3
  obtain ⟨a, rfl, h4⟩ := rI_some h31
  have h4 : rB (rLe a b) (J b1 ls st2 w n k) (J b2 ls st2 w n k) = some o := h4
  rcases rB_some h4 with ⟨h5, h6⟩ | ⟨h5, h6⟩
  · obtain ⟨q1, hV⟩ := hJ b1 _ hb1 _ _ _ _ _ _ h6
    exact ⟨q1, fun p e R s m args below meth c X r1 r2 r3 rl H locs hl hP hL => lv_icmp_le X.1 X.2.1 hd ht (fun _ => hV p e R s m args below meth c X r1 r2 r3 rl H locs hl hP hL) (fun z => absurd ((n_le a b).mpr h5) z)⟩
  · obtain ⟨q1, hV⟩ := hJ b2 _ hb2 _ _ _ _ _ _ h6
    exact ⟨q1, fun p e R s m args below meth c X r1 r2 r3 rl H locs hl hP hL => lv_icmp_le X.1 X.2.1 hd ht (fun z => by rw [(n_le a b).mp z] at h5; cases h5) (fun _ => hV p e R s m args below meth c X r1 r2 r3 rl H locs hl hP hL)⟩
theorem s_if_le {pcs : List Nat} {b1 b2 tgt : Nat} {off : Int} (hb1 : pcs[b1]? = some tgt) (hb2 : pcs[b2]? = some (pc + 3)) (ht : (pc : Int) + off = (tgt : Int)) (hd : decode cc pc = .ok (.ifCond .le off, 3)) : BS (rW cl fo zs rs ns Ts G l cc nL own ret ini fr lo n0) pcs pc (t_if (fun a => rLe a 0) b1 b2) := by
  intro J hJ ls st w n k o e0
  obtain ⟨x, st2, rfl, h3⟩ := rP_some e0
  obtain ⟨a, rfl, h4⟩ := rI_some h3
  have h4 : rB (rLe a 0) (J b1 ls st2 w n k) (J b2 ls st2 w n k) = some o := h4
  rcases rB_some h4 with ⟨h5, h6⟩ | ⟨h5, h6⟩
  · obtain ⟨q1, hV⟩ := hJ b1 _ hb1 _ _ _ _ _ _ h6
    exact ⟨q1, fun p e R s m args below meth c X r1 r2 r3 rl H locs hl hP hL => lv_if_le X.1 X.2.1 hd ht (fun _ => hV p e R s m args below meth c X r1 r2 r3 rl H locs hl hP hL) (fun z => absurd ((n_le a 0).mpr h5) z)⟩
  · obtain ⟨q1, hV⟩ := hJ b2 _ hb2 _ _ _ _ _ _ h6
    exact ⟨q1, fun p e R s m args below meth c X r1 r2 r3 rl H locs hl hP hL => lv_if_le X.1 X.2.1 hd ht (fun z => by rw [(n_le a 0).mp z] at h5; cases h5) (fun _ => hV p e R s m args below meth c X r1 r2 r3 rl H locs hl hP hL)⟩
theorem s_ifnull {pcs : List Nat} {b1 b2 tgt : Nat} {off : Int} (hb1 : pcs[b1]? = some tgt) (hb2 : pcs[b2]? = some (pc + 3)) (ht : (pc : Int) + off = (tgt : Int)) (hd : decode cc pc = .ok (.ifnull off, 3)) : BS (rW cl fo zs rs ns Ts G l cc nL own ret ini fr lo n0) pcs pc (t_nul b1 b2) := by
  intro J hJ ls st w n k o e0
  obtain ⟨x, st2, rfl, h3⟩ := rP_some e0
  obtain ⟨a, rfl, h4⟩ := rR_some h3
  rcases rB_some h4 with ⟨h5, h6⟩ | ⟨h5, h6⟩
  · obtain ⟨q1, hV⟩ := hJ b1 _ hb1 _ _ _ _ _ _ h6
    have ha : a = 0 := Nat.eq_of_beq_eq_true h5
    subst ha
    exact ⟨q1, fun p e R s m args below meth c X r1 r2 r3 rl H locs hl hP hL => lv_ifnullN X.1 X.2.1 hd ht (hV p e R s m args below meth c X r1 r2 r3 rl H locs hl hP hL)⟩
  · obtain ⟨h7, h6⟩ := rB_yes h6
    obtain ⟨q1, hV⟩ := hJ b2 _ hb2 _ _ _ _ _ _ h6
    refine ⟨q1, fun p e R s m args below meth c X r1 r2 r3 rl H locs hl hP hL => ?_⟩
    rw [List.map_cons, rv_own G (Nat.eq_of_beq_eq_true h7)]
    exact lv_ifnull X.1 X.2.1 hd (hV p e R s m args below meth c X r1 r2 r3 rl H locs hl hP hL)
theorem s_ifnonnull {pcs : List Nat} {b1 b2 tgt : Nat} {off : Int} (hb1 : pcs[b1]? = some (pc + 3)) (hb2 : pcs[b2]? = some tgt) (ht : (pc : Int) + off = (tgt : Int)) (hd : decode cc pc = .ok (.ifnonnull off, 3)) : BS (rW cl fo zs rs ns Ts G l cc nL own ret ini fr lo n0) pcs pc (t_nul b1 b2) := by
  intro J hJ ls st w n k o e0
  obtain ⟨x, st2, rfl, h3⟩ := rP_some e0
  obtain ⟨a, rfl, h4⟩ := rR_some h3
  rcases rB_some h4 with ⟨h5, h6⟩ | ⟨h5, h6⟩
  · obtain ⟨q1, hV⟩ := hJ b1 _ hb1 _ _ _ _ _ _ h6
    have ha : a = 0 := Nat.eq_of_beq_eq_true h5
    subst ha
    exact ⟨q1, fun p e R s m args below meth c X r1 r2 r3 rl H locs hl hP hL => lv_ifnonnullN X.1 X.2.1 hd (hV p e R s m args below meth c X r1 r2 r3 rl H locs hl hP hL)⟩
  · obtain ⟨h7, h6⟩ := rB_yes h6
    obtain ⟨q1, hV⟩ := hJ b2 _ hb2 _ _ _ _ _ _ h6
    refine ⟨q1, fun p e R s m args below meth c X r1 r2 r3 rl H locs hl hP hL => ?_⟩
    rw [List.map_cons, rv_own G (Nat.eq_of_beq_eq_true h7)]
    exact lv_ifnonnull X.1 X.2.1 hd ht (hV p e R s m args below meth c X r1 r2 r3 rl H locs hl hP hL)
end RR
end
section
/-! THE RUNNER'S ROWS FOR THE HEAP -/
theorem rO_some {β : Type} {w : rWd} {r : Nat} {k : Nat → rCC → Option β} {o : β} (h : rO w r k = some o) : r % 2 = 1 ∧ ∃ x, wGet (r / 2) w = some x ∧ k (r / 2) x = some o := by
  obtain ⟨h1, h2⟩ := rB_yes h
  rw [rN_eq] at h2
  obtain ⟨x, h5, h6⟩ := rWG_some _ h2
  exact ⟨Nat.eq_of_beq_eq_true h1, x, h5, h6⟩
theorem rOF_some {β : Type} {fo : List rCC} {w : rWd} {r : Nat} {k : rCC → Option β} {o : β} (h : rOF fo w r k = some o) : (r % 2 = 1 ∧ ∃ x, wGet (r / 2) w = some x ∧ k x = some o) ∨ (¬ r % 2 = 1 ∧ ¬ r = 0 ∧ ∃ x, fo[r / 2 - 1]? = some x ∧ k x = some o) := by
  rcases rB_some h with ⟨h1, h2⟩ | ⟨h1, h2⟩
  · obtain ⟨a, x, c, d⟩ := rO_some h2
    exact Or.inl ⟨a, x, c, d⟩
  · obtain ⟨h3, h4⟩ := rB_no h2
    rw [rN_eq] at h4
    obtain ⟨x, h5, h6⟩ := rG_some _ _ h4
    refine Or.inr ⟨fun q => ?_, fun q => ?_, x, h5, h6⟩
    · have h1' : Nat.beq (r % 2) 1 = false := h1
      rw [q] at h1'; cases h1'
    · subst q; cases h3
/-- the map with place i set -/
def rUP (q i : Nat) (v : rCV) : rMp → rMp
  | [] => [(q, [(i, v)])]
  | (a, l) :: xs => if a = q then (a, (i, v) :: l) :: xs else (a, l) :: rUP q i v xs
theorem rU_eq {β : Type} {q i : Nat} {v : rCV} : ∀ (m : rMp) (k : rMp → Option β), rU m q i v k = k (rUP q i v m)
  | [], k => rfl
  | (a, l) :: xs, k => by
    show rB (Nat.beq a q) (k ((a, (i, v) :: l) :: xs)) (rU xs q i v (fun ys => k ((a, l) :: ys))) = k (if a = q then (a, (i, v) :: l) :: xs else (a, l) :: rUP q i v xs)
    by_cases e : a = q
    · rw [if_pos e, beq_t e]; rfl
    · rw [if_neg e, beq_f e]
      exact rU_eq xs _
/-- block q's part of the look-up -/
noncomputable def rLq (d : rCV) (q i : Nat) : rMp → rCV
  | [] => d
  | (a, l) :: xs => if a = q then rLi d l i else rLq d q i xs
theorem rL_eq (d : rCV) (m : rMp) (i : Nat) : rL d m i = rLq d (i / 64) i m := by
  show rN (i / 64) _ = _
  rw [rN_eq]
  induction m with
  | nil => rfl
  | cons x xs ih =>
    obtain ⟨a, l⟩ := x
    show rB (Nat.beq a (i / 64)) (rLi d l i) _ = if a = i / 64 then rLi d l i else rLq d (i / 64) i xs
    by_cases e : a = i / 64
    · rw [if_pos e, beq_t e]; rfl
    · rw [if_neg e, beq_f e, ← ih]; rfl
theorem rLi_cons (d : rCV) (a i : Nat) (v : rCV) (l : List (Nat × rCV)) : rLi d ((a, v) :: l) i = if i = a then v else rLi d l i := by
  show rB (Nat.beq a i) v (rLi d l i) = _
  by_cases e : i = a
  · rw [if_pos e, beq_t e.symm]; rfl
  · rw [if_neg e, beq_f (fun q => e q.symm)]; rfl
theorem rL_up (d : rCV) (m : rMp) (i : Nat) (v : rCV) (j : Nat) : rL d (rUP (i / 64) i v m) j = if j = i then v else rL d m j := by
  rw [rL_eq, rL_eq]
  induction m with
  | nil =>
    show (if i / 64 = j / 64 then rLi d [(i, v)] j else d) = if j = i then v else d
    rw [rLi_cons]
    by_cases e : j = i
    · subst e; simp
    · rw [if_neg e, if_neg e]
      by_cases e2 : i / 64 = j / 64
      · rw [if_pos e2]; rfl
      · rw [if_neg e2]
  | cons x xs ih =>
    obtain ⟨a, l⟩ := x
    show rLq d (j / 64) j (if a = i / 64 then (a, (i, v) :: l) :: xs else (a, l) :: rUP (i / 64) i v xs) = if j = i then v else (if a = j / 64 then rLi d l j else rLq d (j / 64) j xs)
    by_cases e1 : a = i / 64
    · rw [if_pos e1]
      show (if a = j / 64 then rLi d ((i, v) :: l) j else rLq d (j / 64) j xs) = _
      rw [rLi_cons]
      by_cases e : j = i
      · subst e; rw [if_pos e1, if_pos rfl, if_pos rfl]
      · rw [if_neg e, if_neg e]
    · rw [if_neg e1]
      show (if a = j / 64 then rLi d l j else rLq d (j / 64) j (rUP (i / 64) i v xs)) = _
      rw [ih]
      by_cases e : j = i
      · subst e; rw [if_neg e1, if_pos rfl, if_pos rfl]
      · rw [if_neg e, if_neg e]
theorem okI_e {t : Nat} {v : rCV} (h : okI t v = true) : t = 0 ∧ ∃ a, v = .inl a := by
  obtain ⟨h1, h2⟩ := rB_and h
  exact ⟨Nat.eq_of_beq_eq_true h1, isI_e h2⟩
theorem okJ_e {t : Nat} {v : rCV} (h : okJ t v = true) : t = 1 ∧ ∃ a, v = .inr (.inl a) := by
  obtain ⟨h1, h2⟩ := rB_and h
  exact ⟨Nat.eq_of_beq_eq_true h1, isJ_e h2⟩
theorem okA_e {t : Nat} {v : rCV} (h : okA t v = true) : 4 ≤ t ∧ ∃ a, v = .inr (.inr a) := by
  obtain ⟨h1, h2⟩ := rB_and h
  exact ⟨Nat.ble_eq.mp h1, isR_e h2⟩
theorem okB_e {t : Nat} {v : rCV} (h : okB t v = true) : (t = 2 ∧ isB v = true) ∨ (t = 3 ∧ isZ v = true) := by
  have h' : rB (Nat.beq t 2) (isB v) (rB (Nat.beq t 3) (isZ v) false) = true := h
  cases e : Nat.beq t 2
  · rw [e] at h'
    obtain ⟨h1, h2⟩ := rB_and h'
    exact Or.inr ⟨Nat.eq_of_beq_eq_true h1, h2⟩
  · rw [e] at h'
    exact Or.inl ⟨Nat.eq_of_beq_eq_true e, h'⟩
theorem rTy_ref {t : Nat} (h : 4 ≤ t) : (rTy t).isReference = true := by
  match t, h with
  | 4, _ => rfl
  | 5, _ => rfl
  | t + 6, _ => rfl
theorem isB_e {v : rCV} (h : isB v = true) : ∃ a, v = .inl a ∧ narrow .byte (.int (nI a)) = .int (nI a) := by
  rcases v with a | a | a
  · refine ⟨a, rfl, ?_⟩
    have h' : rB (Nat.ble a 127) true (rB (Nat.ble 4294967168 a) (Nat.blt a 4294967296) false) = true := h
    cases e : Nat.ble a 127
    · rw [e] at h'
      obtain ⟨h1, h2⟩ := rB_and h'
      have g1 : 4294967168 ≤ a := Nat.ble_eq.mp h1
      have g2 : a < 4294967296 := Nat.blt_eq.mp h2
      have := n_bb2 (a - 4294967168) (by omega)
      rw [Nat.sub_add_cancel g1] at this
      exact this
    · have g1 : a ≤ 127 := Nat.ble_eq.mp e
      exact n_bb a (by omega)
  · cases h
  · cases h
theorem isZ_e {v : rCV} (h : isZ v = true) : ∃ a, v = .inl a ∧ narrow .boolean (.int (nI a)) = .int (nI a) ∧ a ≤ 1 := by
  rcases v with a | a | a
  · have g1 : a ≤ 1 := Nat.ble_eq.mp h
    refine ⟨a, rfl, ?_, g1⟩
    match a, g1 with
    | 0, _ => rfl
    | 1, _ => rfl
  · cases h
  · cases h
theorem locs_put {b a k : Nat} {locs : List Loc} (h : ∀ x ∈ locs, b ≤ x.base) : ∀ x ∈ locs ++ [⟨b + a, k⟩], b ≤ x.base := by
  intro x hx
  rcases List.mem_append.mp hx with q | q
  · exact h x q
  · rw [List.mem_singleton.mp q]; exact Nat.le_add_right _ _
theorem arr_up {G : rGm} {d v : rCV} {m : rMp} {i N : Nat} (cA : ClassId) (hh : True := trivial) : arrV cA N (updV (fun j => rv G (rL d m j)) i (rv G v)) = arrV cA N (fun j => rv G (rL d (rUP (i / 64) i v m) j)) := by
  congr 1
  funext j
  rw [rL_up]
  unfold updV
  by_cases q : j = i
  · rw [if_pos q, if_pos q]
  · rw [if_neg q, if_neg q]
section RH
variable {cl : List vw_C} {fo : List rCC} {zs : List (String × String × String × rCV)} {rs : List (String × Nat × String × Nat)} {ns : List Cond} {Ts : List Cond} {G : rGm}
theorem rCell.kept {x : rCC} {H H1 : Heap} {a : Nat} (h : rCell cl G x H a) (hq : H1[a]? = H[a]?) : rCell cl G x H1 a := by
  rcases x with ⟨ci, fs⟩ | ⟨t, N, d, m⟩
  · obtain ⟨r, h1, h2⟩ := h
    exact ⟨r, h1, h2.kept hq⟩
  · exact ⟨h.1, h.2.1, hq.trans h.2.2⟩
theorem pic_cell {w : rWd} {n : Nat} {H : Heap} {i : Nat} {x : rCC} (hP : rPic cl G w n H) (hp : wGet i w = some x) : rCell cl G x H (G.2.2.1 + i) := (hP.2.2 i x hp).2
theorem pic_set {w : rWd} {n : Nat} {H H1 : Heap} {i : Nat} {x0 x : rCC} (hP : rPic cl G w n H) (hp : wGet i w = some x0) (hc : rCell cl G x H1 (G.2.2.1 + i)) (hz : H1.size = H.size) (oq : ∀ q : Nat, q ≠ G.2.2.1 + i → H1[q]? = H[q]?) : rPic cl G (wSet i x w) n H1 := by
  refine ⟨by rw [hz, hP.1], fun q hq => (oq q (by omega)).trans (hP.2.1 q hq), fun j y hy => ?_⟩
  rcases wGet_set w hy with ⟨e1, e2⟩ | ⟨e1, e2⟩
  · subst e1; subst e2
    exact ⟨(hP.2.2 _ _ hp).1, hc⟩
  · exact ⟨(hP.2.2 j y e2).1, (hP.2.2 j y e2).2.kept (oq _ (by omega))⟩
theorem pic_push {w : rWd} {n : Nat} {H H1 : Heap} {x : rCC} (hP : rPic cl G w n H) (hc : rCell cl G x H1 H.size) (hz : H1.size = H.size + 1) (oq : ∀ q : Nat, q < H.size → H1[q]? = H[q]?) : rPic cl G ((n, x) :: w) (n + 1) H1 := by
  refine ⟨by rw [hz, hP.1]; omega, fun q hq => (oq q (by rw [hP.1]; omega)).trans (hP.2.1 q hq), fun j y hy => ?_⟩
  have hy' : (if n = j then some x else wGet j w) = some y := hy
  by_cases e : n = j
  · rw [if_pos e] at hy'
    cases hy'
    subst e
    refine ⟨Nat.lt_succ_self _, ?_⟩
    rw [← hP.1]; exact hc
  · rw [if_neg e] at hy'
    obtain ⟨h1, h2⟩ := hP.2.2 j y hy'
    exact ⟨by omega, h2.kept (oq _ (by rw [hP.1]; omega))⟩
theorem rFx.moved {u U : State} (hvm : u.vm.Alike U.vm) {i : Nat} {x : rCC} (h : rFx cl G i x u) : rFx cl G i x U := by
  rcases x with ⟨ci, fs⟩ | ⟨t, N, d, m⟩
  · exact h
  · obtain ⟨a, h1, h2, h3, h4, h5⟩ := h
    exact ⟨a, h1, h2, h3, h4, va_T.moved hvm h5⟩
theorem rKK.warm {s U : State} (hW : s.WarmedH U.vm) (h : rKK cl fo zs rs ns G s) : rKK cl fo zs rs ns G U := by
  obtain ⟨h1, h2, h3, h4, h5, h6⟩ := h
  refine ⟨va_K.moved hW.alike h1, ⟨h2.1, fun w hw => ⟨(h2.2 w hw).2 _ _ hW (h2.2 w hw).1, (h2.2 w hw).2⟩⟩, h3, fun q hq => va_Z.moved hW.alike (h4 q hq), fun q hq => ?_, fun i x hi => (h6 i x hi).moved hW.alike⟩
  obtain ⟨a, e1, e2⟩ := h5 q hq
  exact ⟨a, e1, e2.warm hW⟩
theorem rTys_at {t : Nat} (ht : t < 7) : (rTys G)[t]? = some (G.2.1 t, rTy t) := by
  unfold rTys
  rw [List.getElem?_map, List.getElem?_range ht]
  rfl
theorem rKK.arr {s : State} (h : rKK cl fo zs rs ns G s) {t : Nat} (ht : t < 7) (n : Nat) (z : Nat → Value) : s.isArrayOf (arrV (G.2.1 t) n z) (rTy t) := (h.1.2 t _ (rTys_at ht)).1 n z
/-- an array that a reference names: its cell -/
theorem arr_at {s : State} {w : rWd} {n : Nat} {H : Heap} {r t N : Nat} {d : rCV} {m : rMp} (hK : rKK cl fo zs rs ns G s) (hP : rPic cl G w n H)
    (h : (r % 2 = 1 ∧ wGet (r / 2) w = some (.inr (t, N, d, m))) ∨ (¬ r % 2 = 1 ∧ ¬ r = 0 ∧ fo[r / 2 - 1]? = some (.inr (t, N, d, m)))) :
    t < 7 ∧ N ≤ 60000000 ∧ ∃ (a : Nat) (cell : Cell), rv G (.inr (.inr r)) = .ref a ∧ H[a]? = some cell ∧ s.isArrayOf cell (rTy t) ∧ cell.vm ≠ .unknown ∧ N ≤ cell.slots.size ∧ cell.slots.size.toInt32 = nI N ∧ ∀ j : Nat, j < N → cell.slots[j]? = some (rv G (rL d m j)) := by
  rcases h with ⟨h1, h3⟩ | ⟨h1, h2, h3⟩
  · obtain ⟨c1, c2, c3⟩ := pic_cell hP h3
    refine ⟨c1, c2, _, _, rv_own G h1, c3, hK.arr c1 _ _, (fun q => by cases q), by rw [arrV_size]; exact Nat.le_refl _, by rw [arrV_size]; rfl, fun j hj => by rw [arrV_read _ _ hj]⟩
  · obtain ⟨a, g1, g2, g3, g4, cell, g5, g6, g7, g8, g9, g10, -⟩ := hK.2.2.2.2.2 _ _ h3
    exact ⟨by omega, g4, a, cell, by rw [rv_ext G h1 h2, g1], by rw [hP.2.1 a g2]; exact g5, g6, g7, g8, g9, g10⟩
theorem ix_in {i N sz : Nat} (hi : i < N) (hN : N ≤ 60000000) (hz : N ≤ sz) : ¬ (nI i < 0 ∨ sz ≤ (nI i).toNatClampNeg) := by
  rw [nI_clamp (by omega)]
  intro q
  rcases q with q | q
  · exact nI_pos (by omega) q
  · omega
variable {l : Launch} {cc : ByteArray} {nL n0 : Nat} {own : String} {pc : Nat} {ret : Option FieldType} {ini : Bool} {fr lo : Nat}
/-- a row that reads the heap -/
theorem s_rowH {pc' : Nat} {h : rK → rK} (hh : ∀ (k : rK) (ls : rLs) (st : List rCV) (w : rWd) (n k0 : Nat) (o : rOut), h k ls st w n k0 = some o → ∃ st', k ls st' w n k0 = some o ∧ ∀ (p : Program) (e : Env) (R : Room) (s : State) (m : MethodId) (args : Array Value) (below : List Frame) (meth : Method) (c : Code), rCx cl fo zs rs ns Ts G p R s m args meth c cc nL own ret ini fr lo → ∀ (rl : Array Slot) (H : Heap) (locs : List Loc) (cells slots : Nat) (Q : State → Prop), rPic cl G w n H → W p l e R s m args below meth c H locs cells slots Q (F0 m pc' rl (st'.map (rv G))) → W p l e R s m args below meth c H locs cells slots Q (F0 m pc rl (st.map (rv G)))) :
    HS (rW cl fo zs rs ns Ts G l cc nL own ret ini fr lo n0) pc pc' h := by
  intro k ls st w n k0 o e0
  obtain ⟨st', e1, hr⟩ := hh k ls st w n k0 o e0
  refine ⟨ls, st', w, n, k0, e1, Nat.le_refl _, Nat.le_refl _, fun _ _ hV p e R s m args below meth c X r1 r2 r3 rl H locs hl hP hL => ?_⟩
  exact hr p e R s m args below meth c X rl H locs _ _ _ hP (hV p e R s m args below meth c X r1 r2 r3 rl H locs hl hP hL)
theorem s_alen (hd : decode cc pc = .ok (.arraylength, 1)) : HS (rW cl fo zs rs ns Ts G l cc nL own ret ini fr lo n0) pc (pc + 1) (h_alen fo) := by
  apply s_rowH
  intro k0 ls st w n kk o e0
  obtain ⟨x, st', rfl, h2⟩ := rP_some e0
  obtain ⟨r, rfl, h3⟩ := rR_some h2
  have key : ∃ t N d m, ((r % 2 = 1 ∧ wGet (r / 2) w = some (.inr (t, N, d, m))) ∨ (¬ r % 2 = 1 ∧ ¬ r = 0 ∧ fo[r / 2 - 1]? = some (.inr (t, N, d, m)))) ∧ k0 ls (.inl N :: st') w n kk = some o := by
    rcases rOF_some h3 with ⟨a, x, f, h⟩ | ⟨a, b, x, f, h⟩
    · obtain ⟨t, N, d, m, rfl, h5⟩ := rCA_some h
      exact ⟨t, N, d, m, Or.inl ⟨a, f⟩, h5⟩
    · obtain ⟨t, N, d, m, rfl, h5⟩ := rCA_some h
      exact ⟨t, N, d, m, Or.inr ⟨a, b, f⟩, h5⟩
  obtain ⟨t, N, d, mm, h4, h5⟩ := key
  refine ⟨_, h5, fun p e R s m args below meth c X rl H locs cells slots Q hP hk => ?_⟩
  obtain ⟨c1, c2, a, cell, c3, c4, c5, c6, c7, c8, c9⟩ := arr_at X.2.2.2.2.2.1 hP h4
  rw [List.map_cons, c3]
  exact W.alen (n := nI N) X.1 X.2.1 c4 c5 c8 rfl rfl hd hk
theorem s_iaload (hd : decode cc pc = .ok (.iaload, 1)) : HS (rW cl fo zs rs ns Ts G l cc nL own ret ini fr lo n0) pc (pc + 1) (h_ald fo okI) := by
  apply s_rowH
  intro k0 ls st w n kk o e0
  obtain ⟨y, st', rfl, h1⟩ := rP_some e0
  obtain ⟨x, st2, rfl, h2⟩ := rP_some h1
  obtain ⟨i, rfl, h3⟩ := rI_some h2
  obtain ⟨r, rfl, h31⟩ := rR_some h3
  have key : ∃ t N d m, ((r % 2 = 1 ∧ wGet (r / 2) w = some (.inr (t, N, d, m))) ∨ (¬ r % 2 = 1 ∧ ¬ r = 0 ∧ fo[r / 2 - 1]? = some (.inr (t, N, d, m)))) ∧ i < N ∧ okI t (rL d m i) = true ∧ k0 ls (rL d m i :: st2) w n kk = some o := by
    rcases rOF_some h31 with ⟨a, x, f, h⟩ | ⟨a, b, x, f, h⟩
    · obtain ⟨t, N, d, m, rfl, h5⟩ := rCA_some h
      obtain ⟨h6, h7⟩ := rB_yes h5
      rw [rV_eq] at h7
      obtain ⟨h8, h9⟩ := rB_yes h7
      exact ⟨t, N, d, m, Or.inl ⟨a, f⟩, Nat.blt_eq.mp h6, h8, h9⟩
    · obtain ⟨t, N, d, m, rfl, h5⟩ := rCA_some h
      obtain ⟨h6, h7⟩ := rB_yes h5
      rw [rV_eq] at h7
      obtain ⟨h8, h9⟩ := rB_yes h7
      exact ⟨t, N, d, m, Or.inr ⟨a, b, f⟩, Nat.blt_eq.mp h6, h8, h9⟩
  obtain ⟨t, N, d, mm, h4, h6, h7, h5⟩ := key
  refine ⟨_, h5, fun p e R s m args below meth c X rl H locs cells slots Q hP hk => ?_⟩
  obtain ⟨c1, c2, a, cell, c3, c4, c5, c6, c7, c8, c9⟩ := arr_at X.2.2.2.2.2.1 hP h4
  rw [List.map_cons, List.map_cons, c3]
  obtain ⟨rfl, a1, e1⟩ := okI_e h7
  exact W.iald X.1 X.2.1 c4 c5 c6 (ix_in h6 c2 c7) (by rw [nI_clamp (by omega)]; exact c9 i h6) rfl rfl hd hk
theorem s_laload (hd : decode cc pc = .ok (.laload, 1)) : HS (rW cl fo zs rs ns Ts G l cc nL own ret ini fr lo n0) pc (pc + 1) (h_ald fo okJ) := by
  apply s_rowH
  intro k0 ls st w n kk o e0
  obtain ⟨y, st', rfl, h1⟩ := rP_some e0
  obtain ⟨x, st2, rfl, h2⟩ := rP_some h1
  obtain ⟨i, rfl, h3⟩ := rI_some h2
  obtain ⟨r, rfl, h31⟩ := rR_some h3
  have key : ∃ t N d m, ((r % 2 = 1 ∧ wGet (r / 2) w = some (.inr (t, N, d, m))) ∨ (¬ r % 2 = 1 ∧ ¬ r = 0 ∧ fo[r / 2 - 1]? = some (.inr (t, N, d, m)))) ∧ i < N ∧ okJ t (rL d m i) = true ∧ k0 ls (rL d m i :: st2) w n kk = some o := by
    rcases rOF_some h31 with ⟨a, x, f, h⟩ | ⟨a, b, x, f, h⟩
    · obtain ⟨t, N, d, m, rfl, h5⟩ := rCA_some h
      obtain ⟨h6, h7⟩ := rB_yes h5
      rw [rV_eq] at h7
      obtain ⟨h8, h9⟩ := rB_yes h7
      exact ⟨t, N, d, m, Or.inl ⟨a, f⟩, Nat.blt_eq.mp h6, h8, h9⟩
    · obtain ⟨t, N, d, m, rfl, h5⟩ := rCA_some h
      obtain ⟨h6, h7⟩ := rB_yes h5
      rw [rV_eq] at h7
      obtain ⟨h8, h9⟩ := rB_yes h7
      exact ⟨t, N, d, m, Or.inr ⟨a, b, f⟩, Nat.blt_eq.mp h6, h8, h9⟩
  obtain ⟨t, N, d, mm, h4, h6, h7, h5⟩ := key
  refine ⟨_, h5, fun p e R s m args below meth c X rl H locs cells slots Q hP hk => ?_⟩
  obtain ⟨c1, c2, a, cell, c3, c4, c5, c6, c7, c8, c9⟩ := arr_at X.2.2.2.2.2.1 hP h4
  rw [List.map_cons, List.map_cons, c3]
  obtain ⟨rfl, a1, e1⟩ := okJ_e h7
  exact W.lald X.1 X.2.1 c4 c5 c6 (ix_in h6 c2 c7) (by rw [nI_clamp (by omega)]; exact c9 i h6) rfl rfl hd hk
theorem s_baload (hd : decode cc pc = .ok (.baload, 1)) : HS (rW cl fo zs rs ns Ts G l cc nL own ret ini fr lo n0) pc (pc + 1) (h_ald fo okB) := by
  apply s_rowH
  intro k0 ls st w n kk o e0
  obtain ⟨y, st', rfl, h1⟩ := rP_some e0
  obtain ⟨x, st2, rfl, h2⟩ := rP_some h1
  obtain ⟨i, rfl, h3⟩ := rI_some h2
  obtain ⟨r, rfl, h31⟩ := rR_some h3
  have key : ∃ t N d m, ((r % 2 = 1 ∧ wGet (r / 2) w = some (.inr (t, N, d, m))) ∨ (¬ r % 2 = 1 ∧ ¬ r = 0 ∧ fo[r / 2 - 1]? = some (.inr (t, N, d, m)))) ∧ i < N ∧ okB t (rL d m i) = true ∧ k0 ls (rL d m i :: st2) w n kk = some o := by
    rcases rOF_some h31 with ⟨a, x, f, h⟩ | ⟨a, b, x, f, h⟩
    · obtain ⟨t, N, d, m, rfl, h5⟩ := rCA_some h
      obtain ⟨h6, h7⟩ := rB_yes h5
      rw [rV_eq] at h7
      obtain ⟨h8, h9⟩ := rB_yes h7
      exact ⟨t, N, d, m, Or.inl ⟨a, f⟩, Nat.blt_eq.mp h6, h8, h9⟩
    · obtain ⟨t, N, d, m, rfl, h5⟩ := rCA_some h
      obtain ⟨h6, h7⟩ := rB_yes h5
      rw [rV_eq] at h7
      obtain ⟨h8, h9⟩ := rB_yes h7
      exact ⟨t, N, d, m, Or.inr ⟨a, b, f⟩, Nat.blt_eq.mp h6, h8, h9⟩
  obtain ⟨t, N, d, mm, h4, h6, h7, h5⟩ := key
  refine ⟨_, h5, fun p e R s m args below meth c X rl H locs cells slots Q hP hk => ?_⟩
  obtain ⟨c1, c2, a, cell, c3, c4, c5, c6, c7, c8, c9⟩ := arr_at X.2.2.2.2.2.1 hP h4
  rw [List.map_cons, List.map_cons, c3]
  rcases okB_e h7 with ⟨rfl, -⟩ | ⟨rfl, -⟩
  · exact W.bald X.1 X.2.1 c4 c5 c6 (ix_in h6 c2 c7) (by rw [nI_clamp (by omega)]; exact c9 i h6) rfl rfl hd hk
  · exact W.zald X.1 X.2.1 c4 c5 c6 (ix_in h6 c2 c7) (by rw [nI_clamp (by omega)]; exact c9 i h6) rfl rfl hd hk
theorem s_aaload (hd : decode cc pc = .ok (.aaload, 1)) : HS (rW cl fo zs rs ns Ts G l cc nL own ret ini fr lo n0) pc (pc + 1) (h_ald fo okA) := by
  apply s_rowH
  intro k0 ls st w n kk o e0
  obtain ⟨y, st', rfl, h1⟩ := rP_some e0
  obtain ⟨x, st2, rfl, h2⟩ := rP_some h1
  obtain ⟨i, rfl, h3⟩ := rI_some h2
  obtain ⟨r, rfl, h31⟩ := rR_some h3
  have key : ∃ t N d m, ((r % 2 = 1 ∧ wGet (r / 2) w = some (.inr (t, N, d, m))) ∨ (¬ r % 2 = 1 ∧ ¬ r = 0 ∧ fo[r / 2 - 1]? = some (.inr (t, N, d, m)))) ∧ i < N ∧ okA t (rL d m i) = true ∧ k0 ls (rL d m i :: st2) w n kk = some o := by
    rcases rOF_some h31 with ⟨a, x, f, h⟩ | ⟨a, b, x, f, h⟩
    · obtain ⟨t, N, d, m, rfl, h5⟩ := rCA_some h
      obtain ⟨h6, h7⟩ := rB_yes h5
      rw [rV_eq] at h7
      obtain ⟨h8, h9⟩ := rB_yes h7
      exact ⟨t, N, d, m, Or.inl ⟨a, f⟩, Nat.blt_eq.mp h6, h8, h9⟩
    · obtain ⟨t, N, d, m, rfl, h5⟩ := rCA_some h
      obtain ⟨h6, h7⟩ := rB_yes h5
      rw [rV_eq] at h7
      obtain ⟨h8, h9⟩ := rB_yes h7
      exact ⟨t, N, d, m, Or.inr ⟨a, b, f⟩, Nat.blt_eq.mp h6, h8, h9⟩
  obtain ⟨t, N, d, mm, h4, h6, h7, h5⟩ := key
  refine ⟨_, h5, fun p e R s m args below meth c X rl H locs cells slots Q hP hk => ?_⟩
  obtain ⟨c1, c2, a, cell, c3, c4, c5, c6, c7, c8, c9⟩ := arr_at X.2.2.2.2.2.1 hP h4
  rw [List.map_cons, List.map_cons, c3]
  obtain ⟨g1, a1, e1⟩ := okA_e h7
  exact W.aald X.1 X.2.1 c4 c5 (rTy_ref g1) c6 (ix_in h6 c2 c7) (by rw [nI_clamp (by omega)]; exact c9 i h6) rfl rfl hd hk
theorem s_iastore (hd : decode cc pc = .ok (.iastore, 1)) : HS (rW cl fo zs rs ns Ts G l cc nL own ret ini fr lo n0) pc (pc + 1) (h_ast okI) := by
  intro k0 ls st w n kk o e0
  obtain ⟨v, st0, rfl, h0⟩ := rP_some e0
  obtain ⟨y, st1, rfl, h1⟩ := rP_some h0
  obtain ⟨x, st2, rfl, h2⟩ := rP_some h1
  obtain ⟨i, rfl, h3⟩ := rI_some h2
  obtain ⟨r, rfl, h31⟩ := rR_some h3
  obtain ⟨q1, cell, hp, h⟩ := rO_some h31
  obtain ⟨t, N, d, mm, rfl, h5⟩ := rCA_some h
  obtain ⟨h7, h8⟩ := rB_yes h5
  obtain ⟨h6, h9⟩ := rB_yes h8
  have h6 : i < N := Nat.blt_eq.mp h6
  rw [rN_eq, rU_eq] at h9
  have h11 := rWS_some _ _ h9
  refine ⟨ls, st2, _, n, kk, h11, Nat.le_refl _, Nat.le_refl _, fun _ _ hV p e R s m args below meth c X r1 r2 r3 rl H locs hl hP hL => ?_⟩
  obtain ⟨c1, c2, c3⟩ := pic_cell hP hp
  rw [List.map_cons, List.map_cons, List.map_cons, rv_own G q1]
  obtain ⟨rfl, a, rfl⟩ := okI_e h7
  refine W.iast X.1 X.2.1 c3 (X.2.2.2.2.2.1.arr (t := 0) (by decide) N _) (fun q => by cases q) (ix_in h6 c2 (by rw [arrV_size]; exact Nat.le_refl _)) rfl rfl hd (fun H1 e1 z1 o1 => ?_)
  refine hV p e R s m args below meth c X r1 r2 r3 rl H1 _ hl (pic_set hP hp ⟨by decide, c2, ?_⟩ z1 o1) (locs_put hL)
  rw [e1, arrV_store, nI_clamp (by omega)]
  exact congrArg some (arr_up (v := .inl a) _)
theorem s_lastore (hd : decode cc pc = .ok (.lastore, 1)) : HS (rW cl fo zs rs ns Ts G l cc nL own ret ini fr lo n0) pc (pc + 1) (h_ast okJ) := by
  intro k0 ls st w n kk o e0
  obtain ⟨v, st0, rfl, h0⟩ := rP_some e0
  obtain ⟨y, st1, rfl, h1⟩ := rP_some h0
  obtain ⟨x, st2, rfl, h2⟩ := rP_some h1
  obtain ⟨i, rfl, h3⟩ := rI_some h2
  obtain ⟨r, rfl, h31⟩ := rR_some h3
  obtain ⟨q1, cell, hp, h⟩ := rO_some h31
  obtain ⟨t, N, d, mm, rfl, h5⟩ := rCA_some h
  obtain ⟨h7, h8⟩ := rB_yes h5
  obtain ⟨h6, h9⟩ := rB_yes h8
  have h6 : i < N := Nat.blt_eq.mp h6
  rw [rN_eq, rU_eq] at h9
  have h11 := rWS_some _ _ h9
  refine ⟨ls, st2, _, n, kk, h11, Nat.le_refl _, Nat.le_refl _, fun _ _ hV p e R s m args below meth c X r1 r2 r3 rl H locs hl hP hL => ?_⟩
  obtain ⟨c1, c2, c3⟩ := pic_cell hP hp
  rw [List.map_cons, List.map_cons, List.map_cons, rv_own G q1]
  obtain ⟨rfl, a, rfl⟩ := okJ_e h7
  refine W.last X.1 X.2.1 c3 (X.2.2.2.2.2.1.arr (t := 1) (by decide) N _) (fun q => by cases q) (ix_in h6 c2 (by rw [arrV_size]; exact Nat.le_refl _)) rfl rfl hd (fun H1 e1 z1 o1 => ?_)
  refine hV p e R s m args below meth c X r1 r2 r3 rl H1 _ hl (pic_set hP hp ⟨by decide, c2, ?_⟩ z1 o1) (locs_put hL)
  rw [e1, arrV_store, nI_clamp (by omega)]
  exact congrArg some (arr_up (v := .inr (.inl a)) _)
theorem s_bastore (hd : decode cc pc = .ok (.bastore, 1)) : HS (rW cl fo zs rs ns Ts G l cc nL own ret ini fr lo n0) pc (pc + 1) (h_ast okB) := by
  intro k0 ls st w n kk o e0
  obtain ⟨v, st0, rfl, h0⟩ := rP_some e0
  obtain ⟨y, st1, rfl, h1⟩ := rP_some h0
  obtain ⟨x, st2, rfl, h2⟩ := rP_some h1
  obtain ⟨i, rfl, h3⟩ := rI_some h2
  obtain ⟨r, rfl, h31⟩ := rR_some h3
  obtain ⟨q1, cell, hp, h⟩ := rO_some h31
  obtain ⟨t, N, d, mm, rfl, h5⟩ := rCA_some h
  obtain ⟨h7, h8⟩ := rB_yes h5
  obtain ⟨h6, h9⟩ := rB_yes h8
  have h6 : i < N := Nat.blt_eq.mp h6
  rw [rN_eq, rU_eq] at h9
  have h11 := rWS_some _ _ h9
  refine ⟨ls, st2, _, n, kk, h11, Nat.le_refl _, Nat.le_refl _, fun _ _ hV p e R s m args below meth c X r1 r2 r3 rl H locs hl hP hL => ?_⟩
  obtain ⟨c1, c2, c3⟩ := pic_cell hP hp
  rw [List.map_cons, List.map_cons, List.map_cons, rv_own G q1]
  rcases okB_e h7 with ⟨rfl, hz⟩ | ⟨rfl, hz⟩
  · obtain ⟨a, rfl, ha⟩ := isB_e hz
    refine W.bast X.1 X.2.1 c3 (X.2.2.2.2.2.1.arr (t := 2) (by decide) N _) (fun q => by cases q) (ix_in h6 c2 (by rw [arrV_size]; exact Nat.le_refl _)) rfl rfl hd (fun H1 e1 z1 o1 => ?_)
    refine hV p e R s m args below meth c X r1 r2 r3 rl H1 _ hl (pic_set hP hp ⟨by decide, c2, ?_⟩ z1 o1) (locs_put hL)
    rw [e1, ha, arrV_store, nI_clamp (by omega)]
    exact congrArg some (arr_up (v := .inl a) _)
  · obtain ⟨a, rfl, ha, -⟩ := isZ_e hz
    refine W.zast X.1 X.2.1 c3 (X.2.2.2.2.2.1.arr (t := 3) (by decide) N _) (fun q => by cases q) (ix_in h6 c2 (by rw [arrV_size]; exact Nat.le_refl _)) rfl rfl hd (fun H1 e1 z1 o1 => ?_)
    refine hV p e R s m args below meth c X r1 r2 r3 rl H1 _ hl (pic_set hP hp ⟨by decide, c2, ?_⟩ z1 o1) (locs_put hL)
    rw [e1, ha, arrV_store, nI_clamp (by omega)]
    exact congrArg some (arr_up (v := .inl a) _)
end RH
end
section
/-! THE RUNNER'S ROWS FOR OBJECTS, MAKING, ENDS -/
theorem rSum_eq (G : rGm) (h : ∀ i : Nat, G.2.2.2.1 i = .null ∨ ∃ a, G.2.2.2.1 i = .ref a) : ∀ st : List rCV, ((st.map (rv G)).map fun v => v.category).sum = rSum st
  | [] => rfl
  | v :: st => by
    rw [List.map_cons, List.map_cons, List.sum_cons, rSum_eq G h st, rv_cat G h]
    rfl
section RO
variable {cl : List vw_C} {fo : List rCC} {zs : List (String × String × String × rCV)} {rs : List (String × Nat × String × Nat)} {ns : List Cond} {Ts : List Cond} {G : rGm}
variable {l : Launch} {cc : ByteArray} {nL n0 : Nat} {own : String} {pc : Nat} {ret : Option FieldType} {ini : Bool} {fr lo : Nat}
theorem s_get {C ref : String} {T : u_T} {N ci index : Nat} (j : Nat) (hin : ∀ w ∈ u_ws C T N, w ∈ Ts) (hc : cl[ci]? = some (C, T, N)) (hj : j < N) (hlink : Cond.fieldLink own index ref (T j).2.1 (T j).2.2.1 ∈ Ts) (hsame : ref = (T j).1) (hd : decode cc pc = .ok (.getfield index, 3)) : HS (rW cl fo zs rs ns Ts G l cc nL own ret ini fr lo n0) pc (pc + 3) (h_get fo ci j) := by
  apply s_rowH
  intro k0 ls st w n kk o e0
  obtain ⟨x, st', rfl, h2⟩ := rP_some e0
  obtain ⟨r, rfl, h3⟩ := rR_some h2
  have fin : ∀ (ci' : Nat) (fs : List rCV), rB (Nat.beq ci' ci) (rG fs j (fun v => k0 ls (v :: st') w n kk)) none = some o → ci' = ci ∧ ∃ v, fs[j]? = some v ∧ k0 ls (v :: st') w n kk = some o := fun ci' fs h => by
    obtain ⟨h4, h5⟩ := rB_yes h
    obtain ⟨v, h6, h7⟩ := rG_some _ _ h5
    exact ⟨Nat.eq_of_beq_eq_true h4, v, h6, h7⟩
  rcases rOF_some h3 with ⟨a, x, f, h⟩ | ⟨a, b, x, f, h⟩
  · obtain ⟨ci', fs, rfl, h5⟩ := rCO_some h
    obtain ⟨rfl, v, h6, h7⟩ := fin ci' fs h5
    refine ⟨_, h7, fun p e R s m args below meth c X rl H locs cells slots Q hP hk => ?_⟩
    rw [List.map_cons, rv_own G a]
    have hc1 := pic_cell hP f
    have hP1 : va_P G.1 cl [(G.2.2.1 + r / 2, .inr (ci', fs.map (rv G)))] H := fun k9 q9 h9 => by
      have h0 : k9 < 1 := (List.getElem?_eq_some_iff.mp h9).1
      rw [show k9 = 0 by omega] at h9
      cases h9
      exact hc1
    exact va_get (D := G.1) (ci := ci') (v := rv G v) (C := C) (T := T) (N := N) X.1 X.2.1 X.2.2.2.2.1 hin X.2.2.2.1 X.2.2.2.2.2.1.1 hP1 0 rfl hc j hj (X.2.2.2.2.1 _ hlink) (fun _ h9 => by rw [hsame]; exact h9) (by rw [List.getElem?_map, h6]; rfl) hd hk
  · obtain ⟨ci', fs, rfl, h5⟩ := rCO_some h
    obtain ⟨rfl, v, h6, h7⟩ := fin ci' fs h5
    refine ⟨_, h7, fun p e R s m args below meth c X rl H locs cells slots Q hP hk => ?_⟩
    obtain ⟨q, cell, r0, g1, g2, g3, g4, g5, g6, g7⟩ := X.2.2.2.2.2.1.2.2.2.2.2 _ _ f
    have hr : r0 = (C, T, N) := Option.some.inj (g4.symm.trans hc)
    subst hr
    rw [List.map_cons, rv_ext G a b, g1]
    obtain ⟨hS, hfc, kC, hkC, hkind⟩ := X.2.2.2.2.2.1.1.1 ci' _ hc
    obtain ⟨cf, kf, fi, f9, hi, hsl⟩ := hS j hj
    refine W.getf X.1 X.2.1 X.2.2.2.1 (X.2.2.2.2.1 _ hlink) (by rw [hsame]; exact hi) (u_facts hfc hkC (u_lays X.2.2.2.2.1 hin hj) hi).1 (by rw [hP.2.1 q g2]; exact g3) (by rw [g6]; exact fun h => by cases h) (v := rv G v) ?_ rfl rfl hd hk
    rw [hsl]
    exact g7 j v h6
theorem s_put {C ref : String} {T : u_T} {N ci index : Nat} (ty0 : Nat → FieldType) (j : Nat) (ok : rCV → Bool) (hin : ∀ w ∈ u_ws C T N, w ∈ Ts) (hty : ∀ k, k < N → parseFieldDescriptor (T k).2.2.1 = some (ty0 k)) (hnm : ∀ a, a < N → ∀ b, b < N → a ≠ b → (T a).2.1 ≠ (T b).2.1) (hc : cl[ci]? = some (C, T, N)) (hj : j < N) (hlink : Cond.fieldLink own index ref (T j).2.1 (T j).2.2.1 ∈ Ts) (hsame : ref = (T j).1) (hfin : (T j).2.2.2 = false) (hok : (∀ i : Nat, G.2.2.2.1 i = .null ∨ ∃ a, G.2.2.2.1 i = .ref a) → ∀ v, ok v = true → narrow (ty0 j) (rv G v) = rv G v ∧ fits (ty0 j) (rv G v) = true) (hd : decode cc pc = .ok (.putfield index, 3)) : HS (rW cl fo zs rs ns Ts G l cc nL own ret ini fr lo n0) pc (pc + 3) (h_put ci j ok) := by
  intro k0 ls st w n kk o e0
  obtain ⟨v, st1, rfl, h1⟩ := rP_some e0
  obtain ⟨x, st2, rfl, h2⟩ := rP_some h1
  obtain ⟨h3, h4⟩ := rB_yes h2
  obtain ⟨r, rfl, h5⟩ := rR_some h4
  obtain ⟨q1, cell, hp, h⟩ := rO_some h5
  obtain ⟨ci', fs, rfl, h6⟩ := rCO_some h
  obtain ⟨h7, h8⟩ := rB_yes h6
  have e9 : ci' = ci := Nat.eq_of_beq_eq_true h7
  subst e9
  obtain ⟨h9, h10⟩ := rS_some _ _ _ h8
  have h12 := rWS_some _ _ h10
  refine ⟨ls, st2, _, n, kk, h12, Nat.le_refl _, Nat.le_refl _, fun _ _ hV p e R s m args below meth c X r1 r2 r3 rl H locs hl hP hL => ?_⟩
  have hK := X.2.2.2.2.2.1.1
  have hap := va_apart (own := own) X.2.2.2.2.1 hin ty0 hty hnm hK hc
  obtain ⟨r0, hr0, cell, d1, d2, d3, d4⟩ := pic_cell hP hp
  have hr : r0 = (C, T, N) := Option.some.inj (hr0.symm.trans hc)
  subst hr
  obtain ⟨hS, hfc, kC, hkC, hkind⟩ := hK.1 ci' _ hc
  obtain ⟨cf, kf, fi, f9, hi, hsl⟩ := hS j hj
  have hlay := X.2.2.2.2.1 _ (hin _ (u_in_lay hj))
  unfold u_lay at hlay
  rw [if_neg (by rw [hfin]; decide)] at hlay
  have hst := (u_facts hfc hkC (u_lays X.2.2.2.2.1 hin hj) hi).1
  have h6 := u_store hfc hkC hkind hlay hi (hty j hj) (hok X.2.2.2.2.2.1.2.2.1 v h3).1 (hok X.2.2.2.2.2.1.2.2.1 v h3).2
  rw [List.map_cons, List.map_cons, rv_own G q1]
  refine W.putK X.1 X.2.1 (f := f9) ⟨X.2.2.2.1, X.2.2.2.2.1 _ hlink, ⟨_, _, _, by rw [hsame]; exact hi⟩, hst⟩ (by rw [d2]; exact h6) d1 d3 (by rw [hsl]; exact k2_hasslot (d4 j hj)) rfl rfl hd fun H' e1 e2 e3 => ?_
  rw [hsl] at e1 ⊢
  refine hV p e R s m args below meth c X r1 r2 r3 rl H' _ hl (pic_set hP hp ⟨_, hc, t_OB.to (V := updV (vp_V (fs.map (rv G))) j (rv G v)) ⟨_, e1, d2, d3, t_set d4 hap hj (rv G v)⟩ (fun i9 _ => ?_)⟩ e2 e3) (locs_put hL)
  rw [List.map_set]
  exact vp_updV_set (by rw [List.length_map]; exact h9) (rv G v) i9
theorem s_putF {C ref : String} {T : u_T} {N ci index : Nat} (ty0 : Nat → FieldType) (j : Nat) (ok : rCV → Bool) (hin : ∀ w ∈ u_ws C T N, w ∈ Ts) (hty : ∀ k, k < N → parseFieldDescriptor (T k).2.2.1 = some (ty0 k)) (hnm : ∀ a, a < N → ∀ b, b < N → a ≠ b → (T a).2.1 ≠ (T b).2.1) (hc : cl[ci]? = some (C, T, N)) (hj : j < N) (hlink : Cond.fieldLink own index ref (T j).2.1 (T j).2.2.1 ∈ Ts) (hsame : ref = (T j).1) (hfin : (T j).2.2.2 = true) (hin2 : ini = true) (hdecl : (T j).1 = own) (hok : (∀ i : Nat, G.2.2.2.1 i = .null ∨ ∃ a, G.2.2.2.1 i = .ref a) → ∀ v, ok v = true → narrow (ty0 j) (rv G v) = rv G v ∧ fits (ty0 j) (rv G v) = true) (hd : decode cc pc = .ok (.putfield index, 3)) : HS (rW cl fo zs rs ns Ts G l cc nL own ret ini fr lo n0) pc (pc + 3) (h_put ci j ok) := by
  intro k0 ls st w n kk o e0
  obtain ⟨v, st1, rfl, h1⟩ := rP_some e0
  obtain ⟨x, st2, rfl, h2⟩ := rP_some h1
  obtain ⟨h3, h4⟩ := rB_yes h2
  obtain ⟨r, rfl, h5⟩ := rR_some h4
  obtain ⟨q1, cell, hp, h⟩ := rO_some h5
  obtain ⟨ci', fs, rfl, h6⟩ := rCO_some h
  obtain ⟨h7, h8⟩ := rB_yes h6
  have e9 : ci' = ci := Nat.eq_of_beq_eq_true h7
  subst e9
  obtain ⟨h9, h10⟩ := rS_some _ _ _ h8
  have h12 := rWS_some _ _ h10
  refine ⟨ls, st2, _, n, kk, h12, Nat.le_refl _, Nat.le_refl _, fun _ _ hV p e R s m args below meth c X r1 r2 r3 rl H locs hl hP hL => ?_⟩
  have hK := X.2.2.2.2.2.1.1
  have hap := va_apart (own := own) X.2.2.2.2.1 hin ty0 hty hnm hK hc
  obtain ⟨r0, hr0, cell, d1, d2, d3, d4⟩ := pic_cell hP hp
  have hr : r0 = (C, T, N) := Option.some.inj (hr0.symm.trans hc)
  subst hr
  obtain ⟨hS, hfc, kC, hkC, hkind⟩ := hK.1 ci' _ hc
  obtain ⟨cf, kf, fi, f9, hi, hsl⟩ := hS j hj
  have hlay := X.2.2.2.2.1 _ (hin _ (u_in_lay hj))
  unfold u_lay at hlay
  rw [if_pos hfin] at hlay
  have hst := (u_facts hfc hkC (u_lays X.2.2.2.2.1 hin hj) hi).1
  have hcf : m.cls = cf := by
    obtain ⟨_, _, c', _, _, _, -, -, hf', -, -, -, hown2, -⟩ := Cond.laysFinal_spec hlay
    have e1 : c' = cf := by have := hi.symm.trans hf'; simp at this; exact this.1.symm
    rw [hdecl] at hown2
    rw [← e1]; exact Option.some.inj (X.2.2.2.1.symm.trans hown2)
  have h6 := u_fits hfc hkC hkind (Or.inr hlay) hi (hty j hj) (hok X.2.2.2.2.2.1.2.2.1 v h3).1 (hok X.2.2.2.2.2.1.2.2.1 v h3).2
  rw [List.map_cons, List.map_cons, rv_own G q1]
  refine W.putFinK X.1 X.2.1 X.2.2.2.1 (X.2.2.2.2.1 _ hlink) (by rw [hsame]; exact hi) hst hcf (X.2.2.2.2.2.2.2.2.2.1 hin2) (by rw [d2]; exact h6) d1 d3 (by rw [hsl]; exact k2_hasslot (d4 j hj)) rfl rfl hd fun H' e1 e2 e3 => ?_
  rw [hsl] at e1 ⊢
  refine hV p e R s m args below meth c X r1 r2 r3 rl H' _ hl (pic_set hP hp ⟨_, hc, t_OB.to (V := updV (vp_V (fs.map (rv G))) j (rv G v)) ⟨_, e1, d2, d3, t_set d4 hap hj (rv G v)⟩ (fun i9 _ => ?_)⟩ e2 e3) (locs_put hL)
  rw [List.map_set]
  exact vp_updV_set (by rw [List.length_map]; exact h9) (rv G v) i9
theorem s_new {C : String} {T : u_T} {N ci index : Nat} {fs : List rCV} (ty0 : Nat → FieldType) (hin : ∀ w ∈ u_ws C T N, w ∈ Ts) (hty : ∀ k, k < N → parseFieldDescriptor (T k).2.2.1 = some (ty0 k)) (hc : cl[ci]? = some (C, T, N)) (hlink : Cond.classLink own index C ∈ Ts) (hinst : Cond.instantiable C N ∈ Ts) (hini : Cond.initialized C ∈ Ts) (hfs : (List.range N).map (fun j => defaultValue (ty0 j)) = fs.map (fun v => match v with | .inl a => .int (nI a) | .inr (.inl a) => .long (lN a) | .inr (.inr _) => .null)) (hz : fs.all (fun v => match v with | .inr (.inr (_ + 1)) => false | _ => true) = true) (hd : decode cc pc = .ok (.new index, 3)) : HS (rW cl fo zs rs ns Ts G l cc nL own ret ini fr lo n0) pc (pc + 3) (h_new ci N fs) := by
  intro k0 ls st w n kk o e0
  have e0 : rN (Nat.add kk N) _ = some o := e0
  rw [rN_eq, rN_eq, rN_eq] at e0
  refine ⟨_, _, _, _, _, e0, Nat.le_succ _, Nat.le_add_right _ _, fun ho1 ho2 hV p e R s m args below meth c X r1 r2 r3 rl H locs hl hP hL => ?_⟩
  have hKn := X.2.2.2.2.2.1.1.1 ci _ hc
  have ho1' : n + 1 ≤ o.2.2.1 := ho1
  have ho2' : kk + N ≤ o.2.2.2 := ho2
  refine W.newcK X.1 X.2.1 X.2.2.2.1 (X.2.2.2.2.1 _ hlink) (X.2.2.2.2.1 _ hinst) (X.2.2.2.2.1 _ hini) rfl hd (by omega) (by omega) hKn.2.1 rfl fun H1 kC hkC e1 z1 o1 => ?_
  have hb := u_born ty0 X.2.2.2.2.1 hin hKn hkC e1 hty
  have hrv : fs.map (rv G) = (List.range N).map (fun j => defaultValue (ty0 j)) := by
    rw [hfs]
    apply List.map_congr_left
    intro v hv
    have := List.all_eq_true.mp hz v hv
    rcases v with a | a | a
    · rfl
    · rfl
    · cases a with
      | zero => rfl
      | succ a => cases this
  have hpic : rPic cl G ((n, .inl (ci, fs)) :: w) (n + 1) H1 := pic_push hP ⟨_, hc, hb.to (fun i9 h9 => by
    rw [hrv]
    show _ = ((List.range N).map (fun j => defaultValue (ty0 j))).getD i9 .null
    rw [List.getD_eq_getElem?_getD, List.getElem?_map, List.getElem?_range h9]
    rfl)⟩ z1 o1
  have hV' := hV p e R s m args below meth c X r1 r2 (by omega) rl H1 locs hl hpic hL
  rw [List.map_cons, rv_own G (by show (2 * n + 1) % 2 = 1; omega), show G.2.2.1 + Nat.succ (Nat.mul 2 n) / 2 = H.size by rw [hP.1]; show _ + (2 * n + 1) / 2 = _; omega] at hV'
  rw [show n - n0 + 1 = Nat.succ n - n0 by omega]
  exact hV'
theorem s_newa {at' : ArrayType} (t : Nat) (dv : rCV) (ht : t < 7) (hat : newarray.typeOf at' = rTy t) (hdv : rv G dv = defaultValue (rTy t)) (hpr : ∀ U : State, ∀ cA : ClassId, va_RA U cA (rTy t) → U.vm.findClass ("[" ++ (rTy t).toString) = some cA) (hb8 : componentBytes (rTy t) ≤ 8) (hw : Cond.arrayClass (rTy t) ∈ Ts) (hd : decode cc pc = .ok (.newarray at', 2)) : HS (rW cl fo zs rs ns Ts G l cc nL own ret ini fr lo n0) pc (pc + 2) (h_newa t dv) := by
  intro k0 ls st w n kk o e0
  obtain ⟨x, st', rfl, h2⟩ := rP_some e0
  obtain ⟨N, rfl, h3⟩ := rI_some h2
  obtain ⟨h4, h5⟩ := rB_yes h3
  have hN : N ≤ 60000000 := Nat.ble_eq.mp h4
  rw [rN_eq, rN_eq, rN_eq] at h5
  refine ⟨_, _, _, _, _, h5, Nat.le_succ _, Nat.le_add_right _ _, fun ho1 ho2 hV p e R s m args below meth c X r1 r2 r3 rl H locs hl hP hL => ?_⟩
  have ho1' : n + 1 ≤ o.2.2.1 := ho1
  have ho2' : kk + N ≤ o.2.2.2 := ho2
  have hbt : N * componentBytes (rTy t) ≤ 536870912 := Nat.le_trans (Nat.mul_le_mul_left N hb8) (by omega)
  refine va_newaK X.1 X.2.1 (by rw [hat]; exact X.2.2.2.2.1 _ hw) rfl hd rfl (nI_pos (by omega)) (nI_clamp (by omega)) (by rw [hat]; exact hbt) (by omega) (by omega) rfl fun H1 cA e1 z1 o1 hAr hNm => ?_
  rw [hat] at e1 hAr hNm
  have hcA : cA = G.2.1 t := Option.some.inj (hNm.symm.trans (hpr s _ (X.2.2.2.2.2.1.1.2 t _ (rTys_at ht)).2))
  subst hcA
  have hpic : rPic cl G ((n, .inr (t, N, dv, [])) :: w) (n + 1) H1 := pic_push hP ⟨ht, hN, by
    rw [e1]
    refine congrArg some (congrArg (arrV _ N) (funext fun j => ?_))
    rw [rL_eq]
    exact hdv.symm⟩ z1 o1
  have hV' := hV p e R s m args below meth c X r1 r2 (by omega) rl H1 locs hl hpic hL
  rw [List.map_cons, rv_own G (by show (2 * n + 1) % 2 = 1; omega), show G.2.2.1 + Nat.succ (Nat.mul 2 n) / 2 = H.size by rw [hP.1]; show _ + (2 * n + 1) / 2 = _; omega] at hV'
  rw [show n - n0 + 1 = Nat.succ n - n0 by omega]
  exact hV'
theorem s_oinit {ix : Nat} (h1 : Cond.methodLink own ix Lib.objectInit ∈ Ts) (h2 : Cond.instanceMethod Lib.objectInit ∈ Ts) (h3 : Cond.code Lib.objectInit ⟨#[0xb1]⟩ 1 none ∈ Ts) (hR1 : 1 ≤ fr) (hR2 : 20 ≤ lo) (hd : decode cc pc = .ok (.invokespecial ix, 3)) : HS (rW cl fo zs rs ns Ts G l cc nL own ret ini fr lo n0) pc (pc + 3) h_oinit := by
  apply s_row
  intro k0 ls st w n kk o e0
  obtain ⟨x, st', rfl, h4⟩ := rP_some e0
  obtain ⟨r, rfl, h5⟩ := rR_some h4
  obtain ⟨h6, h7⟩ := rB_yes h5
  obtain ⟨h8, h9⟩ := rB_yes h7
  refine ⟨_, h9, fun p e R s m args below meth c X rl H locs cells slots Q hl hk => ?_⟩
  rw [List.map_cons, rv_own G (Nat.eq_of_beq_eq_true h6)]
  refine W.objInit X.1 X.2.1 X.2.2.2.1 (X.2.2.2.2.1 _ h1) (X.2.2.2.2.1 _ h2) (X.2.2.2.2.1 _ h3) rfl (by rw [X.2.2.1]; exact hl.1) rfl hd (by rw [X.2.2.2.2.2.2.2.2.2.2.1]; exact hR1) ?_ hk
  have := rSum_eq G X.2.2.2.2.2.1.2.2.1 st'
  have h8' : rSum st' ≤ 8 := Nat.ble_eq.mp h8
  have hlo := X.2.2.2.2.2.2.2.2.2.2.2
  show 2 * 0 + _ + 12 ≤ _
  omega
theorem s_gets (v : rCV) {C n d ref : String} {ix : Nat} (hz : (C, n, d, v) ∈ zs) (hlink : Cond.fieldLink own ix ref n d ∈ Ts) (hsame : ref = C) (hd : decode cc pc = .ok (.getstatic ix, 3)) : HS (rW cl fo zs rs ns Ts G l cc nL own ret ini fr lo n0) pc (pc + 3) (h_v v) := by
  apply s_rowH
  intro k0 ls st w n9 kk o e0
  refine ⟨_, e0, fun p e R s m args below meth c X rl H locs cells slots Q hP hk => ?_⟩
  obtain ⟨cf, kf, fi, f, a, cell, g1, g2, g3, g4, g5, g6, g7, g8⟩ := X.2.2.2.2.2.1.2.2.2.1 _ hz
  have ha : a < G.2.2.1 := by
    rw [← X.2.2.2.2.2.1.2.1.1]
    exact (Array.getElem?_eq_some_iff.mp g5).1
  exact W.gets X.1 X.2.1 X.2.2.2.1 (X.2.2.2.2.1 _ hlink) (by rw [hsame]; exact g1) g2 g3 g4 (by rw [hP.2.1 a ha]; exact g5) (fun q => by rw [q] at g6; cases g6) g7 rfl hd hk
-- ends
theorem s_ret (hr : ret = none) {pcs : List Nat} (hd : decode cc pc = .ok (.return_, 1)) : BS (rW cl fo zs rs ns Ts G l cc nL own ret ini fr lo n0) pcs pc t_ret := by
  intro J hJ ls st w n k o e0
  cases st with
  | cons v st => cases e0
  | nil =>
    cases e0
    refine ⟨⟨Nat.le_refl _, Nat.le_refl _⟩, fun p e R s m args below meth c X r1 r2 r3 rl H locs hl hP hL => ?_⟩
    exact W.vret X.1 X.2.1 (X.2.2.2.2.2.2.2.2.1.trans hr) (fun t ht hW => ⟨rfl, by rw [ht]; exact hP, X.2.2.2.2.2.1.warm hW⟩) hL hd X.2.2.2.2.2.2.1
theorem retv_e {ok : rCV → Bool} {J : Nat → rK} {ls : rLs} {st : List rCV} {w : rWd} {n k : Nat} {o : rOut} (h : t_retv ok J ls st w n k = some o) : ∃ v, st = [v] ∧ ok v = true ∧ o = (some v, w, n, k) := by
  obtain ⟨v, st', rfl, h1⟩ := rP_some h
  obtain ⟨h2, h3⟩ := rB_yes h1
  cases st' with
  | cons v st => cases h3
  | nil => cases h3; exact ⟨v, rfl, h2, rfl⟩
theorem s_reti (ok : rCV → Bool) {ty : FieldType} (hr : ret = some ty) (hok : ∀ v, ok v = true → ∃ a, v = .inl a ∧ narrow ty (.int (nI a)) = .int (nI a)) {pcs : List Nat} (hd : decode cc pc = .ok (.ireturn, 1)) : BS (rW cl fo zs rs ns Ts G l cc nL own ret ini fr lo n0) pcs pc (t_retv ok) := by
  intro J hJ ls st w n k o e0
  obtain ⟨v, rfl, h1, rfl⟩ := retv_e e0
  obtain ⟨a, rfl, h2⟩ := hok v h1
  refine ⟨⟨Nat.le_refl _, Nat.le_refl _⟩, fun p e R s m args below meth c X r1 r2 r3 rl H locs hl hP hL => ?_⟩
  exact W.zret X.1 X.2.1 (X.2.2.2.2.2.2.2.2.1.trans hr) h2 (fun t ht hW => ⟨rfl, by rw [ht]; exact hP, X.2.2.2.2.2.1.warm hW⟩) hL hd X.2.2.2.2.2.2.1
theorem s_retl (hr : ret = some .long) {pcs : List Nat} (hd : decode cc pc = .ok (.lreturn, 1)) : BS (rW cl fo zs rs ns Ts G l cc nL own ret ini fr lo n0) pcs pc (t_retv isJ) := by
  intro J hJ ls st w n k o e0
  obtain ⟨v, rfl, h1, rfl⟩ := retv_e e0
  obtain ⟨a, rfl⟩ := isJ_e h1
  refine ⟨⟨Nat.le_refl _, Nat.le_refl _⟩, fun p e R s m args below meth c X r1 r2 r3 rl H locs hl hP hL => ?_⟩
  exact W.lret X.1 X.2.1 (X.2.2.2.2.2.2.2.2.1.trans hr) (fun t ht hW => ⟨rfl, by rw [ht]; exact hP, X.2.2.2.2.2.1.warm hW⟩) hL hd X.2.2.2.2.2.2.1
theorem s_reta {ty : FieldType} (hr : ret = some ty) (hrt : (∃ n, ty = .object n) ∨ ∃ t, ty = .array t) {pcs : List Nat} (hd : decode cc pc = .ok (.areturn, 1)) : BS (rW cl fo zs rs ns Ts G l cc nL own ret ini fr lo n0) pcs pc (t_retv isR) := by
  intro J hJ ls st w n k o e0
  obtain ⟨v, rfl, h1, rfl⟩ := retv_e e0
  obtain ⟨a, rfl⟩ := isR_e h1
  refine ⟨⟨Nat.le_refl _, Nat.le_refl _⟩, fun p e R s m args below meth c X r1 r2 r3 rl H locs hl hP hL => ?_⟩
  exact W.aret X.1 X.2.1 (X.2.2.2.2.2.2.2.2.1.trans hr) hrt (rv_r G X.2.2.2.2.2.1.2.2.1 a) (fun t ht hW => ⟨rfl, by rw [ht]; exact hP, X.2.2.2.2.2.1.warm hW⟩) hL hd X.2.2.2.2.2.2.1
end RO
end
section
/-! METHODS AND CALLS -/
section RM
variable {cl : List vw_C} {fo : List rCC} {zs : List (String × String × String × rCV)} {rs : List (String × Nat × String × Nat)} {ns : List Cond} {Ts : List Cond} {G : rGm} {l : Launch}
/-- the method does what F computes -/
def rMet (cl : List vw_C) (fo : List rCC) (zs : List (String × String × String × rCV)) (rs : List (String × Nat × String × Nat)) (ns : List Cond) (Ts : List Cond) (l : Launch) (y : MethodName) (bytes : ByteArray) (maxL : Nat) (ret : Option FieldType) (fr lo : Nat) (F : rEv) : Prop :=
  ∀ (G : rGm) (as : List rCV) (w : rWd) (n : Nat) (o : rOut), F as w n = some o → n ≤ o.2.2.1 ∧
    Met l y (.code y bytes maxL ret :: Ts) { frames := fr, cells := o.2.2.1 - n, slots := o.2.2.2, locals := lo } (va_Pc (as.map (rv G)) (fun U => rPic cl G w n U.heap ∧ rKK cl fo zs rs ns G U)) (rQ cl fo zs rs ns G o) (o.2.2.1 - n) o.2.2.2 (fun q => G.2.2.1 ≤ q)
theorem rKK.same {u U : State} (hv : U.vm = u.vm) (h : rKK cl fo zs rs ns G u) : rKK cl fo zs rs ns G U := h.warm (by rw [hv]; exact State.WarmedH.refl u)
theorem rBlind (as : List Value) (w : rWd) (n : Nat) : FrameBlind (va_Pc as (fun U => rPic cl G w n U.heap ∧ rKK cl fo zs rs ns G U)) := fun a U g mk q => ⟨q.1, q.2.1, rKK.same (u := U) rfl q.2.2⟩
theorem rIni_go (hx : ∀ i : Nat, G.2.2.2.1 i = .null ∨ ∃ a, G.2.2.2.1 i = .ref a) {nL : Nat} {o : rOut} : ∀ (as : List rCV) (pos : Nat) (k : rLs → Option rOut), (List.rec (motive := fun _ => Nat → (rLs → Option rOut) → Option rOut) (fun pos k => rB (Nat.ble pos nL) (k []) none) (fun v _ ih pos k => rB (rLong v) (ih (Nat.succ (Nat.succ pos)) (fun l => k ((pos, v) :: l))) (ih (Nat.succ pos) (fun l => k ((pos, v) :: l)))) as pos k) = some o → ∃ ls, k ls = some o ∧ ls.map (rLv G) = lv_args pos (as.map (rv G)) ∧ pos + (lg_sl (as.map (rv G))).length ≤ nL := by
  intro as
  induction as with
  | nil =>
    intro pos k h
    obtain ⟨h1, h2⟩ := rB_yes (b := Nat.ble pos nL) (x := k []) h
    exact ⟨[], h2, rfl, Nat.ble_eq.mp h1⟩
  | cons v as ih =>
    intro pos k h
    rcases rB_some (b := rLong v) h with ⟨h1, h2⟩ | ⟨h1, h2⟩
    · obtain ⟨ls, g1, g2, g3⟩ := ih _ _ h2
      refine ⟨_, g1, ?_, ?_⟩
      · rw [List.map_cons, g2, List.map_cons]
        show _ = (pos, rv G v) :: lv_args (if (rv G v).category = 2 then pos + 2 else pos + 1) _
        rw [if_pos (rv_cat2 G h1)]
        rfl
      · rw [List.map_cons]
        show pos + (lg_sl (rv G v :: as.map (rv G))).length ≤ nL
        unfold lg_sl at g3 ⊢
        rw [List.flatMap_cons, if_pos (rv_cat2 G h1), List.length_append]
        have : pos.succ.succ = pos + 2 := rfl
        simp only [List.length_cons, List.length_nil] at g3 ⊢
        omega
    · obtain ⟨ls, g1, g2, g3⟩ := ih _ _ h2
      have hc : ¬ (rv G v).category = 2 := by rw [rv_cat1 G hx h1]; decide
      refine ⟨_, g1, ?_, ?_⟩
      · rw [List.map_cons, g2, List.map_cons]
        show _ = (pos, rv G v) :: lv_args (if (rv G v).category = 2 then pos + 2 else pos + 1) _
        rw [if_neg hc]
        rfl
      · rw [List.map_cons]
        show pos + (lg_sl (rv G v :: as.map (rv G))).length ≤ nL
        unfold lg_sl at g3 ⊢
        rw [List.flatMap_cons, if_neg hc, List.length_append]
        simp only [List.length_cons, List.length_nil] at g3 ⊢
        omega
theorem rIni_k {nL : Nat} {o : rOut} : ∀ (as : List rCV) (pos : Nat) (k : rLs → Option rOut), (List.rec (motive := fun _ => Nat → (rLs → Option rOut) → Option rOut) (fun pos k => rB (Nat.ble pos nL) (k []) none) (fun v _ ih pos k => rB (rLong v) (ih (Nat.succ (Nat.succ pos)) (fun l => k ((pos, v) :: l))) (ih (Nat.succ pos) (fun l => k ((pos, v) :: l)))) as pos k) = some o → ∃ ls, k ls = some o := by
  intro as
  induction as with
  | nil =>
    intro pos k h
    obtain ⟨h1, h2⟩ := rB_yes (b := Nat.ble pos nL) (x := k []) h
    exact ⟨[], h2⟩
  | cons v as ih =>
    intro pos k h
    rcases rB_some (b := rLong v) h with ⟨h1, h2⟩ | ⟨h1, h2⟩
    · obtain ⟨ls, g1⟩ := ih _ _ h2
      exact ⟨_, g1⟩
    · obtain ⟨ls, g1⟩ := ih _ _ h2
      exact ⟨_, g1⟩
/-- a method whose blocks are proved -/
theorem met_of {y : MethodName} {bytes : ByteArray} {maxL : Nat} {ret : Option FieldType} {fr lo fuel : Nat} {bs : List rBl} {pcs : List Nat} (hy : plainName y.cls = true) (hps : pcs[0]? = some 0)
    (hbody : ∀ (G : rGm) (n0 : Nat), AllB (rW cl fo zs rs ns Ts G l bytes maxL y.cls ret (decide (y.name = "<init>")) fr lo n0) pcs pcs bs) : rMet cl fo zs rs ns Ts l y bytes maxL ret fr lo (fun as w n => rIni maxL as (fun ls => rRun bs fuel 0 ls [] w n 0)) := by
  intro G as w n o e0
  obtain ⟨ls0, hls0⟩ := rIni_k as 0 _ e0
  obtain ⟨⟨a1, a2⟩, -⟩ := run_ok (hbody G n) fuel 0 0 hps ls0 [] w n 0 o hls0
  refine ⟨a1, ?_⟩
  refine Met.ofW (cc := bytes) (maxL := maxL) (ret := ret) hy rfl ?_
  intro p e s m args below meth c s₁ B hml hv
  obtain ⟨rfl, hP, hKK⟩ := hv
  have hts := atoms_spec (ws := .code y bytes maxL ret :: Ts) B.pre
  obtain ⟨ls, h1, h2, h3⟩ := rIni_go (G := G) hKK.2.2.1 as 0 _ e0
  obtain ⟨-, hV⟩ := run_ok (hbody G n) fuel 0 0 hps ls [] w n 0 o h1
  rw [Nat.zero_add] at h3
  have hl := lv_entry (as.map (rv G)) (n := maxL) h3
  rw [lg_entry_eq]
  rw [← h2] at hl
  have hW := hV p e { frames := fr, cells := o.2.2.1 - n, slots := o.2.2.2, locals := lo } s m (as.map (rv G)).toArray below meth c ⟨B.exec, B.bytes, hml, findClass_of_methodNamed B.named, fun q hq => hts q (List.mem_cons_of_mem _ hq), hKK, B.notSynchronized, by rw [hP.1]; exact Nat.le_add_right _ _, B.returns, fun hi => by rw [(name_of_methodNamed B.named B.method).1]; exact of_decide_eq_true hi, rfl, rfl⟩ (Nat.le_refl _) (Nat.le_refl _) (Nat.le_refl _) _ s.heap [] hl hP (fun x hx => by cases hx)
  rw [Nat.sub_self] at hW
  exact hW
theorem rArg_go {o : rOut} {k : List rCV → List rCV → Option rOut} : ∀ (m : Nat) (as st : List rCV), (Nat.rec (motive := fun _ => List rCV → List rCV → Option rOut) (fun as st => k as st) (fun _ ih as st => rP st (fun v st => ih (v :: as) st)) m as st) = some o → ∃ bs st', st = bs.reverse ++ st' ∧ bs.length = m ∧ k (bs ++ as) st' = some o := by
  intro m
  induction m with
  | zero => intro as st h; exact ⟨[], st, rfl, rfl, h⟩
  | succ m ih =>
    intro as st h
    obtain ⟨v, st', rfl, h2⟩ := rP_some (st := st) h
    obtain ⟨bs, st2, h3, h4, h5⟩ := ih (v :: as) st' h2
    refine ⟨bs ++ [v], st2, ?_, ?_, ?_⟩
    · rw [h3, List.reverse_append]; rfl
    · rw [List.length_append, h4]; rfl
    · rw [List.append_assoc]; exact h5
theorem rArg_some {m : Nat} {st : List rCV} {o : rOut} {k : List rCV → List rCV → Option rOut} (h : rArg m st k = some o) : ∃ as st', st = as.reverse ++ st' ∧ as.length = m ∧ k as st' = some o := by
  obtain ⟨bs, st', h1, h2, h3⟩ := rArg_go m [] st h
  rw [List.append_nil] at h3
  exact ⟨bs, st', h1, h2, h3⟩
theorem rRes_some {β : Type} {r : Option rOut} {k : Option rCV → rWd → Nat → Nat → Option β} {o : β} (h : rRes r k = some o) : ∃ q : rOut, r = some q ∧ k q.1 q.2.1 q.2.2.1 q.2.2.2 = some o := by
  cases r with
  | none => cases h
  | some q => obtain ⟨v, w, n, c⟩ := q; exact ⟨_, rfl, h⟩
/-- what a call computes -/
theorem call_some {nargs : Nat} {ok : List rCV → rWd → Nat → Option Unit} {F : rEv} {k : rK} {ls : rLs} {st : List rCV} {w : rWd} {n c : Nat} {o : rOut} (h : h_call nargs ok F k ls st w n c = some o) : ∃ as st' q, st = as.reverse ++ st' ∧ as.length = nargs ∧ rSum st' ≤ 8 ∧ (ok as w n = some ()) ∧ F as w n = some q ∧ k ls (q.1.toList ++ st') q.2.1 q.2.2.1 (c + q.2.2.2) = some o := by
  obtain ⟨as, st', h1, h2, h3⟩ := rArg_some h
  obtain ⟨h4, h5⟩ := rB_yes h3
  cases e : ok as w n with
  | none => rw [e] at h5; cases h5
  | some u =>
    rw [e] at h5
    obtain ⟨q, h6, h7⟩ := rRes_some h5
    rw [rN_eq] at h7
    refine ⟨as, st', q, h1, h2, Nat.ble_eq.mp h4, e, h6, ?_⟩
    cases e2 : q.1 with
    | none => rw [e2] at h7; exact h7
    | some v => rw [e2] at h7; exact h7
theorem map_opt (f : rCV → Value) (v : Option rCV) (st : List rCV) : (v.map f).toList ++ st.map f = (v.toList ++ st).map f := by
  cases v <;> rfl
variable {cc : ByteArray} {nL n0 : Nat} {own : String} {pc : Nat} {ret : Option FieldType} {ini : Bool} {fr lo : Nat}
/-- a call, from what the kit's rows of calls give -/
theorem s_call {nargs : Nat} {ok : List rCV → rWd → Nat → Option Unit} {F : rEv} {y : MethodName} {bytes : ByteArray} {maxL : Nat} {rt : Option FieldType} {fr' lo' : Nat} (hM : rMet cl fo zs rs ns Ts l y bytes maxL rt fr' lo' F)
    (hrun : ∀ (as st' : List rCV) (w : rWd) (n kk : Nat) (q : rOut), as.length = nargs → rSum st' ≤ 8 → ok as w n = some () → F as w n = some q → ∀ (p : Program) (e : Env) (R : Room) (s : State) (m : MethodId) (args : Array Value) (below : List Frame) (meth : Method) (c : Code), rCx cl fo zs rs ns Ts G p R s m args meth c cc nL own ret ini fr lo → ∀ (rl : Array Slot) (H : Heap) (locs : List Loc) (cells slots : Nat), rl.size = nL → rPic cl G w n H → cells + (q.2.2.1 - n) ≤ R.cells → slots + q.2.2.2 ≤ R.slots →
      Met l y (.code y bytes maxL rt :: Ts) { frames := fr', cells := q.2.2.1 - n, slots := q.2.2.2, locals := lo' } (va_Pc (as.map (rv G)) (fun U => rPic cl G w n U.heap ∧ rKK cl fo zs rs ns G U)) (rQ cl fo zs rs ns G q) (q.2.2.1 - n) q.2.2.2 (fun a => G.2.2.1 ≤ a) →
      va_Run p l e R s m args below meth c H locs cells slots (q.2.2.1 - n) q.2.2.2 (F0 m pc rl ((as.reverse ++ st').map (rv G))) (st'.map (rv G)) (rQ cl fo zs rs ns G q (as.map (rv G)).toArray) (fun a => G.2.2.1 ≤ a)) :
    HS (rW cl fo zs rs ns Ts G l cc nL own ret ini fr lo n0) pc (pc + 3) (h_call nargs ok F) := by
  intro k ls st w n kk o e0
  obtain ⟨as, st', q, rfl, h2, h3, h4, h5, h6⟩ := call_some e0
  obtain ⟨b1, hMet⟩ := hM G as w n q h5
  refine ⟨_, _, _, _, _, h6, b1, Nat.le_add_right _ _, fun ho1 ho2 hV p e R s m args below meth c X r1 r2 r3 rl H locs hl hP hL => ?_⟩
  have hr := hrun as st' w n kk q h2 h3 h4 h5 p e R s m args below meth c X rl H locs (n - n0) kk hl.1 hP (by omega) (by omega) hMet
  intro T hT Xs
  obtain ⟨v, st₀, t, T', L, k0, X', hL', e1, e2, ⟨g1, g2, g3⟩, st⟩ := hr T hT Xs
  cases g1
  have hW := hV p e R s m args below meth c X r1 r2 (by omega) rl T'.heap (locs ++ L) hl (by rw [e1]; exact g2) (fun x hx => by
    rcases List.mem_append.mp hx with z | z
    · exact hL x z
    · exact hL' x z)
  rw [show q.2.2.1 - n0 = n - n0 + (q.2.2.1 - n) by omega] at hW
  obtain ⟨t2, a1, b3⟩ := hW T' rfl X'
  rw [map_opt] at st
  exact ⟨t2, st t2 a1, b3⟩
theorem good_in {ws : List Cond} (hg : ∀ w ∈ Ts, goodWord w = true) (h : ∀ w ∈ ws, w ∈ Ts) : GoodIn Ts ws := fun w hw => ⟨h w hw, good_of_word (hg w (h w hw))⟩
/-- the receiver's cell -/
theorem recv_some {ci : Nat} {as : List rCV} {w : rWd} {n : Nat} (h : rRecv fo ci as w n = some ()) {s : State} {H : Heap} (hK : rKK cl fo zs rs ns G s) (hP : rPic cl G w n H) {C : String} {T : u_T} {N : Nat} (hc : cl[ci]? = some (C, T, N)) : ∃ (v : rCV) (as' : List rCV) (b : Nat), as = v :: as' ∧ rv G v = .ref b ∧ ∃ cellB : Cell, H[b]? = some cellB ∧ cellB.vm.isStatics = false ∧ s.vm.findClass C = some cellB.cls := by
  obtain ⟨v, as', rfl, h1⟩ := rP_some h
  obtain ⟨r, rfl, h2⟩ := rR_some h1
  rcases rOF_some h2 with ⟨a, x, f, h3⟩ | ⟨a, b, x, f, h3⟩
  · obtain ⟨ci', fs, rfl, h4⟩ := rCO_some h3
    obtain ⟨h5, -⟩ := rB_yes h4
    have e1 : ci' = ci := Nat.eq_of_beq_eq_true h5
    subst e1
    obtain ⟨r0, hr0, cell, d1, d2, d3, d4⟩ := pic_cell hP f
    exact ⟨_, _, _, rfl, rv_own G a, cell, d1, by rw [d3]; rfl, by rw [d2]; exact (hK.1.1 ci' _ hc).2.1⟩
  · obtain ⟨ci', fs, rfl, h4⟩ := rCO_some h3
    obtain ⟨h5, -⟩ := rB_yes h4
    have e1 : ci' = ci := Nat.eq_of_beq_eq_true h5
    subst e1
    obtain ⟨q, cell, r0, g1, g2, g3, g4, g5, g6, g7⟩ := hK.2.2.2.2.2 _ _ f
    exact ⟨_, _, q, rfl, by rw [rv_ext G a b, g1], cell, by rw [hP.2.1 q g2]; exact g3, by rw [g6]; rfl, by rw [g5]; exact (hK.1.1 ci' _ hc).2.1⟩
theorem s_callV {F : rEv} {y : MethodName} {bytes : ByteArray} {maxL : Nat} {rt : Option FieldType} {fr' lo' ix : Nat} (na ci : Nat) {C : String} {T : u_T} {N : Nat} (hc : cl[ci]? = some (C, T, N)) (hM : rMet cl fo zs rs ns Ts l y bytes maxL rt fr' lo' F) (hg : ∀ w ∈ Ts, goodWord w = true)
    (w1 : Cond.methodLink own ix y ∈ Ts) (w2 : Cond.instanceMethod y ∈ Ts) (w3 : Cond.selects C y y ∈ Ts) (w4 : Cond.initialized C ∈ Ts) (w5 : Cond.code y bytes maxL rt ∈ Ts) (hd0 : y.cls = C ∧ y.cls ≠ "java/lang/invoke/MethodHandle" ∧ y.cls ≠ "java/lang/invoke/VarHandle" ∧ (parseMethodDescriptor y.desc).map (fun d => d.parameters.length) = some na) (hf : fr' + 1 ≤ fr) (hlo : 8 + (maxL + 11) + lo' ≤ lo)
    (hd : decode cc pc = .ok (.invokevirtual ix, 3)) : HS (rW cl fo zs rs ns Ts G l cc nL own ret ini fr lo n0) pc (pc + 3) (h_call (na + 1) (rRecv fo ci) F) := by
  apply s_call hM
  intro as st' w n kk q h1 h2 h3 h4 p e R s m args below meth c X rl H locs cells slots hsz hP q1 q2 hMet
  obtain ⟨v, as', b, rfl, hb, cellB, g1, g2, g3⟩ := recv_some h3 X.2.2.2.2.2.1 hP hc
  have hG : GoodIn Ts (wsV own ix C y (.code y bytes maxL rt :: Ts)) := good_in hg (fun z hz => by
    unfold wsV at hz
    simp only [List.mem_append, List.mem_cons, List.not_mem_nil, or_false] at hz
    rcases hz with (rfl | rfl | rfl | rfl) | rfl | hz
    · exact w1
    · exact w2
    · exact w3
    · exact w4
    · exact w5
    · exact hz)
  have hS : CallFix p m c cc nL s args Ts own := ⟨X.1, X.2.1, X.2.2.1, X.2.2.2.1, X.2.2.2.2.1⟩
  have hR1 := X.2.2.2.2.2.2.2.2.2.2.1
  have hR2 := X.2.2.2.2.2.2.2.2.2.2.2
  have e1 : (as'.map (rv G)).length = na := by rw [List.length_map]; simpa using h1
  have e2 : ((v :: as').reverse ++ st').map (rv G) = (as'.map (rv G)).reverse ++ .ref b :: st'.map (rv G) := by simp [hb]
  have e3 : (v :: as').map (rv G) = .ref b :: as'.map (rv G) := by simp [hb]
  rw [e3] at hMet ⊢
  rw [e2]
  exact va_runV (As := as'.map (rv G)) (rest := st'.map (rv G)) hS hMet (cwV na X.2.2.2.2.1 hG rfl rfl rfl hd0 ⟨by rw [hR1]; exact hf, by rw [hR2]; exact hlo⟩) ⟨rBlind _ _ _, ⟨cellB, g1, g2, g3⟩, fun U hU hW => ⟨rfl, by rw [hU]; exact hP, X.2.2.2.2.2.1.warm hW⟩⟩ rfl e1 hsz rfl (lv_room (by rw [rSum_eq G X.2.2.2.2.2.1.2.2.1]; exact h2)) hd ⟨q1, q2⟩
theorem s_callS {F : rEv} {y : MethodName} {bytes : ByteArray} {maxL : Nat} {rt : Option FieldType} {fr' lo' ix : Nat} (na : Nat) (hM : rMet cl fo zs rs ns Ts l y bytes maxL rt fr' lo' F) (hg : ∀ w ∈ Ts, goodWord w = true)
    (w1 : Cond.methodLink own ix y ∈ Ts) (w2 : Cond.static y ∈ Ts) (w4 : Cond.initialized y.cls ∈ Ts) (w5 : Cond.code y bytes maxL rt ∈ Ts) (hd0 : y.cls ≠ "java/lang/invoke/MethodHandle" ∧ y.cls ≠ "java/lang/invoke/VarHandle" ∧ (parseMethodDescriptor y.desc).map (fun d => d.parameters.length) = some na) (hf : fr' + 1 ≤ fr) (hlo : 8 + (maxL + 11) + lo' ≤ lo)
    (hd : decode cc pc = .ok (.invokestatic ix, 3)) : HS (rW cl fo zs rs ns Ts G l cc nL own ret ini fr lo n0) pc (pc + 3) (h_call na rAny F) := by
  apply s_call hM
  intro as st' w n kk q h1 h2 h3 h4 p e R s m args below meth c X rl H locs cells slots hsz hP q1 q2 hMet
  have hG : GoodIn Ts (.code y bytes maxL rt :: Ts) := good_in hg (fun z hz => by
    rcases List.mem_cons.mp hz with rfl | hz
    · exact w5
    · exact hz)
  have hS : CallFix p m c cc nL s args Ts own := ⟨X.1, X.2.1, X.2.2.1, X.2.2.2.1, X.2.2.2.2.1⟩
  have hR1 := X.2.2.2.2.2.2.2.2.2.2.1
  have hR2 := X.2.2.2.2.2.2.2.2.2.2.2
  have e2 : (as.reverse ++ st').map (rv G) = (as.map (rv G)).reverse ++ st'.map (rv G) := by simp
  rw [e2]
  exact va_runS (As := as.map (rv G)) (rest := st'.map (rv G)) hS hMet ⟨callB_of na X.2.2.2.2.1 hG rfl rfl rfl (X.2.2.2.2.1 _ w4) (X.2.2.2.2.1 _ w1) hd0 ⟨by rw [hR1]; exact hf, by rw [hR2]; exact hlo⟩, X.2.2.2.2.1 _ w2⟩ ⟨rBlind _ _ _, fun U hU hW => ⟨rfl, by rw [hU]; exact hP, X.2.2.2.2.2.1.warm hW⟩⟩ rfl (by rw [List.length_map]; exact h1) hsz rfl (lv_room (by rw [rSum_eq G X.2.2.2.2.2.1.2.2.1]; exact h2)) hd ⟨q1, q2⟩
theorem s_callI {F : rEv} {y : MethodName} {bytes : ByteArray} {maxL : Nat} {fr' lo' ix : Nat} (na ci : Nat) {C : String} {T : u_T} {N : Nat} (hc : cl[ci]? = some (C, T, N)) (hM : rMet cl fo zs rs ns Ts l y bytes maxL none fr' lo' F) (hg : ∀ w ∈ Ts, goodWord w = true)
    (w1 : Cond.methodLink own ix y ∈ Ts) (w2 : Cond.instanceMethod y ∈ Ts) (w4 : Cond.initialized y.cls ∈ Ts) (w5 : Cond.code y bytes maxL none ∈ Ts) (hy1 : y.name = "<init>") (hd0 : y.cls ≠ "java/lang/invoke/MethodHandle" ∧ y.cls ≠ "java/lang/invoke/VarHandle" ∧ (parseMethodDescriptor y.desc).map (fun d => d.parameters.length) = some na) (hf : fr' + 1 ≤ fr) (hlo : 8 + (maxL + 11) + lo' ≤ lo)
    (hd : decode cc pc = .ok (.invokespecial ix, 3)) : HS (rW cl fo zs rs ns Ts G l cc nL own ret ini fr lo n0) pc (pc + 3) (h_call (na + 1) (rRecv fo ci) F) := by
  apply s_call hM
  intro as st' w n kk q h1 h2 h3 h4 p e R s m args below meth c X rl H locs cells slots hsz hP q1 q2 hMet
  obtain ⟨v, as', b, rfl, hb, cellB, g1, g2, g3⟩ := recv_some h3 X.2.2.2.2.2.1 hP hc
  have hG : GoodIn Ts (.code y bytes maxL none :: Ts) := good_in hg (fun z hz => by
    rcases List.mem_cons.mp hz with rfl | hz
    · exact w5
    · exact hz)
  have hS : CallFix p m c cc nL s args Ts own := ⟨X.1, X.2.1, X.2.2.1, X.2.2.2.1, X.2.2.2.2.1⟩
  have hR1 := X.2.2.2.2.2.2.2.2.2.2.1
  have hR2 := X.2.2.2.2.2.2.2.2.2.2.2
  have e1 : (as'.map (rv G)).length = na := by rw [List.length_map]; simpa using h1
  have e2 : ((v :: as').reverse ++ st').map (rv G) = (as'.map (rv G)).reverse ++ .ref b :: st'.map (rv G) := by simp [hb]
  have e3 : (v :: as').map (rv G) = .ref b :: as'.map (rv G) := by simp [hb]
  rw [e3] at hMet ⊢
  rw [e2]
  exact va_runI (As := as'.map (rv G)) (rest := st'.map (rv G)) hS hMet (cwI na X.2.2.2.2.1 hG rfl rfl rfl (X.2.2.2.2.1 _ w4) (X.2.2.2.2.1 _ w1) (X.2.2.2.2.1 _ w2) hy1 hd0 ⟨by rw [hR1]; exact hf, by rw [hR2]; exact hlo⟩) ⟨rBlind _ _ _, fun U hU hW => ⟨rfl, by rw [hU]; exact hP, X.2.2.2.2.2.1.warm hW⟩⟩ rfl e1 hsz rfl (lv_room (by rw [rSum_eq G X.2.2.2.2.2.1.2.2.1]; exact h2)) hd ⟨q1, q2⟩
theorem s_callU {F : rEv} {x y : MethodName} {bytes : ByteArray} {maxL : Nat} {rt : Option FieldType} {fr' lo' ix : Nat} (na ci : Nat) {C owner : String} {T : u_T} {N : Nat} (hc : cl[ci]? = some (C, T, N)) (hM : rMet cl fo zs rs ns Ts l y bytes maxL rt fr' lo' F) (hg : ∀ w ∈ Ts, goodWord w = true)
    (w1 : Cond.methodLink own ix x ∈ Ts) (w2 : Cond.sameMethod x.cls owner x.name x.desc ∈ Ts) (w3 : Cond.selects C x y ∈ Ts) (w4 : Cond.instanceMethod y ∈ Ts) (w6 : Cond.initialized y.cls ∈ Ts) (w5 : Cond.code y bytes maxL rt ∈ Ts) (hyx : y = ⟨owner, x.name, x.desc⟩) (hd0 : owner ≠ "java/lang/invoke/MethodHandle" ∧ owner ≠ "java/lang/invoke/VarHandle" ∧ (parseMethodDescriptor x.desc).map (fun d => d.parameters.length) = some na) (hf : fr' + 1 ≤ fr) (hlo : 8 + (maxL + 11) + lo' ≤ lo)
    (hd : decode cc pc = .ok (.invokevirtual ix, 3)) : HS (rW cl fo zs rs ns Ts G l cc nL own ret ini fr lo n0) pc (pc + 3) (h_call (na + 1) (rRecv fo ci) F) := by
  apply s_call hM
  intro as st' w n kk q h1 h2 h3 h4 p e R s m args below meth c X rl H locs cells slots hsz hP q1 q2 hMet
  obtain ⟨v, as', b, rfl, hb, cellB, g1, g2, g3⟩ := recv_some h3 X.2.2.2.2.2.1 hP hc
  have hG : GoodIn Ts (va_wsU own ix C owner x y (.code y bytes maxL rt :: Ts)) := good_in hg (fun z hz => by
    unfold va_wsU at hz
    simp only [List.mem_append, List.mem_cons, List.not_mem_nil, or_false] at hz
    rcases hz with (rfl | rfl | rfl | rfl | rfl) | rfl | hz
    · exact w1
    · exact w2
    · exact w3
    · exact w4
    · exact w6
    · exact w5
    · exact hz)
  have hS : CallFix p m c cc nL s args Ts own := ⟨X.1, X.2.1, X.2.2.1, X.2.2.2.1, X.2.2.2.2.1⟩
  have hR1 := X.2.2.2.2.2.2.2.2.2.2.1
  have hR2 := X.2.2.2.2.2.2.2.2.2.2.2
  have e1 : (as'.map (rv G)).length = na := by rw [List.length_map]; simpa using h1
  have e2 : ((v :: as').reverse ++ st').map (rv G) = (as'.map (rv G)).reverse ++ .ref b :: st'.map (rv G) := by simp [hb]
  have e3 : (v :: as').map (rv G) = .ref b :: as'.map (rv G) := by simp [hb]
  rw [e3] at hMet ⊢
  rw [e2]
  exact va_runU (As := as'.map (rv G)) (rest := st'.map (rv G)) hS hMet (va_cwU na X.2.2.2.2.1 hG rfl rfl rfl hyx hd0 ⟨by rw [hR1]; exact hf, by rw [hR2]; exact hlo⟩) ⟨rBlind _ _ _, ⟨cellB, g1, g2, g3⟩, fun U hU hW => ⟨rfl, by rw [hU]; exact hP, X.2.2.2.2.2.1.warm hW⟩⟩ rfl e1 hsz rfl (lv_room (by rw [rSum_eq G X.2.2.2.2.2.1.2.2.1]; exact h2)) hd ⟨q1, q2⟩
theorem s_callO {F : rEv} {x y : MethodName} {bytes : ByteArray} {maxL : Nat} {rt : Option FieldType} {fr' lo' ix : Nat} (na ci : Nat) {C owner : String} {T : u_T} {N : Nat} (hc : cl[ci]? = some (C, T, N)) (hM : rMet cl fo zs rs ns Ts l y bytes maxL rt fr' lo' F) (hg : ∀ w ∈ Ts, goodWord w = true)
    (w1 : Cond.methodLink own ix x ∈ Ts) (w2 : Cond.sameMethod x.cls owner x.name x.desc ∈ Ts) (w7 : Cond.instanceMethod ⟨owner, x.name, x.desc⟩ ∈ Ts) (w3 : Cond.selects C x y ∈ Ts) (w4 : Cond.instanceMethod y ∈ Ts) (w6 : Cond.initialized y.cls ∈ Ts) (w5 : Cond.code y bytes maxL rt ∈ Ts) {b0 : ByteArray} {m0 : Nat} {r0 : Option FieldType} (h0 : Cond.code ⟨owner, x.name, x.desc⟩ b0 m0 r0 ∈ Ts) (hd0 : owner ≠ "java/lang/invoke/MethodHandle" ∧ owner ≠ "java/lang/invoke/VarHandle" ∧ (parseMethodDescriptor x.desc).map (fun d => d.parameters.length) = some na) (hf : fr' + 1 ≤ fr) (hlo : 8 + (maxL + 11) + lo' ≤ lo)
    (hd : decode cc pc = .ok (.invokevirtual ix, 3)) : HS (rW cl fo zs rs ns Ts G l cc nL own ret ini fr lo n0) pc (pc + 3) (h_call (na + 1) (rRecv fo ci) F) := by
  apply s_call hM
  intro as st' w n kk q h1 h2 h3 h4 p e R s m args below meth c X rl H locs cells slots hsz hP q1 q2 hMet
  obtain ⟨v, as', b, rfl, hb, cellB, g1, g2, g3⟩ := recv_some h3 X.2.2.2.2.2.1 hP hc
  have hG : GoodIn Ts (va_wsO own ix C owner x y (.code y bytes maxL rt :: Ts)) := good_in hg (fun z hz => by
    unfold va_wsO at hz
    simp only [List.mem_append, List.mem_cons, List.not_mem_nil, or_false] at hz
    rcases hz with (rfl | rfl | rfl | rfl | rfl | rfl) | rfl | hz
    · exact w1
    · exact w2
    · exact w7
    · exact w3
    · exact w4
    · exact w6
    · exact w5
    · exact hz)
  have hS : CallFix p m c cc nL s args Ts own := ⟨X.1, X.2.1, X.2.2.1, X.2.2.2.1, X.2.2.2.2.1⟩
  have hR1 := X.2.2.2.2.2.2.2.2.2.2.1
  have hR2 := X.2.2.2.2.2.2.2.2.2.2.2
  have e1 : (as'.map (rv G)).length = na := by rw [List.length_map]; simpa using h1
  have e2 : ((v :: as').reverse ++ st').map (rv G) = (as'.map (rv G)).reverse ++ .ref b :: st'.map (rv G) := by simp [hb]
  have e3 : (v :: as').map (rv G) = .ref b :: as'.map (rv G) := by simp [hb]
  rw [e3] at hMet ⊢
  rw [e2]
  exact va_runU (As := as'.map (rv G)) (rest := st'.map (rv G)) hS hMet (va_cwO na X.2.2.2.2.1 hG rfl rfl rfl h0 hd0 ⟨by rw [hR1]; exact hf, by rw [hR2]; exact hlo⟩) ⟨rBlind _ _ _, ⟨cellB, g1, g2, g3⟩, fun U hU hW => ⟨rfl, by rw [hU]; exact hP, X.2.2.2.2.2.1.warm hW⟩⟩ rfl e1 hsz rfl (lv_room (by rw [rSum_eq G X.2.2.2.2.2.1.2.2.1]; exact h2)) hd ⟨q1, q2⟩
theorem s_callSU {F : rEv} {y : MethodName} {bytes : ByteArray} {maxL : Nat} {rt : Option FieldType} {fr' lo' ix : Nat} (na ci : Nat) {C : String} {T : u_T} {N : Nat} (hc : cl[ci]? = some (C, T, N)) (hM : rMet cl fo zs rs ns Ts l y bytes maxL rt fr' lo' F) (hg : ∀ w ∈ Ts, goodWord w = true)
    (w1 : Cond.methodLink own ix y ∈ Ts) (w2 : Cond.sameMethod y.cls y.cls y.name y.desc ∈ Ts) (w3 : Cond.superclass own y.cls ∈ Ts) (w4 : Cond.instanceMethod y ∈ Ts) (w6 : Cond.initialized y.cls ∈ Ts) (w5 : Cond.code y bytes maxL rt ∈ Ts) (hd0 : y.name ≠ "<init>" ∧ (parseMethodDescriptor y.desc).map (fun d => d.parameters.length) = some na) (hf : fr' + 1 ≤ fr) (hlo : 8 + (maxL + 11) + lo' ≤ lo)
    (hd : decode cc pc = .ok (.invokespecial ix, 3)) : HS (rW cl fo zs rs ns Ts G l cc nL own ret ini fr lo n0) pc (pc + 3) (h_call (na + 1) (rRecv fo ci) F) := by
  apply s_call hM
  intro as st' w n kk q h1 h2 h3 h4 p e R s m args below meth c X rl H locs cells slots hsz hP q1 q2 hMet
  obtain ⟨v, as', b, rfl, hb, cellB, g1, g2, g3⟩ := recv_some h3 X.2.2.2.2.2.1 hP hc
  have hG : GoodIn Ts (va_wsSU own ix y (.code y bytes maxL rt :: Ts)) := good_in hg (fun z hz => by
    unfold va_wsSU at hz
    simp only [List.mem_append, List.mem_cons, List.not_mem_nil, or_false] at hz
    rcases hz with (rfl | rfl | rfl | rfl | rfl) | rfl | hz
    · exact w1
    · exact w2
    · exact w3
    · exact w4
    · exact w6
    · exact w5
    · exact hz)
  have hS : CallFix p m c cc nL s args Ts own := ⟨X.1, X.2.1, X.2.2.1, X.2.2.2.1, X.2.2.2.2.1⟩
  have hR1 := X.2.2.2.2.2.2.2.2.2.2.1
  have hR2 := X.2.2.2.2.2.2.2.2.2.2.2
  have e1 : (as'.map (rv G)).length = na := by rw [List.length_map]; simpa using h1
  have e2 : ((v :: as').reverse ++ st').map (rv G) = (as'.map (rv G)).reverse ++ .ref b :: st'.map (rv G) := by simp [hb]
  have e3 : (v :: as').map (rv G) = .ref b :: as'.map (rv G) := by simp [hb]
  rw [e3] at hMet ⊢
  rw [e2]
  exact va_runSU (As := as'.map (rv G)) (rest := st'.map (rv G)) (X.2.2.2.2.2.1.1.1 ci _ hc).2 hS hMet (va_cwSU na X.2.2.2.2.1 hG rfl rfl rfl hd0 ⟨by rw [hR1]; exact hf, by rw [hR2]; exact hlo⟩) ⟨rBlind _ _ _, ⟨cellB, g1, g2, g3⟩, fun U hU hW => ⟨rfl, by rw [hU]; exact hP, X.2.2.2.2.2.1.warm hW⟩⟩ rfl e1 hsz rfl (lv_room (by rw [rSum_eq G X.2.2.2.2.2.1.2.2.1]; exact h2)) hd ⟨q1, q2⟩
theorem s_callIN {F : rEv} {y : MethodName} {bytes : ByteArray} {maxL : Nat} {fr' lo' ix : Nat} {host : String} (na ci : Nat) {C : String} {T : u_T} {N : Nat} (hc : cl[ci]? = some (C, T, N)) (hM : rMet cl fo zs rs ns Ts l y bytes maxL none fr' lo' F) (hg : ∀ w ∈ Ts, goodWord w = true)
    (w1 : Cond.methodLinkNest own ix y host ∈ ns) (w2 : Cond.instanceMethod y ∈ Ts) (w4 : Cond.initialized y.cls ∈ Ts) (w5 : Cond.code y bytes maxL none ∈ Ts) (hy1 : y.name = "<init>") (hd0 : y.cls ≠ "java/lang/invoke/MethodHandle" ∧ y.cls ≠ "java/lang/invoke/VarHandle" ∧ (parseMethodDescriptor y.desc).map (fun d => d.parameters.length) = some na) (hf : fr' + 1 ≤ fr) (hlo : 8 + (maxL + 11) + lo' ≤ lo)
    (hd : decode cc pc = .ok (.invokespecial ix, 3)) : HS (rW cl fo zs rs ns Ts G l cc nL own ret ini fr lo n0) pc (pc + 3) (h_call (na + 1) (rRecv fo ci) F) := by
  apply s_call hM
  intro as st' w n kk q h1 h2 h3 h4 p e R s m args below meth c X rl H locs cells slots hsz hP q1 q2 hMet
  obtain ⟨v, as', b, rfl, hb, cellB, g1, g2, g3⟩ := recv_some h3 X.2.2.2.2.2.1 hP hc
  have hG : GoodIn Ts (.code y bytes maxL none :: Ts) := good_in hg (fun z hz => by
    rcases List.mem_cons.mp hz with rfl | hz
    · exact w5
    · exact hz)
  have hS : CallFix p m c cc nL s args Ts own := ⟨X.1, X.2.1, X.2.2.1, X.2.2.2.1, X.2.2.2.2.1⟩
  have hR1 := X.2.2.2.2.2.2.2.2.2.2.1
  have hR2 := X.2.2.2.2.2.2.2.2.2.2.2
  have e1 : (as'.map (rv G)).length = na := by rw [List.length_map]; simpa using h1
  have e2 : ((v :: as').reverse ++ st').map (rv G) = (as'.map (rv G)).reverse ++ .ref b :: st'.map (rv G) := by simp [hb]
  have e3 : (v :: as').map (rv G) = .ref b :: as'.map (rv G) := by simp [hb]
  rw [e3] at hMet ⊢
  rw [e2]
  exact va_runIN (As := as'.map (rv G)) (rest := st'.map (rv G)) hS hMet ⟨va_cnB na X.2.2.2.2.1 hG rfl rfl rfl (X.2.2.2.2.2.1.2.1.2 _ w1).1 (X.2.2.2.2.1 _ w4) hd0 ⟨by rw [hR1]; exact hf, by rw [hR2]; exact hlo⟩, hy1, X.2.2.2.2.1 _ w2⟩ ⟨rBlind _ _ _, fun U hU hW => ⟨rfl, by rw [hU]; exact hP, X.2.2.2.2.2.1.warm hW⟩⟩ rfl e1 hsz rfl (lv_room (by rw [rSum_eq G X.2.2.2.2.2.1.2.2.1]; exact h2)) hd ⟨q1, q2⟩
end RM
/-- a private method of the superclass of a class that can be made is what it selects -/
theorem rSelSup {y : MethodName} {C Z : String} {s : State} {args : Array Value} {n : Nat} (hy : y.cls ≠ "java/lang/invoke/MethodHandle" ∧ y.cls ≠ "java/lang/invoke/VarHandle") (hins : (Cond.instantiable C n).before args s = true) (hsup : (Cond.superclass y.cls Z).before args s = true) (hpriv : (Cond.privateMethod y).before args s = true) (hinst : (Cond.instanceMethod y).before args s = true) : (Cond.selects C y y).before args s = true := by
  obtain ⟨c, k, hc, hk, -⟩ := Cond.instantiable_spec hins
  obtain ⟨mk, methM, hnamed, hmethM, -, -⟩ := Cond.instanceMethod_spec hinst
  have hfound : s.methodFound? y.cls y.name y.desc = some mk := State.methodFound?_of_named hnamed hy
  have hsel : selectMethod {} s.vm c mk = .method mk := selectMethod_private hmethM (Cond.privateMethod_at hpriv mk methM hnamed hmethM)
  obtain ⟨p, k2, kp, -, hk2, -, -, -, -, hni⟩ := Cond.superclass_spec (findClass_of_methodNamed hnamed) hsup
  simp only [Cond.before, Cond.holds, Cond.value, hc, hfound, hnamed, hsel, hk2]
  simp [hni]
end
section
/-! THE RUNNER'S ROWS: copies, arrays of references, arrays of arrays -/
theorem arrV_ext {cA : ClassId} {N : Nat} {f g : Nat → Value} (h : ∀ j, j < N → f j = g j) : arrV cA N f = arrV cA N g := by
  unfold arrV
  congr 1
  apply congrArg
  funext j
  exact h j.val j.isLt
theorem okT_fits (G : rGm) {t : Nat} {v : rCV} (h : okT t v = true) : fits (rTy t) (rv G v) = true := by
  have h' : rB (Nat.beq t 0) (isI v) (rB (Nat.beq t 1) (isJ v) (okB t v)) = true := h
  cases e : Nat.beq t 0
  · rw [e] at h'
    have h2 : rB (Nat.beq t 1) (isJ v) (okB t v) = true := h'
    cases e1 : Nat.beq t 1
    · rw [e1] at h2
      rcases okB_e h2 with ⟨rfl, h3⟩ | ⟨rfl, h3⟩
      · rcases v with a | a | a
        · have h4 : rB (Nat.ble a 127) true (rB (Nat.ble 4294967168 a) (Nat.blt a 4294967296) false) = true := h3
          cases e2 : Nat.ble a 127
          · rw [e2] at h4
            obtain ⟨h5, h6⟩ := rB_and h4
            have g1 : 4294967168 ≤ a := Nat.ble_eq.mp h5
            have g2 : a < 4294967296 := Nat.blt_eq.mp h6
            have := (show ∀ b, b < 128 → fits .byte (.int (nI (b + 4294967168))) = true by decide +kernel) (a - 4294967168) (by omega)
            rw [Nat.sub_add_cancel g1] at this
            exact this
          · have g1 : a ≤ 127 := Nat.ble_eq.mp e2
            exact (show ∀ b, b < 128 → fits .byte (.int (nI b)) = true by decide +kernel) a (by omega)
        · cases h3
        · cases h3
      · obtain ⟨a, rfl, -, ha⟩ := isZ_e h3
        match a, ha with
        | 0, _ => rfl
        | 1, _ => rfl
    · have : t = 1 := Nat.eq_of_beq_eq_true e1
      subst this
      rw [e1] at h2
      obtain ⟨a, rfl⟩ := isJ_e h2
      rfl
  · have : t = 0 := Nat.eq_of_beq_eq_true e
    subst this
    rw [e] at h'
    obtain ⟨a, rfl⟩ := isI_e h'
    rfl
theorem rCp_some {β : Type} {t sp dp : Nat} {d : rCV} {m : rMp} {k : rMp → Option β} {o : β} : ∀ (N : Nat) (m' : rMp), rCp t N sp dp d m m' k = some o → ∃ m2, k m2 = some o ∧ (∀ i, i < N → okT t (rL d m (sp + i)) = true) ∧ ∀ (d' : rCV) (j : Nat), rL d' m2 j = if dp ≤ j ∧ j < dp + N then rL d m (sp + (j - dp)) else rL d' m' j := by
  intro N
  induction N with
  | zero =>
    intro m' h
    refine ⟨m', h, fun i hi => absurd hi (Nat.not_lt_zero i), fun d' j => ?_⟩
    rw [if_neg (by omega)]
  | succ N ih =>
    intro m' h
    have h' : rN (dp + N) (fun i => rN (i / 64) (fun q => rV (rL d m (sp + N)) (fun v => rB (okT t v) (rU m' q i v (fun m' => rCp t N sp dp d m m' k)) none))) = some o := h
    rw [rN_eq, rN_eq, rV_eq] at h'
    obtain ⟨h1, h2⟩ := rB_yes h'
    rw [rU_eq] at h2
    obtain ⟨m2, g1, g2, g3⟩ := ih _ h2
    refine ⟨m2, g1, fun i hi => ?_, fun d' j => ?_⟩
    · by_cases e : i = N
      · subst e; exact h1
      · exact g2 i (by omega)
    · rw [g3, rL_up]
      by_cases e : dp ≤ j ∧ j < dp + N
      · rw [if_pos e, if_pos (by omega)]
      · rw [if_neg e]
        by_cases e2 : j = dp + N
        · rw [if_pos e2, if_pos (by omega), show sp + (j - dp) = sp + N by omega]
        · rw [if_neg e2, if_neg (by omega)]
section RA
variable {cl : List vw_C} {fo : List rCC} {zs : List (String × String × String × rCV)} {rs : List (String × Nat × String × Nat)} {ns : List Cond} {Ts : List Cond} {G : rGm}
variable {l : Launch} {cc : ByteArray} {nL n0 : Nat} {own : String} {pc : Nat} {ret : Option FieldType} {ini : Bool} {fr lo : Nat}
theorem nI_toInt2 {a : Nat} (h : a ≤ 120000000) : (nI a).toInt = (a : Int) := nI_toInt (by omega)
theorem s_acopy {ix : Nat} (w1 : Cond.methodLink own ix arraycopyName ∈ Ts) (w2 : Cond.native arraycopyName ∈ Ts) (w3 : Cond.static arraycopyName ∈ Ts) (w4 : Cond.initialized "java/lang/System" ∈ Ts) (hf : 1 ≤ fr) (hlo : 8 + (nativeFrameWords "java/lang/System" "arraycopy" 5 + 11) ≤ lo) (hd : decode cc pc = .ok (.invokestatic ix, 3)) : HS (rW cl fo zs rs ns Ts G l cc nL own ret ini fr lo n0) pc (pc + 3) (h_acopy fo) := by
  intro k0 ls st w n kk o e0
  obtain ⟨x5, st, rfl, e1⟩ := rP_some e0
  obtain ⟨x4, st, rfl, e2⟩ := rP_some e1
  obtain ⟨x3, st, rfl, e3⟩ := rP_some e2
  obtain ⟨x2, st, rfl, e4⟩ := rP_some e3
  obtain ⟨x1, st, rfl, e5⟩ := rP_some e4
  obtain ⟨hsum, e51⟩ := rB_yes e5
  obtain ⟨N, rfl, e6⟩ := rI_some e51
  obtain ⟨dp, rfl, e7⟩ := rI_some e6
  obtain ⟨sp, rfl, e8⟩ := rI_some e7
  obtain ⟨r3, rfl, e9⟩ := rR_some e8
  obtain ⟨r1, rfl, e10⟩ := rR_some e9
  have key : ∃ t1 N1 d1 m1, ((r1 % 2 = 1 ∧ wGet (r1 / 2) w = some (.inr (t1, N1, d1, m1))) ∨ (¬ r1 % 2 = 1 ∧ ¬ r1 = 0 ∧ fo[r1 / 2 - 1]? = some (.inr (t1, N1, d1, m1)))) ∧ rO w r3 (fun p c3 => rCA c3 (fun t3 N3 d3 m3 => rB (Nat.beq t1 t3) (rB (Nat.ble t1 3) (rB (Nat.ble (Nat.add sp N) N1) (rB (Nat.ble (Nat.add dp N) N3) (rCp t1 N sp dp d1 m1 m3 (fun m => rWS w p (.inr (t3, N3, d3, m)) (fun w => k0 ls st w n kk))) none) none) none) none)) = some o := by
    rcases rOF_some e10 with ⟨a, x, f, h⟩ | ⟨a, b, x, f, h⟩
    · obtain ⟨t, N, d, m, rfl, h5⟩ := rCA_some h
      exact ⟨t, N, d, m, Or.inl ⟨a, f⟩, h5⟩
    · obtain ⟨t, N, d, m, rfl, h5⟩ := rCA_some h
      exact ⟨t, N, d, m, Or.inr ⟨a, b, f⟩, h5⟩
  obtain ⟨t1, N1, d1, m1, h4, e11⟩ := key
  obtain ⟨q3, c3, hp, e12⟩ := rO_some e11
  obtain ⟨t3, N3, d3, m3, rfl, e13⟩ := rCA_some e12
  obtain ⟨g1, e14⟩ := rB_yes e13
  obtain ⟨g2, e15⟩ := rB_yes e14
  obtain ⟨g3, e16⟩ := rB_yes e15
  obtain ⟨g4, e17⟩ := rB_yes e16
  obtain ⟨m2, e18, g5, g6⟩ := rCp_some N m3 e17
  have ht : t1 = t3 := Nat.eq_of_beq_eq_true g1
  subst ht
  have g2 : t1 ≤ 3 := Nat.ble_eq.mp g2
  have g3 : sp + N ≤ N1 := Nat.ble_eq.mp g3
  have g4 : dp + N ≤ N3 := Nat.ble_eq.mp g4
  have e19 := rWS_some _ _ e18
  refine ⟨_, _, _, _, _, e19, Nat.le_refl _, Nat.le_refl _, fun _ _ hV p e R s m args below meth c X r1' r2' r3' rl H locs hl hP hL => ?_⟩
  obtain ⟨a1, a2, a, cs, a3, a4, a5, a6, a7, a8, a9⟩ := arr_at X.2.2.2.2.2.1 hP h4
  obtain ⟨b1, b2, b3⟩ := pic_cell hP hp
  obtain ⟨ks0, ks, hks, sComp, hsk⟩ := a5
  obtain ⟨-, kd, hkd, dComp, hdk⟩ := X.2.2.2.2.2.1.arr b1 N3 (fun j => rv G (rL d3 m3 j))
  have hR1 := X.2.2.2.2.2.2.2.2.2.2.1
  have hR2 := X.2.2.2.2.2.2.2.2.2.2.2
  have hget : ∀ i, i < N → cs.slots.getD ((nI sp).toNatClampNeg + i) .null = rv G (rL d1 m1 (sp + i)) := fun i hi => by
    rw [nI_clamp (n := sp) (by omega), Array.getD_eq_getD_getElem?, a9 _ (by omega)]
    rfl
  rw [List.map_cons, List.map_cons, List.map_cons, List.map_cons, List.map_cons, rv_own G q3, a3]
  intro T hT Xs
  have hrank : (rTy t1 = .int ∨ rTy t1 = .long ∨ rTy t1 = .byte ∨ rTy t1 = .boolean) := by
    match t1, g2 with
    | 0, _ => exact Or.inl rfl
    | 1, _ => exact Or.inr (Or.inl rfl)
    | 2, _ => exact Or.inr (Or.inr (Or.inl rfl))
    | 3, _ => exact Or.inr (Or.inr (Or.inr rfl))
  have hsm := rSum_eq G X.2.2.2.2.2.1.2.2.1 st
  have hsum' : rSum st ≤ 8 := Nat.ble_eq.mp hsum
  obtain ⟨vm', X', step⟩ := Xs.arraycopy X.1 X.2.2.2.1 (X.2.2.2.2.1 _ w1) (X.2.2.2.2.1 _ w2) (X.2.2.2.2.1 _ w3) (X.2.2.2.2.1 _ w4) (src := a) (dst := G.2.2.1 + r3 / 2) (cs := cs) (srcPos := nI sp) (destPos := nI dp) (n := nI N) (by rw [hT]; exact a4) (by rw [hT]; exact b3)
    ks0 (fun _ h => by cases h) a6 (fun h => by cases h) hks hkd hsk hdk (by rcases hrank with h | h | h | h <;> rw [h] <;> rfl) (nI_pos (by omega)) (nI_pos (by omega)) (nI_pos (by omega))
    (by rw [nI_toInt (by omega), nI_toInt (by omega)]; omega)
    (by rw [nI_toInt (by omega), nI_toInt (by omega)]; show ¬ _ > ((arrV _ N3 _).slots.size : Int); rw [arrV_size]; omega)
    (fun vm₁ _ i hi => by
      rw [nI_clamp (n := N) (by omega)] at hi
      rw [hget i hi]
      have hfit := okT_fits G (g5 i hi)
      refine ⟨hfit, ?_⟩
      rcases hrank with h | h | h | h <;> rw [h] at hfit <;> revert hfit <;> cases rv G (rL d1 m1 (sp + i)) <;> intro hfit <;> first | exact trivial | cases hfit)
    (g := F0 m pc rl (.int (nI N) :: .int (nI dp) :: .ref (G.2.2.1 + r3 / 2) :: .int (nI sp) :: .ref a :: st.map (rv G))) rfl (by rw [X.2.2.1]; exact hl.1) (rest := st.map (rv G)) rfl (by rw [X.2.1]; exact hd) (by rw [hR1]; exact hf) (by rw [hR2]; show 2 * 0 + _ + _ ≤ _; rw [hsm]; omega)
  have ec : copied cs (arrV (G.2.1 t1) N3 (fun j => rv G (rL d3 m3 j))) (nI sp) (nI dp) (nI N) = arrV (G.2.1 t1) N3 (fun j => rv G (rL d3 m2 j)) := by
    show (arrV (G.2.1 t1) N3 (fun j => rv G (rL d3 m3 j))).storeRun (nI dp).toNatClampNeg (cs.stretch (nI sp).toNatClampNeg (nI N).toNatClampNeg) = _
    have es : cs.stretch (nI sp).toNatClampNeg (nI N).toNatClampNeg = (List.range N).map (fun i => rv G (rL d1 m1 (sp + i))) := by
      unfold Cell.stretch
      rw [nI_clamp (n := N) (by omega)]
      apply List.map_congr_left
      intro i hi
      exact hget i (List.mem_range.mp hi)
    rw [es, Cell.storeRun, va_pairs, nI_clamp (n := dp) (by omega)]
    congr 1
    funext j
    simp only [List.length_map, List.length_range, Nat.add_zero]
    rw [g6]
    by_cases h : dp ≤ j ∧ j < dp + N
    · rw [if_pos h, if_pos h, List.getD_eq_getElem?_getD, List.getElem?_map, List.getElem?_range (by omega)]
      rfl
    · rw [if_neg h, if_neg h]
  rw [ec] at X' step
  have hl1 : G.2.2.1 + r3 / 2 < H.size := (Array.getElem?_eq_some_iff.mp b3).1
  have hheap : ((T.setVm vm').setCell (G.2.2.1 + r3 / 2) (arrV (G.2.1 t1) N3 (fun j => rv G (rL d3 m2 j)))).heap = H.setIfInBounds (G.2.2.1 + r3 / 2) (arrV (G.2.1 t1) N3 (fun j => rv G (rL d3 m2 j))) := by rw [← hT]; rfl
  obtain ⟨t, u1, u2⟩ := hV p e R s m args below meth c X r1' r2' r3' rl _ _ hl (pic_set hP hp ⟨b1, b2, show (H.setIfInBounds (G.2.2.1 + r3 / 2) _)[G.2.2.1 + r3 / 2]? = some _ by simp [Array.getElem?_setIfInBounds, hl1]⟩ (by simp) (fun q hq => by simp [Array.getElem?_setIfInBounds, Ne.symm hq])) (fun x hx => by
    rcases List.mem_append.mp hx with h | h
    · exact hL x h
    · obtain ⟨z, -, hz⟩ := List.mem_map.mp h
      rw [← hz]
      exact Nat.le_add_right _ _) _ hheap X'
  exact ⟨t, step t u1, u2⟩
end RA
end
section
/-! THE RUNNER'S ROWS: rows of texts -/
section RB
variable {cl : List vw_C} {fo : List rCC} {zs : List (String × String × String × rCV)} {rs : List (String × Nat × String × Nat)} {ns : List Cond} {Ts : List Cond} {G : rGm}
variable {l : Launch} {cc : ByteArray} {nL n0 : Nat} {own : String} {pc : Nat} {ret : Option FieldType} {ini : Bool} {fr lo : Nat}
theorem s_anewa {ix : Nat} (w1 : Cond.classLink own ix "java/lang/String" ∈ Ts) (w2 : Cond.arrayOver (.object "java/lang/String") ∈ ns) (hd : decode cc pc = .ok (.anewarray ix, 3)) : HS (rW cl fo zs rs ns Ts G l cc nL own ret ini fr lo n0) pc (pc + 3) h_anewa := by
  intro k0 ls st w n kk o e0
  obtain ⟨x, st', rfl, h2⟩ := rP_some e0
  obtain ⟨N, rfl, h3⟩ := rI_some h2
  obtain ⟨h4, h5⟩ := rB_yes h3
  have hN : N ≤ 60000000 := Nat.ble_eq.mp h4
  rw [rN_eq, rN_eq, rN_eq] at h5
  refine ⟨_, _, _, _, _, h5, Nat.le_succ _, Nat.le_add_right _ _, fun ho1 ho2 hV p e R s m args below meth c X r1 r2 r3 rl H locs hl hP hL => ?_⟩
  have ho1' : n + 1 ≤ o.2.2.1 := ho1
  have ho2' : kk + N ≤ o.2.2.2 := ho2
  have hcl : (nI N).toNatClampNeg = N := nI_clamp (by omega)
  refine W.anew X.1 X.2.1 X.2.2.2.1 (X.2.2.2.2.1 _ w1) (X.2.2.2.2.2.1.2.1.2 _ w2).1 rfl hd rfl (nI_pos (by omega)) (by rw [hcl]; omega) (by omega) (by rw [hcl]; omega) fun cA kA comp f1 f2 f3 f4 => ?_
  rw [hcl]
  obtain ⟨kA', comp', -, -, -, g4⟩ := (X.2.2.2.2.2.1.1.2 4 _ (rTys_at (by decide))).2
  have hcA : cA = G.2.1 4 := Option.some.inj (f1.symm.trans g4)
  subst hcA
  generalize hH1 : H.push ({ cls := G.2.1 4, slots := Array.replicate N .null, vm := .none } : Cell) = H1
  have z1 : H1.size = H.size + 1 := by rw [← hH1, Array.size_push]
  have e1 : H1[H.size]? = some (arrV (G.2.1 4) N (fun _ => .null)) := by rw [← hH1, Array.getElem?_push_size, ← arrV_new]
  have o1 : ∀ q : Nat, q < H.size → H1[q]? = H[q]? := fun q hq => by rw [← hH1, Array.getElem?_push, if_neg (Nat.ne_of_lt hq)]
  have hpic : rPic cl G ((n, .inr (4, N, .inr (.inr 0), [])) :: w) (n + 1) H1 := pic_push hP ⟨by decide, hN, by
    rw [e1]
    refine congrArg some (congrArg (arrV _ N) (funext fun j => ?_))
    rw [rL_eq]
    rfl⟩ z1 o1
  have hV' := hV p e R s m args below meth c X r1 r2 (by omega) rl H1 locs hl hpic hL
  rw [List.map_cons, rv_own G (by show (2 * n + 1) % 2 = 1; omega), show G.2.2.1 + Nat.succ (Nat.mul 2 n) / 2 = H.size by rw [hP.1]; show _ + (2 * n + 1) / 2 = _; omega] at hV'
  rw [show n - n0 + 1 = Nat.succ n - n0 by omega]
  exact hV'
theorem s_aastS {T : u_T} {N9 : Nat} (hc0 : cl[0]? = some ("java/lang/String", T, N9)) (hd : decode cc pc = .ok (.aastore, 1)) : HS (rW cl fo zs rs ns Ts G l cc nL own ret ini fr lo n0) pc (pc + 1) (h_astS fo) := by
  intro k0 ls st w n kk o e0
  obtain ⟨v, st0, rfl, h0⟩ := rP_some e0
  obtain ⟨y, st1, rfl, h1⟩ := rP_some h0
  obtain ⟨x, st2, rfl, h2⟩ := rP_some h1
  have hrec : rRecv fo 0 [v] w n = some () := by
    cases e : rRecv fo 0 [v] w n with
    | none => rw [e] at h2; cases h2
    | some u => rfl
  rw [hrec] at h2
  obtain ⟨i, rfl, h3⟩ := rI_some h2
  obtain ⟨r, rfl, h31⟩ := rR_some h3
  obtain ⟨q1, cell, hp, h⟩ := rO_some h31
  obtain ⟨t, N, d, mm, rfl, h5⟩ := rCA_some h
  obtain ⟨h7, h8⟩ := rB_yes h5
  obtain ⟨h6, h9⟩ := rB_yes h8
  have h6 : i < N := Nat.blt_eq.mp h6
  have ht : t = 4 := Nat.eq_of_beq_eq_true h7
  subst ht
  rw [rN_eq, rU_eq] at h9
  have h11 := rWS_some _ _ h9
  refine ⟨ls, st2, _, n, kk, h11, Nat.le_refl _, Nat.le_refl _, fun _ _ hV p e R s m args below meth c X r1 r2 r3 rl H locs hl hP hL => ?_⟩
  obtain ⟨c1, c2, c3⟩ := pic_cell hP hp
  obtain ⟨v', as', b, ev, hb, cellB, g1, g2, g3⟩ := recv_some hrec X.2.2.2.2.2.1 hP hc0
  cases ev
  obtain ⟨kA, comp, k1, k2, k3, k4⟩ := (X.2.2.2.2.2.1.1.2 4 _ (rTys_at (by decide))).2
  obtain ⟨kE, hkE, -⟩ := Vm.findClass_spec k3
  have hcc : comp = cellB.cls := Option.some.inj (k3.symm.trans g3)
  rw [List.map_cons, List.map_cons, List.map_cons, rv_own G q1, hb]
  refine W.aast X.1 X.2.1 c3 (fun q h => by cases h) (fun h => by cases h) k1 k2 rfl hkE ⟨nI_pos (by omega), by rw [nI_clamp (by omega)]; show _ < (arrV _ _ _).slots.size; rw [arrV_size]; exact h6⟩ g1 (fun q h => by rw [h] at g2; cases g2) (by rw [← hcc]; exact hkE) (by rw [← hcc]; exact va_asg _ _) rfl rfl hd fun H1 e1 z1 o1 => ?_
  refine hV p e R s m args below meth c X r1 r2 r3 rl H1 _ hl (pic_set hP hp ⟨by decide, c2, ?_⟩ z1 o1) (locs_put hL)
  rw [e1, arrV_store, nI_clamp (by omega), ← hb]
  exact congrArg some (arr_up _)
end RB
end
section
/-! THE RUNNER'S ROW: T[N][M] (of the cells that come nothing is kept) -/
section RC
variable {cl : List vw_C} {fo : List rCC} {zs : List (String × String × String × rCV)} {rs : List (String × Nat × String × Nat)} {ns : List Cond} {Ts : List Cond} {G : rGm}
variable {l : Launch} {cc : ByteArray} {nL n0 : Nat} {own : String} {pc : Nat} {ret : Option FieldType} {ini : Bool} {fr lo : Nat}
theorem s_multi {ix : Nat} {ty : FieldType} (w1 : Cond.classLink own ix ("[" ++ (FieldType.array ty).toString) ∈ Ts) (w2 : Cond.arrayOver (.array ty) ∈ ns) (w3 : Cond.arrayClass ty ∈ Ts) (hb8 : componentBytes ty ≤ 8) (hdf : fits ty (defaultValue ty) = true) (hdd : (defaultValue ty).isDefault = true) (hd : decode cc pc = .ok (.multianewarray ix 2, 4)) : HS (rW cl fo zs rs ns Ts G l cc nL own ret ini fr lo n0) pc (pc + 4) h_multi := by
  intro k0 ls st w n kk o e0
  obtain ⟨y, st0, rfl, h0⟩ := rP_some e0
  obtain ⟨x, st', rfl, h1⟩ := rP_some h0
  obtain ⟨N, rfl, h2⟩ := rI_some h1
  obtain ⟨M, rfl, h3⟩ := rI_some h2
  obtain ⟨h4, h5⟩ := rB_yes h3
  obtain ⟨h6, h7⟩ := rB_yes h5
  have hN : N ≤ 60000000 := Nat.ble_eq.mp h4
  have hM : M ≤ 60000000 := Nat.ble_eq.mp h6
  rw [rN_eq, rN_eq, rN_eq] at h7
  refine ⟨_, _, _, _, _, h7, Nat.le_add_right _ _, Nat.le_add_right _ _, fun ho1 ho2 hV p e R s m args below meth c X r1 r2 r3 rl H locs hl hP hL => ?_⟩
  have ho1' : n + (N + 1) ≤ o.2.2.1 := ho1
  have ho2' : kk + (N + N * M) ≤ o.2.2.2 := ho2
  have hclN : (nI N).toNatClampNeg = N := nI_clamp (by omega)
  have hclM : (nI M).toNatClampNeg = M := nI_clamp (by omega)
  intro T hT Xs
  have hbm : M * componentBytes ty ≤ 536870912 := Nat.le_trans (Nat.mul_le_mul_left M hb8) (by omega)
  obtain ⟨vm₁, cA, comp, -, fA, fC, hO, -, X', step⟩ := Jvm.Stand.multianewarray2F Xs X.1 X.2.2.2.1 (X.2.2.2.2.1 _ w1) (X.2.2.2.2.2.1.2.1.2 _ w2).1 (X.2.2.2.2.1 _ w3) (g := F0 m pc rl (.int (nI M) :: .int (nI N) :: st'.map (rv G))) rfl (by rw [X.2.1]; exact hd) rfl (nI_pos (by omega)) (nI_pos (by omega)) (by rw [hclN]; omega) (by rw [hclM]; exact hbm) (by rw [hclM]; omega) hdf hdd (by rw [hclN]; omega) (by rw [hclN, hclM]; omega)
  rw [hclN, hclM] at X' step
  generalize hF : Jvm.Free.Multi.fill (T.setVm vm₁) cA comp N M (defaultValue ty) N = F at X' step
  have hTh : (T.setVm vm₁).heap = H := hT
  obtain ⟨f1, -, -, -⟩ := Jvm.Free.Multi.fill_facts (T.setVm vm₁) cA comp N M (defaultValue ty) N
  rw [hF, hTh] at f1
  have hold : ∀ x : Nat, x < H.size → F.heap[x]? = H[x]? := fun x hx => by
    have := Jvm.Free.Multi.fill_old (T.setVm vm₁) cA comp N M (defaultValue ty) (a := x) (by rw [hTh]; exact hx) N
    rw [hF, hTh] at this
    exact this
  have hpic : rPic cl G w (n + (N + 1)) F.heap := ⟨by rw [f1, hP.1]; omega, fun q hq => (hold q (by rw [hP.1]; omega)).trans (hP.2.1 q hq), fun i x hx => ⟨by have := (hP.2.2 i x hx).1; omega, (hP.2.2 i x hx).2.kept (hold _ (by rw [hP.1]; have := (hP.2.2 i x hx).1; omega))⟩⟩
  have hV' := hV p e R s m args below meth c X r1 r2 (show n0 ≤ n + (N + 1) by omega) rl F.heap locs hl hpic hL
  rw [List.map_cons, rv_own G (by show (2 * n + 1) % 2 = 1; omega), show G.2.2.1 + Nat.succ (Nat.mul 2 n) / 2 = H.size by rw [hP.1]; show _ + (2 * n + 1) / 2 = _; omega] at hV'
  have hV2 : W p l e R s m args below meth c F.heap locs (n - n0 + 1 + N) (kk + N + N * M) (MQ below (rQ cl fo zs rs ns G o) args s (o.2.2.1 - n0) o.2.2.2 (fun q => G.2.2.1 ≤ q)) (F0 m (pc + 4) rl (.ref H.size :: st'.map (rv G))) := by
    rw [show n - n0 + 1 + N = n + (N + 1) - n0 by omega, show kk + N + N * M = kk + (N + N * M) by omega]
    exact hV'
  rw [hT] at step
  obtain ⟨t, a1, b1⟩ := hV2 F rfl X'
  exact ⟨t, step t a1, b1⟩
end RC
end
section
/-! NAMES (out of claim/NAMES.whole.lean.txt, what is reached) -/
def RX0 : String := "NativeWorks$Assemble\x72"
def TX0 : u_T := fun k => match k with
  | 0 => ("NativeWorks$Assemble\x72", "line", "LNativeWorks$Line;", true)
  | 1 => ("NativeWorks$Assemble\x72", "reade\x72", "LNativeWorks$Reader;", true)
  | 2 => ("NativeWorks$Assemble\x72", "units", "LNativeWorks$Units;", true)
  | 3 => ("NativeWorks$Assemble\x72", "expression", "LNativeWorks$Expression;", true)
  | 4 => ("NativeWorks$Assemble\x72", "instruction", "LNativeWorks$Instruction;", true)
  | 5 => ("NativeWorks$Assemble\x72", "told", "[I", true)
  | 6 => ("NativeWorks$Assemble\x72", "section", "I", false)
  | 7 => ("NativeWorks$Assemble\x72", "word", "I", false)
  | 8 => ("NativeWorks$Assemble\x72", "first", "I", false)
  | 9 => ("NativeWorks$Assemble\x72", "macro", "I", false)
  | 10 => ("NativeWorks$Assemble\x72", "numberPlus", "I", false)
  | 11 => ("NativeWorks$Assemble\x72", "numberMinus", "I", false)
  | 12 => ("NativeWorks$Assemble\x72", "displacementPlus", "I", false)
  | 13 => ("NativeWorks$Assemble\x72", "displacementMinus", "I", false)
  | _ => ("NativeWorks$Assemble\x72", "faultLine", "I", false)
def tyX0 : Nat → FieldType := fun k => match k with
  | 0 => .object "NativeWorks$Line"
  | 1 => .object "NativeWorks$Reade\x72"
  | 2 => .object "NativeWorks$Units"
  | 3 => .object "NativeWorks$Expression"
  | 4 => .object "NativeWorks$Instruction"
  | 5 => .array .int
  | 6 => .int
  | 7 => .int
  | 8 => .int
  | 9 => .int
  | 10 => .int
  | 11 => .int
  | 12 => .int
  | 13 => .int
  | _ => .int
theorem nmX0 : ∀ a, a < 15 → ∀ b, b < 15 → a ≠ b → (TX0 a).2.1 ≠ (TX0 b).2.1 := by decide +kernel
theorem tyX0_ok : ∀ k, k < 15 → parseFieldDescriptor (TX0 k).2.2.1 = some (tyX0 k) := by decide +kernel
abbrev cX0_init : ByteArray := prog_2_method_1_code
def yX0_init : MethodName := ⟨RX0, "<init>", "([BLNativeWorks$Units;)V"⟩
def RX1 : String := "NativeWorks$Expression"
def TX1 : u_T := fun k => match k with
  | 0 => ("NativeWorks$Expression", "line", "LNativeWorks$Line;", true)
  | 1 => ("NativeWorks$Expression", "units", "LNativeWorks$Units;", true)
  | 2 => ("NativeWorks$Expression", "numbe\x72", "[J", true)
  | 3 => ("NativeWorks$Expression", "plus", "[I", true)
  | 4 => ("NativeWorks$Expression", "minus", "[I", true)
  | 5 => ("NativeWorks$Expression", "signs", "[I", true)
  | 6 => ("NativeWorks$Expression", "name", "[B", true)
  | 7 => ("NativeWorks$Expression", "latest", "[B", true)
  | 8 => ("NativeWorks$Expression", "values", "I", false)
  | 9 => ("NativeWorks$Expression", "nameLength", "I", false)
  | _ => ("NativeWorks$Expression", "latestLength", "I", false)
def tyX1 : Nat → FieldType := fun k => match k with
  | 0 => .object "NativeWorks$Line"
  | 1 => .object "NativeWorks$Units"
  | 2 => .array .long
  | 3 => .array .int
  | 4 => .array .int
  | 5 => .array .int
  | 6 => .array .byte
  | 7 => .array .byte
  | 8 => .int
  | 9 => .int
  | _ => .int
theorem nmX1 : ∀ a, a < 11 → ∀ b, b < 11 → a ≠ b → (TX1 a).2.1 ≠ (TX1 b).2.1 := by decide +kernel
theorem tyX1_ok : ∀ k, k < 11 → parseFieldDescriptor (TX1 k).2.2.1 = some (tyX1 k) := by decide +kernel
abbrev cX1_init : ByteArray := prog_3_method_1_code
def yX1_init : MethodName := ⟨RX1, "<init>", "(LNativeWorks$Line;LNativeWorks$Units;)V"⟩
def RX2 : String := "NativeWorks$Instruction"
def TX2 : u_T := fun k => match k with
  | 0 => ("NativeWorks$Instruction", "rows", "[I", true)
  | 1 => ("NativeWorks$Instruction", "firstRow", "[I", true)
  | 2 => ("NativeWorks$Instruction", "rowAt", "[I", true)
  | 3 => ("NativeWorks$Instruction", "kind", "[I", true)
  | 4 => ("NativeWorks$Instruction", "reg", "[I", true)
  | 5 => ("NativeWorks$Instruction", "bytes", "[B", true)
  | 6 => ("NativeWorks$Instruction", "op", "I", false)
  | 7 => ("NativeWorks$Instruction", "condition", "I", false)
  | 8 => ("NativeWorks$Instruction", "size", "I", false)
  | 9 => ("NativeWorks$Instruction", "count", "I", false)
  | 10 => ("NativeWorks$Instruction", "base", "I", false)
  | 11 => ("NativeWorks$Instruction", "index", "I", false)
  | 12 => ("NativeWorks$Instruction", "shift", "I", false)
  | 13 => ("NativeWorks$Instruction", "odd", "Z", false)
  | 14 => ("NativeWorks$Instruction", "displacement", "J", false)
  | 15 => ("NativeWorks$Instruction", "displacementWaits", "Z", false)
  | 16 => ("NativeWorks$Instruction", "numbe\x72", "J", false)
  | 17 => ("NativeWorks$Instruction", "numberWidth", "I", false)
  | 18 => ("NativeWorks$Instruction", "displacementAt", "I", false)
  | 19 => ("NativeWorks$Instruction", "numberAt", "I", false)
  | _ => ("NativeWorks$Instruction", "length", "I", false)
def tyX2 : Nat → FieldType := fun k => match k with
  | 0 => .array .int
  | 1 => .array .int
  | 2 => .array .int
  | 3 => .array .int
  | 4 => .array .int
  | 5 => .array .byte
  | 6 => .int
  | 7 => .int
  | 8 => .int
  | 9 => .int
  | 10 => .int
  | 11 => .int
  | 12 => .int
  | 13 => .boolean
  | 14 => .long
  | 15 => .boolean
  | 16 => .long
  | 17 => .int
  | 18 => .int
  | 19 => .int
  | _ => .int
theorem nmX2 : ∀ a, a < 21 → ∀ b, b < 21 → a ≠ b → (TX2 a).2.1 ≠ (TX2 b).2.1 := by decide +kernel
theorem tyX2_ok : ∀ k, k < 21 → parseFieldDescriptor (TX2 k).2.2.1 = some (tyX2 k) := by decide +kernel
abbrev cX2_init : ByteArray := prog_4_method_1_code
def yX2_init : MethodName := ⟨RX2, "<init>", "()V"⟩
abbrev cX2_enter : ByteArray := prog_4_method_2_code
def yX2_enter : MethodName := ⟨RX2, "ente\x72", "(I)V"⟩
abbrev cX2_isConditional : ByteArray := prog_4_method_3_code
def yX2_isConditional : MethodName := ⟨RX2, "isConditional", "(I)Z"⟩
def RX3 : String := "NativeWorks$Line"
def TX3 : u_T := fun k => match k with
  | 0 => ("NativeWorks$Line", "text", "[B", true)
  | 1 => ("NativeWorks$Line", "words", "LNativeWorks$Names;", true)
  | 2 => ("NativeWorks$Line", "kind", "[I", true)
  | 3 => ("NativeWorks$Line", "value", "[J", true)
  | 4 => ("NativeWorks$Line", "from", "[I", true)
  | 5 => ("NativeWorks$Line", "to", "[I", true)
  | 6 => ("NativeWorks$Line", "length", "I", false)
  | 7 => ("NativeWorks$Line", "count", "I", false)
  | 8 => ("NativeWorks$Line", "at", "I", false)
  | _ => ("NativeWorks$Line", "worst", "I", false)
def tyX3 : Nat → FieldType := fun k => match k with
  | 0 => .array .byte
  | 1 => .object "NativeWorks$Names"
  | 2 => .array .int
  | 3 => .array .long
  | 4 => .array .int
  | 5 => .array .int
  | 6 => .int
  | 7 => .int
  | 8 => .int
  | _ => .int
theorem nmX3 : ∀ a, a < 10 → ∀ b, b < 10 → a ≠ b → (TX3 a).2.1 ≠ (TX3 b).2.1 := by decide +kernel
theorem tyX3_ok : ∀ k, k < 10 → parseFieldDescriptor (TX3 k).2.2.1 = some (tyX3 k) := by decide +kernel
abbrev cX3_init : ByteArray := prog_5_method_1_code
def yX3_init : MethodName := ⟨RX3, "<init>", "()V"⟩
abbrev cX3_teach : ByteArray := prog_5_method_2_code
def yX3_teach : MethodName := ⟨RX3, "teach", "(Ljava/lang/String;)V"⟩
def RX4 : String := "NativeWorks$Linke\x72"
def TX4 : u_T := fun k => match k with
  | 0 => ("NativeWorks$Linke\x72", "units", "LNativeWorks$Units;", true)
  | 1 => ("NativeWorks$Linke\x72", "taken", "[Z", true)
  | 2 => ("NativeWorks$Linke\x72", "needed", "[Z", true)
  | 3 => ("NativeWorks$Linke\x72", "places", "[I", true)
  | 4 => ("NativeWorks$Linke\x72", "stands", "[I", true)
  | 5 => ("NativeWorks$Linke\x72", "from", "[I", true)
  | 6 => ("NativeWorks$Linke\x72", "to", "[I", true)
  | 7 => ("NativeWorks$Linke\x72", "bytes", "[B", true)
  | 8 => ("NativeWorks$Linke\x72", "origins", "[I", true)
  | 9 => ("NativeWorks$Linke\x72", "names", "LNativeWorks$Names;", true)
  | 10 => ("NativeWorks$Linke\x72", "addresses", "[J", true)
  | 11 => ("NativeWorks$Linke\x72", "made", "Z", false)
  | 12 => ("NativeWorks$Linke\x72", "start", "I", false)
  | 13 => ("NativeWorks$Linke\x72", "length", "I", false)
  | 14 => ("NativeWorks$Linke\x72", "end", "I", false)
  | 15 => ("NativeWorks$Linke\x72", "faultKind", "I", false)
  | 16 => ("NativeWorks$Linke\x72", "faultLine", "I", false)
  | _ => ("NativeWorks$Linke\x72", "faultUnit", "I", false)
def tyX4 : Nat → FieldType := fun k => match k with
  | 0 => .object "NativeWorks$Units"
  | 1 => .array .boolean
  | 2 => .array .boolean
  | 3 => .array .int
  | 4 => .array .int
  | 5 => .array .int
  | 6 => .array .int
  | 7 => .array .byte
  | 8 => .array .int
  | 9 => .object "NativeWorks$Names"
  | 10 => .array .long
  | 11 => .boolean
  | 12 => .int
  | 13 => .int
  | 14 => .int
  | 15 => .int
  | 16 => .int
  | _ => .int
theorem nmX4 : ∀ a, a < 18 → ∀ b, b < 18 → a ≠ b → (TX4 a).2.1 ≠ (TX4 b).2.1 := by decide +kernel
theorem tyX4_ok : ∀ k, k < 18 → parseFieldDescriptor (TX4 k).2.2.1 = some (tyX4 k) := by decide +kernel
abbrev cX4_init : ByteArray := prog_6_method_1_code
def yX4_init : MethodName := ⟨RX4, "<init>", "(LNativeWorks$Units;)V"⟩
def RX5 : String := "NativeWorks$Machine"
def TX5 : u_T := fun k => match k with
  | 0 => ("NativeWorks$Machine", "memory", "LNativeWorks$Memory;", true)
  | 1 => ("NativeWorks$Machine", "it", "LNativeWorks$Instruction;", true)
  | 2 => ("NativeWorks$Machine", "\x72", "[J", true)
  | 3 => ("NativeWorks$Machine", "input", "[B", true)
  | 4 => ("NativeWorks$Machine", "output", "[B", true)
  | 5 => ("NativeWorks$Machine", "stops", "[J", true)
  | 6 => ("NativeWorks$Machine", "ip", "J", false)
  | 7 => ("NativeWorks$Machine", "flags", "I", false)
  | 8 => ("NativeWorks$Machine", "waiting", "I", false)
  | 9 => ("NativeWorks$Machine", "written", "I", false)
  | 10 => ("NativeWorks$Machine", "stopCount", "I", false)
  | 11 => ("NativeWorks$Machine", "stop", "I", false)
  | 12 => ("NativeWorks$Machine", "stopValue", "J", false)
  | 13 => ("NativeWorks$Machine", "steps", "I", false)
  | 14 => ("NativeWorks$Machine", "next", "J", false)
  | 15 => ("NativeWorks$Machine", "place", "J", false)
  | _ => ("NativeWorks$Machine", "rest", "J", false)
def tyX5 : Nat → FieldType := fun k => match k with
  | 0 => .object "NativeWorks$Memory"
  | 1 => .object "NativeWorks$Instruction"
  | 2 => .array .long
  | 3 => .array .byte
  | 4 => .array .byte
  | 5 => .array .long
  | 6 => .long
  | 7 => .int
  | 8 => .int
  | 9 => .int
  | 10 => .int
  | 11 => .int
  | 12 => .long
  | 13 => .int
  | 14 => .long
  | 15 => .long
  | _ => .long
theorem nmX5 : ∀ a, a < 17 → ∀ b, b < 17 → a ≠ b → (TX5 a).2.1 ≠ (TX5 b).2.1 := by decide +kernel
theorem tyX5_ok : ∀ k, k < 17 → parseFieldDescriptor (TX5 k).2.2.1 = some (tyX5 k) := by decide +kernel
abbrev cX5_init : ByteArray := prog_7_method_1_code
def yX5_init : MethodName := ⟨RX5, "<init>", "()V"⟩
def RX6 : String := "NativeWorks$Memory"
def TX6 : u_T := fun k => match k with
  | 0 => ("NativeWorks$Memory", "low", "[B", true)
  | 1 => ("NativeWorks$Memory", "stack", "[B", true)
  | 2 => ("NativeWorks$Memory", "begins", "[Z", true)
  | 3 => ("NativeWorks$Memory", "loaded", "Z", false)
  | 4 => ("NativeWorks$Memory", "textFrom", "J", false)
  | 5 => ("NativeWorks$Memory", "textTo", "J", false)
  | 6 => ("NativeWorks$Memory", "rodataFrom", "J", false)
  | 7 => ("NativeWorks$Memory", "rodataTo", "J", false)
  | 8 => ("NativeWorks$Memory", "dataFrom", "J", false)
  | 9 => ("NativeWorks$Memory", "dataTo", "J", false)
  | 10 => ("NativeWorks$Memory", "heap", "J", false)
  | _ => ("NativeWorks$Memory", "end", "J", false)
def tyX6 : Nat → FieldType := fun k => match k with
  | 0 => .array .byte
  | 1 => .array .byte
  | 2 => .array .boolean
  | 3 => .boolean
  | 4 => .long
  | 5 => .long
  | 6 => .long
  | 7 => .long
  | 8 => .long
  | 9 => .long
  | 10 => .long
  | _ => .long
theorem nmX6 : ∀ a, a < 12 → ∀ b, b < 12 → a ≠ b → (TX6 a).2.1 ≠ (TX6 b).2.1 := by decide +kernel
theorem tyX6_ok : ∀ k, k < 12 → parseFieldDescriptor (TX6 k).2.2.1 = some (tyX6 k) := by decide +kernel
abbrev cX6_init : ByteArray := prog_8_method_1_code
def yX6_init : MethodName := ⟨RX6, "<init>", "()V"⟩
def RX7 : String := "NativeWorks$Names"
def TX7 : u_T := fun k => match k with
  | 0 => ("NativeWorks$Names", "letters", "[B", true)
  | 1 => ("NativeWorks$Names", "from", "[I", true)
  | 2 => ("NativeWorks$Names", "olde\x72", "[I", true)
  | 3 => ("NativeWorks$Names", "slot", "[I", true)
  | 4 => ("NativeWorks$Names", "newest", "[I", true)
  | _ => ("NativeWorks$Names", "count", "I", false)
def tyX7 : Nat → FieldType := fun k => match k with
  | 0 => .array .byte
  | 1 => .array .int
  | 2 => .array .int
  | 3 => .array .int
  | 4 => .array .int
  | _ => .int
theorem nmX7 : ∀ a, a < 6 → ∀ b, b < 6 → a ≠ b → (TX7 a).2.1 ≠ (TX7 b).2.1 := by decide +kernel
theorem tyX7_ok : ∀ k, k < 6 → parseFieldDescriptor (TX7 k).2.2.1 = some (tyX7 k) := by decide +kernel
abbrev cX7_init : ByteArray := prog_9_method_1_code
def yX7_init : MethodName := ⟨RX7, "<init>", "(II)V"⟩
abbrev cX7_add : ByteArray := prog_9_method_3_code
def yX7_add : MethodName := ⟨RX7, "add", "([BII)I"⟩
def RX8 : String := "NativeWorks$Reade\x72"
def TX8 : u_T := fun k => match k with
  | 0 => ("NativeWorks$Reade\x72", "source", "LNativeWorks$Source;", true)
  | 1 => ("NativeWorks$Reade\x72", "line", "LNativeWorks$Line;", true)
  | 2 => ("NativeWorks$Reade\x72", "depth", "I", false)
  | 3 => ("NativeWorks$Reade\x72", "first", "[I", true)
  | 4 => ("NativeWorks$Reade\x72", "end", "[I", true)
  | 5 => ("NativeWorks$Reade\x72", "next", "[I", true)
  | 6 => ("NativeWorks$Reade\x72", "left", "[I", true)
  | 7 => ("NativeWorks$Reade\x72", "make\x72", "[I", true)
  | 8 => ("NativeWorks$Reade\x72", "ifsBelow", "[I", true)
  | 9 => ("NativeWorks$Reade\x72", "macro", "[I", true)
  | 10 => ("NativeWorks$Reade\x72", "made", "[I", true)
  | 11 => ("NativeWorks$Reade\x72", "arguments", "[B", true)
  | 12 => ("NativeWorks$Reade\x72", "argumentFrom", "[I", true)
  | 13 => ("NativeWorks$Reade\x72", "argumentTo", "[I", true)
  | 14 => ("NativeWorks$Reade\x72", "elseRead", "[Z", true)
  | 15 => ("NativeWorks$Reade\x72", "ifs", "I", false)
  | 16 => ("NativeWorks$Reade\x72", "told", "I", false)
  | 17 => ("NativeWorks$Reade\x72", "read", "I", false)
  | 18 => ("NativeWorks$Reade\x72", "used", "I", false)
  | _ => ("NativeWorks$Reade\x72", "unended", "Z", false)
def tyX8 : Nat → FieldType := fun k => match k with
  | 0 => .object "NativeWorks$Source"
  | 1 => .object "NativeWorks$Line"
  | 2 => .int
  | 3 => .array .int
  | 4 => .array .int
  | 5 => .array .int
  | 6 => .array .int
  | 7 => .array .int
  | 8 => .array .int
  | 9 => .array .int
  | 10 => .array .int
  | 11 => .array .byte
  | 12 => .array .int
  | 13 => .array .int
  | 14 => .array .boolean
  | 15 => .int
  | 16 => .int
  | 17 => .int
  | 18 => .int
  | _ => .boolean
theorem nmX8 : ∀ a, a < 20 → ∀ b, b < 20 → a ≠ b → (TX8 a).2.1 ≠ (TX8 b).2.1 := by decide +kernel
theorem tyX8_ok : ∀ k, k < 20 → parseFieldDescriptor (TX8 k).2.2.1 = some (tyX8 k) := by decide +kernel
abbrev cX8_init : ByteArray := prog_10_method_1_code
def yX8_init : MethodName := ⟨RX8, "<init>", "(LNativeWorks$Source;LNativeWorks$Line;)V"⟩
def RX9 : String := "NativeWorks$Source"
def TX9 : u_T := fun k => match k with
  | 0 => ("NativeWorks$Source", "bytes", "[B", true)
  | 1 => ("NativeWorks$Source", "words", "LNativeWorks$Names;", true)
  | 2 => ("NativeWorks$Source", "lineAt", "[I", true)
  | 3 => ("NativeWorks$Source", "sorts", "[B", true)
  | 4 => ("NativeWorks$Source", "ifEnds", "[I", true)
  | 5 => ("NativeWorks$Source", "elses", "[I", true)
  | 6 => ("NativeWorks$Source", "reptEnds", "[I", true)
  | 7 => ("NativeWorks$Source", "macros", "LNativeWorks$Names;", true)
  | 8 => ("NativeWorks$Source", "bodyFrom", "[I", true)
  | 9 => ("NativeWorks$Source", "bodyTo", "[I", true)
  | 10 => ("NativeWorks$Source", "firstParamete\x72", "[I", true)
  | 11 => ("NativeWorks$Source", "parameterFrom", "[I", true)
  | 12 => ("NativeWorks$Source", "parameterTo", "[I", true)
  | _ => ("NativeWorks$Source", "lines", "I", false)
def tyX9 : Nat → FieldType := fun k => match k with
  | 0 => .array .byte
  | 1 => .object "NativeWorks$Names"
  | 2 => .array .int
  | 3 => .array .byte
  | 4 => .array .int
  | 5 => .array .int
  | 6 => .array .int
  | 7 => .object "NativeWorks$Names"
  | 8 => .array .int
  | 9 => .array .int
  | 10 => .array .int
  | 11 => .array .int
  | 12 => .array .int
  | _ => .int
theorem nmX9 : ∀ a, a < 14 → ∀ b, b < 14 → a ≠ b → (TX9 a).2.1 ≠ (TX9 b).2.1 := by decide +kernel
theorem tyX9_ok : ∀ k, k < 14 → parseFieldDescriptor (TX9 k).2.2.1 = some (tyX9 k) := by decide +kernel
abbrev cX9_init : ByteArray := prog_11_method_1_code
def yX9_init : MethodName := ⟨RX9, "<init>", "([BLNativeWorks$Names;)V"⟩
def RX10 : String := "NativeWorks$Units"
def TX10 : u_T := fun k => match k with
  | 0 => ("NativeWorks$Units", "names", "LNativeWorks$Names;", true)
  | 1 => ("NativeWorks$Units", "symbols", "[[I", true)
  | 2 => ("NativeWorks$Units", "constants", "[J", true)
  | 3 => ("NativeWorks$Units", "labels", "[I", true)
  | 4 => ("NativeWorks$Units", "statements", "[[I", true)
  | 5 => ("NativeWorks$Units", "waits", "[[I", true)
  | 6 => ("NativeWorks$Units", "waitNumbers", "[J", true)
  | 7 => ("NativeWorks$Units", "put", "[B", true)
  | 8 => ("NativeWorks$Units", "bytes", "[B", true)
  | 9 => ("NativeWorks$Units", "rows", "[[I", true)
  | 10 => ("NativeWorks$Units", "ends", "[I", true)
  | 11 => ("NativeWorks$Units", "count", "I", false)
  | 12 => ("NativeWorks$Units", "symbolsFrom", "I", false)
  | 13 => ("NativeWorks$Units", "labelCount", "I", false)
  | 14 => ("NativeWorks$Units", "statementCount", "I", false)
  | 15 => ("NativeWorks$Units", "waitCount", "I", false)
  | 16 => ("NativeWorks$Units", "putCount", "I", false)
  | 17 => ("NativeWorks$Units", "byteCount", "I", false)
  | _ => ("NativeWorks$Units", "counted", "I", false)
def tyX10 : Nat → FieldType := fun k => match k with
  | 0 => .object "NativeWorks$Names"
  | 1 => .array (.array .int)
  | 2 => .array .long
  | 3 => .array .int
  | 4 => .array (.array .int)
  | 5 => .array (.array .int)
  | 6 => .array .long
  | 7 => .array .byte
  | 8 => .array .byte
  | 9 => .array (.array .int)
  | 10 => .array .int
  | 11 => .int
  | 12 => .int
  | 13 => .int
  | 14 => .int
  | 15 => .int
  | 16 => .int
  | 17 => .int
  | _ => .int
theorem nmX10 : ∀ a, a < 19 → ∀ b, b < 19 → a ≠ b → (TX10 a).2.1 ≠ (TX10 b).2.1 := by decide +kernel
theorem tyX10_ok : ∀ k, k < 19 → parseFieldDescriptor (TX10 k).2.2.1 = some (tyX10 k) := by decide +kernel
abbrev cX10_init : ByteArray := prog_12_method_1_code
def yX10_init : MethodName := ⟨RX10, "<init>", "()V"⟩
def RX11 : String := "NativeWorks"
def TX11 : u_T := fun k => match k with
  | 0 => ("NativeWorks", "tape", "[B", true)
  | 1 => ("NativeWorks", "units", "LNativeWorks$Units;", true)
  | 2 => ("NativeWorks", "assemble\x72", "LNativeWorks$Assembler;", true)
  | 3 => ("NativeWorks", "linke\x72", "LNativeWorks$Linker;", true)
  | 4 => ("NativeWorks", "machine", "LNativeWorks$Machine;", true)
  | 5 => ("NativeWorks", "fed", "I", false)
  | 6 => ("NativeWorks", "faultKind", "I", false)
  | 7 => ("NativeWorks", "faultLine", "I", false)
  | _ => ("NativeWorks", "faultUnit", "I", false)
def tyX11 : Nat → FieldType := fun k => match k with
  | 0 => .array .byte
  | 1 => .object "NativeWorks$Units"
  | 2 => .object "NativeWorks$Assemble\x72"
  | 3 => .object "NativeWorks$Linke\x72"
  | 4 => .object "NativeWorks$Machine"
  | 5 => .int
  | 6 => .int
  | 7 => .int
  | _ => .int
theorem nmX11 : ∀ a, a < 9 → ∀ b, b < 9 → a ≠ b → (TX11 a).2.1 ≠ (TX11 b).2.1 := by decide +kernel
theorem tyX11_ok : ∀ k, k < 9 → parseFieldDescriptor (TX11 k).2.2.1 = some (tyX11 k) := by decide +kernel
abbrev cX11_init : ByteArray := prog_1_method_1_code
def yX11_init : MethodName := ⟨RX11, "<init>", "()V"⟩
def RX12 : String := "NativeWorksModel$Code"
def TX12 : u_T := fun k => match k with
  | 0 => ("NativeWorksModel$Code", "many", "I", false)
  | 1 => ("NativeWorksModel$Code", "end", "I", false)
  | 2 => ("NativeWorksModel$Code", "textEnd", "I", false)
  | 3 => ("NativeWorksModel$Code", "rodataBegin", "I", false)
  | 4 => ("NativeWorksModel$Code", "rodataEnd", "I", false)
  | 5 => ("NativeWorksModel$Code", "dataBegin", "I", false)
  | 6 => ("NativeWorksModel$Code", "dataEnd", "I", false)
  | 7 => ("NativeWorksModel$Code", "start", "J", false)
  | 8 => ("NativeWorksModel$Code", "address", "[I", true)
  | 9 => ("NativeWorksModel$Code", "where", "[I", true)
  | 10 => ("NativeWorksModel$Code", "shape", "[J", true)
  | 11 => ("NativeWorksModel$Code", "displacement", "[J", true)
  | _ => ("NativeWorksModel$Code", "numbe\x72", "[J", true)
def tyX12 : Nat → FieldType := fun k => match k with
  | 0 => .int
  | 1 => .int
  | 2 => .int
  | 3 => .int
  | 4 => .int
  | 5 => .int
  | 6 => .int
  | 7 => .long
  | 8 => .array .int
  | 9 => .array .int
  | 10 => .array .long
  | 11 => .array .long
  | _ => .array .long
theorem nmX12 : ∀ a, a < 13 → ∀ b, b < 13 → a ≠ b → (TX12 a).2.1 ≠ (TX12 b).2.1 := by decide +kernel
theorem tyX12_ok : ∀ k, k < 13 → parseFieldDescriptor (TX12 k).2.2.1 = some (tyX12 k) := by decide +kernel
abbrev cX12_init : ByteArray := prog_15_method_1_code
def yX12_init : MethodName := ⟨RX12, "<init>", "()V"⟩
def RX13 : String := "NativeWorksModel"
def TX13 : u_T := fun k => match k with
  | 0 => ("NativeWorksModel", "thrown", "I", false)
  | 1 => ("NativeWorksModel", "tape", "[B", true)
  | 2 => ("NativeWorksModel", "taped", "I", false)
  | 3 => ("NativeWorksModel", "words", "I", false)
  | 4 => ("NativeWorksModel", "registers", "I", false)
  | 5 => ("NativeWorksModel", "wordName", "[J", true)
  | 6 => ("NativeWorksModel", "registerName", "[J", true)
  | 7 => ("NativeWorksModel", "wordCode", "[I", true)
  | 8 => ("NativeWorksModel", "registerCode", "[I", true)
  | 9 => ("NativeWorksModel", "textWord", "J", true)
  | 10 => ("NativeWorksModel", "rodataWord", "J", true)
  | 11 => ("NativeWorksModel", "dataWord", "J", true)
  | 12 => ("NativeWorksModel", "bssWord", "J", true)
  | 13 => ("NativeWorksModel", "byteWord", "J", true)
  | 14 => ("NativeWorksModel", "dwordWord", "J", true)
  | 15 => ("NativeWorksModel", "qwordWord", "J", true)
  | 16 => ("NativeWorksModel", "relWord", "J", true)
  | 17 => ("NativeWorksModel", "equWord", "J", true)
  | 18 => ("NativeWorksModel", "repWord", "J", true)
  | 19 => ("NativeWorksModel", "startWord", "J", true)
  | 20 => ("NativeWorksModel", "units", "I", false)
  | 21 => ("NativeWorksModel", "symbolUnit", "[I", true)
  | 22 => ("NativeWorksModel", "isLibrary", "[Z", true)
  | 23 => ("NativeWorksModel", "firstItem", "[I", true)
  | 24 => ("NativeWorksModel", "firstSymbol", "[I", true)
  | 25 => ("NativeWorksModel", "firstWait", "[I", true)
  | 26 => ("NativeWorksModel", "sectionSize", "[I", true)
  | 27 => ("NativeWorksModel", "kept", "[Z", true)
  | 28 => ("NativeWorksModel", "faultKind", "I", false)
  | 29 => ("NativeWorksModel", "faultLine", "I", false)
  | 30 => ("NativeWorksModel", "faultUnit", "I", false)
  | 31 => ("NativeWorksModel", "symbols", "I", false)
  | 32 => ("NativeWorksModel", "pooled", "I", false)
  | 33 => ("NativeWorksModel", "pool", "[B", true)
  | 34 => ("NativeWorksModel", "nameAt", "[I", true)
  | 35 => ("NativeWorksModel", "nameLength", "[I", true)
  | 36 => ("NativeWorksModel", "nameSum", "[J", true)
  | 37 => ("NativeWorksModel", "labelItem", "[I", true)
  | 38 => ("NativeWorksModel", "isConstant", "[Z", true)
  | 39 => ("NativeWorksModel", "isUsed", "[Z", true)
  | 40 => ("NativeWorksModel", "isGlobal", "[Z", true)
  | 41 => ("NativeWorksModel", "isWeak", "[Z", true)
  | 42 => ("NativeWorksModel", "constant", "[J", true)
  | 43 => ("NativeWorksModel", "items", "I", false)
  | 44 => ("NativeWorksModel", "statements", "I", false)
  | 45 => ("NativeWorksModel", "itemKind", "[B", true)
  | 46 => ("NativeWorksModel", "itemSection", "[B", true)
  | 47 => ("NativeWorksModel", "itemLine", "[I", true)
  | 48 => ("NativeWorksModel", "itemSize", "[I", true)
  | 49 => ("NativeWorksModel", "itemOffset", "[I", true)
  | 50 => ("NativeWorksModel", "itemData", "[I", true)
  | 51 => ("NativeWorksModel", "itemShape", "[J", true)
  | 52 => ("NativeWorksModel", "itemDisplacement", "[I", true)
  | 53 => ("NativeWorksModel", "itemNumbe\x72", "[J", true)
  | 54 => ("NativeWorksModel", "datas", "I", false)
  | 55 => ("NativeWorksModel", "plain", "I", false)
  | 56 => ("NativeWorksModel", "data", "[B", true)
  | 57 => ("NativeWorksModel", "waits", "I", false)
  | 58 => ("NativeWorksModel", "waitItem", "[I", true)
  | 59 => ("NativeWorksModel", "waitAt", "[I", true)
  | 60 => ("NativeWorksModel", "waitPlus", "[I", true)
  | 61 => ("NativeWorksModel", "waitMinus", "[I", true)
  | 62 => ("NativeWorksModel", "waitSize", "[B", true)
  | 63 => ("NativeWorksModel", "waitWhat", "[B", true)
  | 64 => ("NativeWorksModel", "waitConstant", "[J", true)
  | 65 => ("NativeWorksModel", "sourceEnd", "I", false)
  | 66 => ("NativeWorksModel", "at", "I", false)
  | 67 => ("NativeWorksModel", "lineNumbe\x72", "I", false)
  | 68 => ("NativeWorksModel", "lineStart", "I", false)
  | 69 => ("NativeWorksModel", "lineEnd", "I", false)
  | 70 => ("NativeWorksModel", "linesRead", "I", false)
  | 71 => ("NativeWorksModel", "macrosRead", "I", false)
  | 72 => ("NativeWorksModel", "section", "I", false)
  | 73 => ("NativeWorksModel", "bad", "I", false)
  | 74 => ("NativeWorksModel", "badLine", "I", false)
  | 75 => ("NativeWorksModel", "unit", "I", false)
  | 76 => ("NativeWorksModel", "notEnded", "Z", false)
  | 77 => ("NativeWorksModel", "latest", "I", false)
  | 78 => ("NativeWorksModel", "line", "[B", true)
  | 79 => ("NativeWorksModel", "lineLength", "I", false)
  | 80 => ("NativeWorksModel", "frames", "I", false)
  | 81 => ("NativeWorksModel", "frameKind", "[I", true)
  | 82 => ("NativeWorksModel", "frameStop", "[I", true)
  | 83 => ("NativeWorksModel", "frameStopLine", "[I", true)
  | 84 => ("NativeWorksModel", "frameBody", "[I", true)
  | 85 => ("NativeWorksModel", "frameBodyLine", "[I", true)
  | 86 => ("NativeWorksModel", "frameLeft", "[I", true)
  | 87 => ("NativeWorksModel", "frameOwn", "[I", true)
  | 88 => ("NativeWorksModel", "frameMacro", "[I", true)
  | 89 => ("NativeWorksModel", "frameNumbe\x72", "[I", true)
  | 90 => ("NativeWorksModel", "frameElse", "[Z", true)
  | 91 => ("NativeWorksModel", "argument", "[[B", true)
  | 92 => ("NativeWorksModel", "argumentAt", "[[I", true)
  | 93 => ("NativeWorksModel", "arguments", "[I", true)
  | 94 => ("NativeWorksModel", "macros", "I", false)
  | 95 => ("NativeWorksModel", "macroName", "[I", true)
  | 96 => ("NativeWorksModel", "macroLength", "[I", true)
  | 97 => ("NativeWorksModel", "macroParameters", "[I", true)
  | 98 => ("NativeWorksModel", "macroBody", "[I", true)
  | 99 => ("NativeWorksModel", "macroBodyLine", "[I", true)
  | 100 => ("NativeWorksModel", "macroEnd", "[I", true)
  | 101 => ("NativeWorksModel", "macroEndLine", "[I", true)
  | 102 => ("NativeWorksModel", "tokens", "I", false)
  | 103 => ("NativeWorksModel", "token", "[I", true)
  | 104 => ("NativeWorksModel", "tokenStart", "[I", true)
  | 105 => ("NativeWorksModel", "tokenLength", "[I", true)
  | 106 => ("NativeWorksModel", "tokenValue", "[J", true)
  | 107 => ("NativeWorksModel", "name", "[B", true)
  | 108 => ("NativeWorksModel", "nameSize", "I", false)
  | 109 => ("NativeWorksModel", "values", "I", false)
  | 110 => ("NativeWorksModel", "operators", "I", false)
  | 111 => ("NativeWorksModel", "value", "[J", true)
  | 112 => ("NativeWorksModel", "plus", "[I", true)
  | 113 => ("NativeWorksModel", "minus", "[I", true)
  | 114 => ("NativeWorksModel", "operato\x72", "[I", true)
  | 115 => ("NativeWorksModel", "wrongValue", "Z", false)
  | 116 => ("NativeWorksModel", "piece", "[I", true)
  | 117 => ("NativeWorksModel", "pieces", "I", false)
  | 118 => ("NativeWorksModel", "spans", "I", false)
  | 119 => ("NativeWorksModel", "spanPlus", "[I", true)
  | 120 => ("NativeWorksModel", "spanMinus", "[I", true)
  | 121 => ("NativeWorksModel", "spanLine", "[I", true)
  | 122 => ("NativeWorksModel", "operands", "I", false)
  | 123 => ("NativeWorksModel", "op", "I", false)
  | 124 => ("NativeWorksModel", "width", "I", false)
  | 125 => ("NativeWorksModel", "condition", "I", false)
  | 126 => ("NativeWorksModel", "kind", "[I", true)
  | 127 => ("NativeWorksModel", "registe\x72", "[I", true)
  | 128 => ("NativeWorksModel", "told", "[I", true)
  | 129 => ("NativeWorksModel", "from", "[I", true)
  | 130 => ("NativeWorksModel", "to", "[I", true)
  | 131 => ("NativeWorksModel", "base", "I", false)
  | 132 => ("NativeWorksModel", "index", "I", false)
  | 133 => ("NativeWorksModel", "scale", "I", false)
  | 134 => ("NativeWorksModel", "isRelative", "Z", false)
  | 135 => ("NativeWorksModel", "displacement", "J", false)
  | 136 => ("NativeWorksModel", "numbe\x72", "J", false)
  | 137 => ("NativeWorksModel", "displacementPlus", "I", false)
  | 138 => ("NativeWorksModel", "displacementMinus", "I", false)
  | 139 => ("NativeWorksModel", "numberPlus", "I", false)
  | 140 => ("NativeWorksModel", "numberMinus", "I", false)
  | 141 => ("NativeWorksModel", "rows", "I", false)
  | 142 => ("NativeWorksModel", "rowOp", "[I", true)
  | 143 => ("NativeWorksModel", "rowSizes", "[I", true)
  | 144 => ("NativeWorksModel", "rowPattern", "[I", true)
  | 145 => ("NativeWorksModel", "rowLead", "[I", true)
  | 146 => ("NativeWorksModel", "rowCode", "[I", true)
  | 147 => ("NativeWorksModel", "rowTell", "[I", true)
  | 148 => ("NativeWorksModel", "rowNumbe\x72", "[I", true)
  | 149 => ("NativeWorksModel", "best", "[B", true)
  | 150 => ("NativeWorksModel", "trial", "[B", true)
  | 151 => ("NativeWorksModel", "bestLength", "I", false)
  | 152 => ("NativeWorksModel", "tried", "I", false)
  | 153 => ("NativeWorksModel", "bestDisplacement", "I", false)
  | 154 => ("NativeWorksModel", "bestNumbe\x72", "I", false)
  | 155 => ("NativeWorksModel", "triedDisplacement", "I", false)
  | 156 => ("NativeWorksModel", "triedNumbe\x72", "I", false)
  | 157 => ("NativeWorksModel", "foundAt", "I", false)
  | 158 => ("NativeWorksModel", "foundLine", "I", false)
  | 159 => ("NativeWorksModel", "foundWord", "I", false)
  | 160 => ("NativeWorksModel", "foundBehind", "I", false)
  | 161 => ("NativeWorksModel", "full", "Z", false)
  | 162 => ("NativeWorksModel", "scaled", "I", false)
  | 163 => ("NativeWorksModel", "terms", "I", false)
  | 164 => ("NativeWorksModel", "termRegiste\x72", "[I", true)
  | 165 => ("NativeWorksModel", "termScale", "[I", true)
  | 166 => ("NativeWorksModel", "image", "LNativeWorksModel$Code;", true)
  | 167 => ("NativeWorksModel", "code", "LNativeWorksModel$Code;", true)
  | 168 => ("NativeWorksModel", "hasImage", "Z", false)
  | 169 => ("NativeWorksModel", "imageBytes", "[B", true)
  | 170 => ("NativeWorksModel", "taken", "[Z", true)
  | 171 => ("NativeWorksModel", "needed", "[Z", true)
  | 172 => ("NativeWorksModel", "addressOf", "[I", true)
  | 173 => ("NativeWorksModel", "imageNames", "I", false)
  | 174 => ("NativeWorksModel", "imagePooled", "I", false)
  | 175 => ("NativeWorksModel", "imagePool", "[B", true)
  | 176 => ("NativeWorksModel", "imageNameAt", "[I", true)
  | 177 => ("NativeWorksModel", "imageNameLength", "[I", true)
  | 178 => ("NativeWorksModel", "imageNameAddress", "[I", true)
  | 179 => ("NativeWorksModel", "loaded", "Z", false)
  | 180 => ("NativeWorksModel", "memory", "[B", true)
  | 181 => ("NativeWorksModel", "heap", "[B", true)
  | 182 => ("NativeWorksModel", "stack", "[B", true)
  | 183 => ("NativeWorksModel", "given", "[B", true)
  | 184 => ("NativeWorksModel", "shown", "[B", true)
  | 185 => ("NativeWorksModel", "heapSize", "I", false)
  | 186 => ("NativeWorksModel", "givenSize", "I", false)
  | 187 => ("NativeWorksModel", "shownSize", "I", false)
  | 188 => ("NativeWorksModel", "registers0", "[J", true)
  | 189 => ("NativeWorksModel", "kept0", "[J", true)
  | 190 => ("NativeWorksModel", "ip", "J", false)
  | 191 => ("NativeWorksModel", "stopValue", "J", false)
  | 192 => ("NativeWorksModel", "stepsDone", "J", false)
  | 193 => ("NativeWorksModel", "carry", "Z", false)
  | 194 => ("NativeWorksModel", "parity", "Z", false)
  | 195 => ("NativeWorksModel", "zero", "Z", false)
  | 196 => ("NativeWorksModel", "negative", "Z", false)
  | 197 => ("NativeWorksModel", "ove\x72", "Z", false)
  | 198 => ("NativeWorksModel", "stopKind", "I", false)
  | 199 => ("NativeWorksModel", "places", "[J", true)
  | 200 => ("NativeWorksModel", "placesMany", "I", false)
  | 201 => ("NativeWorksModel", "now", "I", false)
  | 202 => ("NativeWorksModel", "halt", "I", false)
  | 203 => ("NativeWorksModel", "haltValue", "J", false)
  | _ => ("NativeWorksModel", "operandAt", "J", false)
def tyX13 : Nat → FieldType := fun k => match k with
  | 0 => .int
  | 1 => .array .byte
  | 2 => .int
  | 3 => .int
  | 4 => .int
  | 5 => .array .long
  | 6 => .array .long
  | 7 => .array .int
  | 8 => .array .int
  | 9 => .long
  | 10 => .long
  | 11 => .long
  | 12 => .long
  | 13 => .long
  | 14 => .long
  | 15 => .long
  | 16 => .long
  | 17 => .long
  | 18 => .long
  | 19 => .long
  | 20 => .int
  | 21 => .array .int
  | 22 => .array .boolean
  | 23 => .array .int
  | 24 => .array .int
  | 25 => .array .int
  | 26 => .array .int
  | 27 => .array .boolean
  | 28 => .int
  | 29 => .int
  | 30 => .int
  | 31 => .int
  | 32 => .int
  | 33 => .array .byte
  | 34 => .array .int
  | 35 => .array .int
  | 36 => .array .long
  | 37 => .array .int
  | 38 => .array .boolean
  | 39 => .array .boolean
  | 40 => .array .boolean
  | 41 => .array .boolean
  | 42 => .array .long
  | 43 => .int
  | 44 => .int
  | 45 => .array .byte
  | 46 => .array .byte
  | 47 => .array .int
  | 48 => .array .int
  | 49 => .array .int
  | 50 => .array .int
  | 51 => .array .long
  | 52 => .array .int
  | 53 => .array .long
  | 54 => .int
  | 55 => .int
  | 56 => .array .byte
  | 57 => .int
  | 58 => .array .int
  | 59 => .array .int
  | 60 => .array .int
  | 61 => .array .int
  | 62 => .array .byte
  | 63 => .array .byte
  | 64 => .array .long
  | 65 => .int
  | 66 => .int
  | 67 => .int
  | 68 => .int
  | 69 => .int
  | 70 => .int
  | 71 => .int
  | 72 => .int
  | 73 => .int
  | 74 => .int
  | 75 => .int
  | 76 => .boolean
  | 77 => .int
  | 78 => .array .byte
  | 79 => .int
  | 80 => .int
  | 81 => .array .int
  | 82 => .array .int
  | 83 => .array .int
  | 84 => .array .int
  | 85 => .array .int
  | 86 => .array .int
  | 87 => .array .int
  | 88 => .array .int
  | 89 => .array .int
  | 90 => .array .boolean
  | 91 => .array (.array .byte)
  | 92 => .array (.array .int)
  | 93 => .array .int
  | 94 => .int
  | 95 => .array .int
  | 96 => .array .int
  | 97 => .array .int
  | 98 => .array .int
  | 99 => .array .int
  | 100 => .array .int
  | 101 => .array .int
  | 102 => .int
  | 103 => .array .int
  | 104 => .array .int
  | 105 => .array .int
  | 106 => .array .long
  | 107 => .array .byte
  | 108 => .int
  | 109 => .int
  | 110 => .int
  | 111 => .array .long
  | 112 => .array .int
  | 113 => .array .int
  | 114 => .array .int
  | 115 => .boolean
  | 116 => .array .int
  | 117 => .int
  | 118 => .int
  | 119 => .array .int
  | 120 => .array .int
  | 121 => .array .int
  | 122 => .int
  | 123 => .int
  | 124 => .int
  | 125 => .int
  | 126 => .array .int
  | 127 => .array .int
  | 128 => .array .int
  | 129 => .array .int
  | 130 => .array .int
  | 131 => .int
  | 132 => .int
  | 133 => .int
  | 134 => .boolean
  | 135 => .long
  | 136 => .long
  | 137 => .int
  | 138 => .int
  | 139 => .int
  | 140 => .int
  | 141 => .int
  | 142 => .array .int
  | 143 => .array .int
  | 144 => .array .int
  | 145 => .array .int
  | 146 => .array .int
  | 147 => .array .int
  | 148 => .array .int
  | 149 => .array .byte
  | 150 => .array .byte
  | 151 => .int
  | 152 => .int
  | 153 => .int
  | 154 => .int
  | 155 => .int
  | 156 => .int
  | 157 => .int
  | 158 => .int
  | 159 => .int
  | 160 => .int
  | 161 => .boolean
  | 162 => .int
  | 163 => .int
  | 164 => .array .int
  | 165 => .array .int
  | 166 => .object "NativeWorksModel$Code"
  | 167 => .object "NativeWorksModel$Code"
  | 168 => .boolean
  | 169 => .array .byte
  | 170 => .array .boolean
  | 171 => .array .boolean
  | 172 => .array .int
  | 173 => .int
  | 174 => .int
  | 175 => .array .byte
  | 176 => .array .int
  | 177 => .array .int
  | 178 => .array .int
  | 179 => .boolean
  | 180 => .array .byte
  | 181 => .array .byte
  | 182 => .array .byte
  | 183 => .array .byte
  | 184 => .array .byte
  | 185 => .int
  | 186 => .int
  | 187 => .int
  | 188 => .array .long
  | 189 => .array .long
  | 190 => .long
  | 191 => .long
  | 192 => .long
  | 193 => .boolean
  | 194 => .boolean
  | 195 => .boolean
  | 196 => .boolean
  | 197 => .boolean
  | 198 => .int
  | 199 => .array .long
  | 200 => .int
  | 201 => .int
  | 202 => .int
  | 203 => .long
  | _ => .long
theorem nmX13 : ∀ a, a < 205 → ∀ b, b < 205 → a ≠ b → (TX13 a).2.1 ≠ (TX13 b).2.1 := by decide +kernel
theorem tyX13_ok : ∀ k, k < 205 → parseFieldDescriptor (TX13 k).2.2.1 = some (tyX13 k) := by decide +kernel
abbrev cX13_init : ByteArray := prog_14_method_1_code
def yX13_init : MethodName := ⟨RX13, "<init>", "()V"⟩
abbrev cX13_pack : ByteArray := prog_14_method_2_code
def yX13_pack : MethodName := ⟨RX13, "pack", "(Ljava/lang/String;)J"⟩
abbrev cX13_wordsOf : ByteArray := prog_14_method_3_code
def yX13_wordsOf : MethodName := ⟨RX13, "wordsOf", "(Ljava/lang/String;I)V"⟩
abbrev cX13_word : ByteArray := prog_14_method_4_code
def yX13_word : MethodName := ⟨RX13, "word", "(Ljava/lang/String;I)V"⟩
abbrev cX13_conditions : ByteArray := prog_14_method_5_code
def yX13_conditions : MethodName := ⟨RX13, "conditions", "(Ljava/lang/String;I)V"⟩
abbrev cX13_joined : ByteArray := prog_14_method_6_code
def yX13_joined : MethodName := ⟨RX13, "joined", "(Ljava/lang/String;Ljava/lang/String;)Ljava/lang/String;"⟩
abbrev cX13_numbered : ByteArray := prog_14_method_7_code
def yX13_numbered : MethodName := ⟨RX13, "numbered", "(ILjava/lang/String;)Ljava/lang/String;"⟩
abbrev cX13_registerNames : ByteArray := prog_14_method_8_code
def yX13_registerNames : MethodName := ⟨RX13, "registerNames", "()V"⟩
abbrev cX13_registerNamed : ByteArray := prog_14_method_9_code
def yX13_registerNamed : MethodName := ⟨RX13, "registerNamed", "(Ljava/lang/String;I)V"⟩
abbrev cX13_row : ByteArray := prog_14_method_102_code
def yX13_row : MethodName := ⟨RX13, "row", "(IIIIIII)V"⟩
abbrev cX13_fillTable : ByteArray := prog_14_method_103_code
def yX13_fillTable : MethodName := ⟨RX13, "fillTable", "()V"⟩
abbrev cX13_fillRest : ByteArray := prog_14_method_104_code
def yX13_fillRest : MethodName := ⟨RX13, "fillRest", "()V"⟩
def RJx145de : String := "java/io/Serializable"
def RJ5 : String := "java/lang/AbstractStringBuilde\x72"
abbrev cJ5_init_d00df : ByteArray := prog_17_method_2_code
def yJ5_init_d00df : MethodName := ⟨RJ5, "<init>", "(I)V"⟩
abbrev cJ5_length_8abf5 : ByteArray := prog_17_method_6_code
def yJ5_length_8abf5 : MethodName := ⟨RJ5, "length", "()I"⟩
abbrev cJ5_ensureCapacityInternal_d00df : ByteArray := prog_17_method_9_code
def yJ5_ensureCapacityInternal_d00df : MethodName := ⟨RJ5, "ensureCapacityInternal", "(I)V"⟩
abbrev cJ5_append_cf1ce : ByteArray := prog_17_method_22_code
def yJ5_append_cf1ce : MethodName := ⟨RJ5, "append", "(Ljava/lang/String;)Ljava/lang/AbstractStringBuilder;"⟩
abbrev cJ5_append_c97b9 : ByteArray := prog_17_method_32_code
def yJ5_append_c97b9 : MethodName := ⟨RJ5, "append", "(I)Ljava/lang/AbstractStringBuilder;"⟩
abbrev cJ5_getValue_6d5f1 : ByteArray := prog_17_method_64_code
def yJ5_getValue_6d5f1 : MethodName := ⟨RJ5, "getValue", "()[B"⟩
abbrev cJ5_isLatin1_aae02 : ByteArray := prog_17_method_68_code
def yJ5_isLatin1_aae02 : MethodName := ⟨RJ5, "isLatin1", "()Z"⟩
abbrev cJ5_inflateIfNeededFor_a7421 : ByteArray := prog_17_method_71_code
def yJ5_inflateIfNeededFor_a7421 : MethodName := ⟨RJ5, "inflateIfNeededFo\x72", "(Ljava/lang/String;)V"⟩
abbrev cJ5_putStringAt_47b60 : ByteArray := prog_17_method_73_code
def yJ5_putStringAt_47b60 : MethodName := ⟨RJ5, "putStringAt", "(ILjava/lang/String;)V"⟩
def RJx2cfe8 : String := "java/lang/Appendable"
def RJx9f9b0 : String := "java/lang/CharSequence"
def RJx8e188 : String := "java/lang/Cloneable"
def RJxb160c : String := "java/lang/Comparable"
def RJ6 : String := "java/lang/Intege\x72"
abbrev cJ6_getChars_ba4f3 : ByteArray := prog_25_method_12_code
def yJ6_getChars_ba4f3 : MethodName := ⟨RJ6, "getChars", "(II[B)I"⟩
abbrev cJ6_stringSize_0f7a4 : ByteArray := prog_25_method_13_code
def yJ6_stringSize_0f7a4 : MethodName := ⟨RJ6, "stringSize", "(I)I"⟩
def RJ13 : String := "java/lang/Long"
def RJ9 : String := "java/lang/Math"
abbrev cJ9_min_7cf53 : ByteArray := prog_27_method_69_code
def yJ9_min_7cf53 : MethodName := ⟨RJ9, "min", "(II)I"⟩
def RJxd2413 : String := "java/lang/Numbe\x72"
def RJ0 : String := "java/lang/String"
def TJ0 : u_T := fun k => match k with
  | 0 => ("java/lang/String", "value", "[B", true)
  | 1 => ("java/lang/String", "code\x72", "B", true)
  | 2 => ("java/lang/String", "hash", "I", false)
  | _ => ("java/lang/String", "hashIsZero", "Z", false)
def tyJ0 : Nat → FieldType := fun k => match k with
  | 0 => .array .byte
  | 1 => .byte
  | 2 => .int
  | _ => .boolean
theorem nmJ0 : ∀ a, a < 4 → ∀ b, b < 4 → a ≠ b → (TJ0 a).2.1 ≠ (TJ0 b).2.1 := by decide +kernel
theorem tyJ0_ok : ∀ k, k < 4 → parseFieldDescriptor (TJ0 k).2.2.1 = some (tyJ0 k) := by decide +kernel
abbrev cJ0_init_81219 : ByteArray := prog_30_method_53_code
def yJ0_init_81219 : MethodName := ⟨RJ0, "<init>", "(Ljava/lang/StringBuilder;)V"⟩
abbrev cJ0_length_8abf5 : ByteArray := prog_30_method_54_code
def yJ0_length_8abf5 : MethodName := ⟨RJ0, "length", "()I"⟩
abbrev cJ0_charAt_5068e : ByteArray := prog_30_method_56_code
def yJ0_charAt_5068e : MethodName := ⟨RJ0, "charAt", "(I)C"⟩
abbrev cJ0_substring_37a41 : ByteArray := prog_30_method_92_code
def yJ0_substring_37a41 : MethodName := ⟨RJ0, "substring", "(II)Ljava/lang/String;"⟩
abbrev cJ0_getBytes_840e7 : ByteArray := prog_30_method_147_code
def yJ0_getBytes_840e7 : MethodName := ⟨RJ0, "getBytes", "([BIB)V"⟩
abbrev cJ0_init_db425 : ByteArray := prog_30_method_150_code
def yJ0_init_db425 : MethodName := ⟨RJ0, "<init>", "(Ljava/lang/AbstractStringBuilder;Ljava/lang/Void;)V"⟩
abbrev cJ0_init_031fb : ByteArray := prog_30_method_151_code
def yJ0_init_031fb : MethodName := ⟨RJ0, "<init>", "([BB)V"⟩
abbrev cJ0_coder_7d493 : ByteArray := prog_30_method_152_code
def yJ0_coder_7d493 : MethodName := ⟨RJ0, "code\x72", "()B"⟩
abbrev cJ0_isLatin1_aae02 : ByteArray := prog_30_method_154_code
def yJ0_isLatin1_aae02 : MethodName := ⟨RJ0, "isLatin1", "()Z"⟩
abbrev cJ0_checkIndex_df160 : ByteArray := prog_30_method_155_code
def yJ0_checkIndex_df160 : MethodName := ⟨RJ0, "checkIndex", "(II)V"⟩
abbrev cJ0_checkBoundsBeginEnd_23922 : ByteArray := prog_30_method_158_code
def yJ0_checkBoundsBeginEnd_23922 : MethodName := ⟨RJ0, "checkBoundsBeginEnd", "(III)V"⟩
def RJ4 : String := "java/lang/StringBuilde\x72"
def TJ4 : u_T := fun k => match k with
  | 0 => ("java/lang/AbstractStringBuilde\x72", "value", "[B", false)
  | 1 => ("java/lang/AbstractStringBuilde\x72", "code\x72", "B", false)
  | 2 => ("java/lang/AbstractStringBuilde\x72", "maybeLatin1", "Z", false)
  | _ => ("java/lang/AbstractStringBuilde\x72", "count", "I", false)
def tyJ4 : Nat → FieldType := fun k => match k with
  | 0 => .array .byte
  | 1 => .byte
  | 2 => .boolean
  | _ => .int
theorem nmJ4 : ∀ a, a < 4 → ∀ b, b < 4 → a ≠ b → (TJ4 a).2.1 ≠ (TJ4 b).2.1 := by decide +kernel
theorem tyJ4_ok : ∀ k, k < 4 → parseFieldDescriptor (TJ4 k).2.2.1 = some (tyJ4 k) := by decide +kernel
abbrev cJ4_init_da8c8 : ByteArray := prog_31_method_1_code
def yJ4_init_da8c8 : MethodName := ⟨RJ4, "<init>", "()V"⟩
abbrev cJ4_append_15ec4 : ByteArray := prog_31_method_7_code
def yJ4_append_15ec4 : MethodName := ⟨RJ4, "append", "(Ljava/lang/String;)Ljava/lang/StringBuilder;"⟩
abbrev cJ4_append_bf812 : ByteArray := prog_31_method_15_code
def yJ4_append_bf812 : MethodName := ⟨RJ4, "append", "(I)Ljava/lang/StringBuilder;"⟩
abbrev cJ4_toString_0e30d : ByteArray := prog_31_method_42_code
def yJ4_toString_0e30d : MethodName := ⟨RJ4, "toString", "()Ljava/lang/String;"⟩
abbrev cJ4_length_8abf5 : ByteArray := prog_31_method_93_code
def yJ4_length_8abf5 : MethodName := ⟨RJ4, "length", "()I"⟩
def RJ1 : String := "java/lang/StringLatin1"
abbrev cJ1_charAt_3b067 : ByteArray := prog_32_method_2_code
def yJ1_charAt_3b067 : MethodName := ⟨RJ1, "charAt", "([BI)C"⟩
abbrev cJ1_newString_b4f7a : ByteArray := prog_32_method_47_code
def yJ1_newString_b4f7a : MethodName := ⟨RJ1, "newString", "([BII)Ljava/lang/String;"⟩
def RJ2 : String := "java/lang/StringUTF16"
def RJ10 : String := "java/lang/System"
def RJxfd54e : String := "java/lang/constant/Constable"
def RJx3cf43 : String := "java/lang/constant/ConstantDesc"
def RJ7 : String := "java/util/Arrays"
abbrev cJ7_fill_53178 : ByteArray := prog_38_method_103_code
def yJ7_fill_53178 : MethodName := ⟨RJ7, "fill", "([II)V"⟩
abbrev cJ7_checkLength_df160 : ByteArray := prog_38_method_131_code
def yJ7_checkLength_df160 : MethodName := ⟨RJ7, "checkLength", "(II)V"⟩
abbrev cJ7_copyOfRange_39247 : ByteArray := prog_38_method_132_code
def yJ7_copyOfRange_39247 : MethodName := ⟨RJ7, "copyOfRange", "([BII)[B"⟩
abbrev cJ7_copyOfRangeByte_39247 : ByteArray := prog_38_method_133_code
def yJ7_copyOfRangeByte_39247 : MethodName := ⟨RJ7, "copyOfRangeByte", "([BII)[B"⟩
def RJ8 : String := "jdk/internal/util/ArraysSupport"
def RJ3 : String := "jdk/internal/util/Preconditions"
abbrev cJ3_checkIndex_8e157 : ByteArray := prog_41_method_11_code
def yJ3_checkIndex_8e157 : MethodName := ⟨RJ3, "checkIndex", "(IILjava/util/function/BiFunction;)I"⟩
abbrev cJ3_checkFromToIndex_8c36e : ByteArray := prog_41_method_12_code
def yJ3_checkFromToIndex_8c36e : MethodName := ⟨RJ3, "checkFromToIndex", "(IIILjava/util/function/BiFunction;)I"⟩
def RL : String := "NativeWorksLaw"
theorem dX0_init_0 : decode cX0_init 0 = .ok (.aload_n 0, 1) := by decide +kernel
theorem dX0_init_1 : decode cX0_init 1 = .ok (.invokespecial 3, 3) := by decide +kernel
theorem dX0_init_4 : decode cX0_init 4 = .ok (.new 9, 3) := by decide +kernel
theorem dX0_init_7 : decode cX0_init 7 = .ok (.dup, 1) := by decide +kernel
theorem dX0_init_8 : decode cX0_init 8 = .ok (.invokespecial 11, 3) := by decide +kernel
theorem dX0_init_11 : decode cX0_init 11 = .ok (.astore_n 3, 1) := by decide +kernel
theorem dX0_init_12 : decode cX0_init 12 = .ok (.aload_n 0, 1) := by decide +kernel
theorem dX0_init_13 : decode cX0_init 13 = .ok (.aload_n 3, 1) := by decide +kernel
theorem dX0_init_14 : decode cX0_init 14 = .ok (.putfield 12, 3) := by decide +kernel
theorem dX0_init_17 : decode cX0_init 17 = .ok (.aload_n 0, 1) := by decide +kernel
theorem dX0_init_18 : decode cX0_init 18 = .ok (.aload_n 2, 1) := by decide +kernel
theorem dX0_init_19 : decode cX0_init 19 = .ok (.putfield 18, 3) := by decide +kernel
theorem dX0_init_22 : decode cX0_init 22 = .ok (.aload_n 0, 1) := by decide +kernel
theorem dX0_init_23 : decode cX0_init 23 = .ok (.new 22, 3) := by decide +kernel
theorem dX0_init_26 : decode cX0_init 26 = .ok (.dup, 1) := by decide +kernel
theorem dX0_init_27 : decode cX0_init 27 = .ok (.new 24, 3) := by decide +kernel
theorem dX0_init_30 : decode cX0_init 30 = .ok (.dup, 1) := by decide +kernel
theorem dX0_init_31 : decode cX0_init 31 = .ok (.aload_n 1, 1) := by decide +kernel
theorem dX0_init_32 : decode cX0_init 32 = .ok (.aload_n 3, 1) := by decide +kernel
theorem dX0_init_33 : decode cX0_init 33 = .ok (.getfield 26, 3) := by decide +kernel
theorem dX0_init_36 : decode cX0_init 36 = .ok (.invokespecial 30, 3) := by decide +kernel
theorem dX0_init_39 : decode cX0_init 39 = .ok (.aload_n 3, 1) := by decide +kernel
theorem dX0_init_40 : decode cX0_init 40 = .ok (.invokespecial 33, 3) := by decide +kernel
theorem dX0_init_43 : decode cX0_init 43 = .ok (.putfield 36, 3) := by decide +kernel
theorem dX0_init_46 : decode cX0_init 46 = .ok (.aload_n 0, 1) := by decide +kernel
theorem dX0_init_47 : decode cX0_init 47 = .ok (.new 40, 3) := by decide +kernel
theorem dX0_init_50 : decode cX0_init 50 = .ok (.dup, 1) := by decide +kernel
theorem dX0_init_51 : decode cX0_init 51 = .ok (.aload_n 3, 1) := by decide +kernel
theorem dX0_init_52 : decode cX0_init 52 = .ok (.aload_n 2, 1) := by decide +kernel
theorem dX0_init_53 : decode cX0_init 53 = .ok (.invokespecial 42, 3) := by decide +kernel
theorem dX0_init_56 : decode cX0_init 56 = .ok (.putfield 45, 3) := by decide +kernel
theorem dX0_init_59 : decode cX0_init 59 = .ok (.aload_n 0, 1) := by decide +kernel
theorem dX0_init_60 : decode cX0_init 60 = .ok (.new 49, 3) := by decide +kernel
theorem dX0_init_63 : decode cX0_init 63 = .ok (.dup, 1) := by decide +kernel
theorem dX0_init_64 : decode cX0_init 64 = .ok (.invokespecial 51, 3) := by decide +kernel
theorem dX0_init_67 : decode cX0_init 67 = .ok (.putfield 52, 3) := by decide +kernel
theorem dX0_init_70 : decode cX0_init 70 = .ok (.aload_n 0, 1) := by decide +kernel
theorem dX0_init_71 : decode cX0_init 71 = .ok (.iconst 4, 1) := by decide +kernel
theorem dX0_init_72 : decode cX0_init 72 = .ok (.newarray .int, 2) := by decide +kernel
theorem dX0_init_74 : decode cX0_init 74 = .ok (.putfield 56, 3) := by decide +kernel
theorem dX0_init_77 : decode cX0_init 77 = .ok (.return_, 1) := by decide +kernel
theorem dX1_init_0 : decode cX1_init 0 = .ok (.aload_n 0, 1) := by decide +kernel
theorem dX1_init_1 : decode cX1_init 1 = .ok (.invokespecial 3, 3) := by decide +kernel
theorem dX1_init_4 : decode cX1_init 4 = .ok (.aload_n 0, 1) := by decide +kernel
theorem dX1_init_5 : decode cX1_init 5 = .ok (.aload_n 1, 1) := by decide +kernel
theorem dX1_init_6 : decode cX1_init 6 = .ok (.putfield 9, 3) := by decide +kernel
theorem dX1_init_9 : decode cX1_init 9 = .ok (.aload_n 0, 1) := by decide +kernel
theorem dX1_init_10 : decode cX1_init 10 = .ok (.aload_n 2, 1) := by decide +kernel
theorem dX1_init_11 : decode cX1_init 11 = .ok (.putfield 15, 3) := by decide +kernel
theorem dX1_init_14 : decode cX1_init 14 = .ok (.aload_n 0, 1) := by decide +kernel
theorem dX1_init_15 : decode cX1_init 15 = .ok (.sipush 1026, 3) := by decide +kernel
theorem dX1_init_18 : decode cX1_init 18 = .ok (.newarray .long, 2) := by decide +kernel
theorem dX1_init_20 : decode cX1_init 20 = .ok (.putfield 21, 3) := by decide +kernel
theorem dX1_init_23 : decode cX1_init 23 = .ok (.aload_n 0, 1) := by decide +kernel
theorem dX1_init_24 : decode cX1_init 24 = .ok (.sipush 1026, 3) := by decide +kernel
theorem dX1_init_27 : decode cX1_init 27 = .ok (.newarray .int, 2) := by decide +kernel
theorem dX1_init_29 : decode cX1_init 29 = .ok (.putfield 25, 3) := by decide +kernel
theorem dX1_init_32 : decode cX1_init 32 = .ok (.aload_n 0, 1) := by decide +kernel
theorem dX1_init_33 : decode cX1_init 33 = .ok (.sipush 1026, 3) := by decide +kernel
theorem dX1_init_36 : decode cX1_init 36 = .ok (.newarray .int, 2) := by decide +kernel
theorem dX1_init_38 : decode cX1_init 38 = .ok (.putfield 29, 3) := by decide +kernel
theorem dX1_init_41 : decode cX1_init 41 = .ok (.aload_n 0, 1) := by decide +kernel
theorem dX1_init_42 : decode cX1_init 42 = .ok (.sipush 1026, 3) := by decide +kernel
theorem dX1_init_45 : decode cX1_init 45 = .ok (.newarray .int, 2) := by decide +kernel
theorem dX1_init_47 : decode cX1_init 47 = .ok (.putfield 32, 3) := by decide +kernel
theorem dX1_init_50 : decode cX1_init 50 = .ok (.aload_n 0, 1) := by decide +kernel
theorem dX1_init_51 : decode cX1_init 51 = .ok (.sipush 128, 3) := by decide +kernel
theorem dX1_init_54 : decode cX1_init 54 = .ok (.newarray .byte, 2) := by decide +kernel
theorem dX1_init_56 : decode cX1_init 56 = .ok (.putfield 35, 3) := by decide +kernel
theorem dX1_init_59 : decode cX1_init 59 = .ok (.aload_n 0, 1) := by decide +kernel
theorem dX1_init_60 : decode cX1_init 60 = .ok (.bipush 64, 2) := by decide +kernel
theorem dX1_init_62 : decode cX1_init 62 = .ok (.newarray .byte, 2) := by decide +kernel
theorem dX1_init_64 : decode cX1_init 64 = .ok (.putfield 39, 3) := by decide +kernel
theorem dX1_init_67 : decode cX1_init 67 = .ok (.return_, 1) := by decide +kernel
theorem dX2_init_0 : decode cX2_init 0 = .ok (.aload_n 0, 1) := by decide +kernel
theorem dX2_init_1 : decode cX2_init 1 = .ok (.invokespecial 3, 3) := by decide +kernel
theorem dX2_init_4 : decode cX2_init 4 = .ok (.aload_n 0, 1) := by decide +kernel
theorem dX2_init_5 : decode cX2_init 5 = .ok (.bipush 8, 2) := by decide +kernel
theorem dX2_init_7 : decode cX2_init 7 = .ok (.getstatic 9, 3) := by decide +kernel
theorem dX2_init_10 : decode cX2_init 10 = .ok (.arraylength, 1) := by decide +kernel
theorem dX2_init_11 : decode cX2_init 11 = .ok (.imul, 1) := by decide +kernel
theorem dX2_init_12 : decode cX2_init 12 = .ok (.getstatic 15, 3) := by decide +kernel
theorem dX2_init_15 : decode cX2_init 15 = .ok (.arraylength, 1) := by decide +kernel
theorem dX2_init_16 : decode cX2_init 16 = .ok (.iadd, 1) := by decide +kernel
theorem dX2_init_17 : decode cX2_init 17 = .ok (.newarray .int, 2) := by decide +kernel
theorem dX2_init_19 : decode cX2_init 19 = .ok (.putfield 18, 3) := by decide +kernel
theorem dX2_init_22 : decode cX2_init 22 = .ok (.aload_n 0, 1) := by decide +kernel
theorem dX2_init_23 : decode cX2_init 23 = .ok (.bipush 55, 2) := by decide +kernel
theorem dX2_init_25 : decode cX2_init 25 = .ok (.newarray .int, 2) := by decide +kernel
theorem dX2_init_27 : decode cX2_init 27 = .ok (.putfield 21, 3) := by decide +kernel
theorem dX2_init_30 : decode cX2_init 30 = .ok (.aload_n 0, 1) := by decide +kernel
theorem dX2_init_31 : decode cX2_init 31 = .ok (.sipush 6144, 3) := by decide +kernel
theorem dX2_init_34 : decode cX2_init 34 = .ok (.newarray .int, 2) := by decide +kernel
theorem dX2_init_36 : decode cX2_init 36 = .ok (.putfield 24, 3) := by decide +kernel
theorem dX2_init_39 : decode cX2_init 39 = .ok (.aload_n 0, 1) := by decide +kernel
theorem dX2_init_40 : decode cX2_init 40 = .ok (.iconst 4, 1) := by decide +kernel
theorem dX2_init_41 : decode cX2_init 41 = .ok (.newarray .int, 2) := by decide +kernel
theorem dX2_init_43 : decode cX2_init 43 = .ok (.putfield 27, 3) := by decide +kernel
theorem dX2_init_46 : decode cX2_init 46 = .ok (.aload_n 0, 1) := by decide +kernel
theorem dX2_init_47 : decode cX2_init 47 = .ok (.iconst 4, 1) := by decide +kernel
theorem dX2_init_48 : decode cX2_init 48 = .ok (.newarray .int, 2) := by decide +kernel
theorem dX2_init_50 : decode cX2_init 50 = .ok (.putfield 30, 3) := by decide +kernel
theorem dX2_init_53 : decode cX2_init 53 = .ok (.aload_n 0, 1) := by decide +kernel
theorem dX2_init_54 : decode cX2_init 54 = .ok (.bipush 32, 2) := by decide +kernel
theorem dX2_init_56 : decode cX2_init 56 = .ok (.newarray .byte, 2) := by decide +kernel
theorem dX2_init_58 : decode cX2_init 58 = .ok (.putfield 33, 3) := by decide +kernel
theorem dX2_init_61 : decode cX2_init 61 = .ok (.aload_n 0, 1) := by decide +kernel
theorem dX2_init_62 : decode cX2_init 62 = .ok (.getfield 24, 3) := by decide +kernel
theorem dX2_init_65 : decode cX2_init 65 = .ok (.iconst (-1), 1) := by decide +kernel
theorem dX2_init_66 : decode cX2_init 66 = .ok (.invokestatic 37, 3) := by decide +kernel
theorem dX2_init_69 : decode cX2_init 69 = .ok (.iconst 0, 1) := by decide +kernel
theorem dX2_init_70 : decode cX2_init 70 = .ok (.istore_n 1, 1) := by decide +kernel
theorem dX2_init_71 : decode cX2_init 71 = .ok (.iload_n 1, 1) := by decide +kernel
theorem dX2_init_72 : decode cX2_init 72 = .ok (.bipush 8, 2) := by decide +kernel
theorem dX2_init_74 : decode cX2_init 74 = .ok (.getstatic 9, 3) := by decide +kernel
theorem dX2_init_77 : decode cX2_init 77 = .ok (.arraylength, 1) := by decide +kernel
theorem dX2_init_78 : decode cX2_init 78 = .ok (.imul, 1) := by decide +kernel
theorem dX2_init_79 : decode cX2_init 79 = .ok (.if_icmp .ge 94, 3) := by decide +kernel
theorem dX2_init_82 : decode cX2_init 82 = .ok (.iload_n 1, 1) := by decide +kernel
theorem dX2_init_83 : decode cX2_init 83 = .ok (.getstatic 9, 3) := by decide +kernel
theorem dX2_init_86 : decode cX2_init 86 = .ok (.arraylength, 1) := by decide +kernel
theorem dX2_init_87 : decode cX2_init 87 = .ok (.idiv, 1) := by decide +kernel
theorem dX2_init_88 : decode cX2_init 88 = .ok (.istore_n 2, 1) := by decide +kernel
theorem dX2_init_89 : decode cX2_init 89 = .ok (.iload_n 1, 1) := by decide +kernel
theorem dX2_init_90 : decode cX2_init 90 = .ok (.bipush 6, 2) := by decide +kernel
theorem dX2_init_92 : decode cX2_init 92 = .ok (.irem, 1) := by decide +kernel
theorem dX2_init_93 : decode cX2_init 93 = .ok (.istore_n 3, 1) := by decide +kernel
theorem dX2_init_94 : decode cX2_init 94 = .ok (.getstatic 9, 3) := by decide +kernel
theorem dX2_init_97 : decode cX2_init 97 = .ok (.iload_n 1, 1) := by decide +kernel
theorem dX2_init_98 : decode cX2_init 98 = .ok (.getstatic 9, 3) := by decide +kernel
theorem dX2_init_101 : decode cX2_init 101 = .ok (.arraylength, 1) := by decide +kernel
theorem dX2_init_102 : decode cX2_init 102 = .ok (.irem, 1) := by decide +kernel
theorem dX2_init_103 : decode cX2_init 103 = .ok (.iaload, 1) := by decide +kernel
theorem dX2_init_104 : decode cX2_init 104 = .ok (.istore 4, 2) := by decide +kernel
theorem dX2_init_106 : decode cX2_init 106 = .ok (.iload_n 3, 1) := by decide +kernel
theorem dX2_init_107 : decode cX2_init 107 = .ok (.ifCond .eq 13, 3) := by decide +kernel
theorem dX2_init_110 : decode cX2_init 110 = .ok (.iload_n 3, 1) := by decide +kernel
theorem dX2_init_111 : decode cX2_init 111 = .ok (.iconst 5, 1) := by decide +kernel
theorem dX2_init_112 : decode cX2_init 112 = .ok (.if_icmp .ne 12, 3) := by decide +kernel
theorem dX2_init_115 : decode cX2_init 115 = .ok (.iload 4, 2) := by decide +kernel
theorem dX2_init_117 : decode cX2_init 117 = .ok (.ifCond .ne 7, 3) := by decide +kernel
theorem dX2_init_120 : decode cX2_init 120 = .ok (.iconst 1, 1) := by decide +kernel
theorem dX2_init_121 : decode cX2_init 121 = .ok (.goto 4, 3) := by decide +kernel
theorem dX2_init_124 : decode cX2_init 124 = .ok (.iconst 0, 1) := by decide +kernel
theorem dX2_init_125 : decode cX2_init 125 = .ok (.istore 5, 2) := by decide +kernel
theorem dX2_init_127 : decode cX2_init 127 = .ok (.aload_n 0, 1) := by decide +kernel
theorem dX2_init_128 : decode cX2_init 128 = .ok (.getfield 18, 3) := by decide +kernel
theorem dX2_init_131 : decode cX2_init 131 = .ok (.iload_n 1, 1) := by decide +kernel
theorem dX2_init_132 : decode cX2_init 132 = .ok (.iload 5, 2) := by decide +kernel
theorem dX2_init_134 : decode cX2_init 134 = .ok (.ifCond .eq 7, 3) := by decide +kernel
theorem dX2_init_137 : decode cX2_init 137 = .ok (.iload_n 2, 1) := by decide +kernel
theorem dX2_init_138 : decode cX2_init 138 = .ok (.goto 28, 3) := by decide +kernel
theorem dX2_init_141 : decode cX2_init 141 = .ok (.iload_n 3, 1) := by decide +kernel
theorem dX2_init_142 : decode cX2_init 142 = .ok (.iconst 4, 1) := by decide +kernel
theorem dX2_init_143 : decode cX2_init 143 = .ok (.if_icmp .ne 21, 3) := by decide +kernel
theorem dX2_init_146 : decode cX2_init 146 = .ok (.iload 4, 2) := by decide +kernel
theorem dX2_init_148 : decode cX2_init 148 = .ok (.sipush 128, 3) := by decide +kernel
theorem dX2_init_151 : decode cX2_init 151 = .ok (.if_icmp .ge 13, 3) := by decide +kernel
theorem dX2_init_154 : decode cX2_init 154 = .ok (.iload 4, 2) := by decide +kernel
theorem dX2_init_156 : decode cX2_init 156 = .ok (.bipush 8, 2) := by decide +kernel
theorem dX2_init_158 : decode cX2_init 158 = .ok (.iload_n 2, 1) := by decide +kernel
theorem dX2_init_159 : decode cX2_init 159 = .ok (.imul, 1) := by decide +kernel
theorem dX2_init_160 : decode cX2_init 160 = .ok (.iadd, 1) := by decide +kernel
theorem dX2_init_161 : decode cX2_init 161 = .ok (.goto 5, 3) := by decide +kernel
theorem dX2_init_164 : decode cX2_init 164 = .ok (.iload 4, 2) := by decide +kernel
theorem dX2_init_166 : decode cX2_init 166 = .ok (.iastore, 1) := by decide +kernel
theorem dX2_init_167 : decode cX2_init 167 = .ok (.iinc 1 1, 3) := by decide +kernel
theorem dX2_init_170 : decode cX2_init 170 = .ok (.goto (-99), 3) := by decide +kernel
theorem dX2_init_173 : decode cX2_init 173 = .ok (.getstatic 15, 3) := by decide +kernel
theorem dX2_init_176 : decode cX2_init 176 = .ok (.iconst 0, 1) := by decide +kernel
theorem dX2_init_177 : decode cX2_init 177 = .ok (.aload_n 0, 1) := by decide +kernel
theorem dX2_init_178 : decode cX2_init 178 = .ok (.getfield 18, 3) := by decide +kernel
theorem dX2_init_181 : decode cX2_init 181 = .ok (.bipush 8, 2) := by decide +kernel
theorem dX2_init_183 : decode cX2_init 183 = .ok (.getstatic 9, 3) := by decide +kernel
theorem dX2_init_186 : decode cX2_init 186 = .ok (.arraylength, 1) := by decide +kernel
theorem dX2_init_187 : decode cX2_init 187 = .ok (.imul, 1) := by decide +kernel
theorem dX2_init_188 : decode cX2_init 188 = .ok (.getstatic 15, 3) := by decide +kernel
theorem dX2_init_191 : decode cX2_init 191 = .ok (.arraylength, 1) := by decide +kernel
theorem dX2_init_192 : decode cX2_init 192 = .ok (.invokestatic 43, 3) := by decide +kernel
theorem dX2_init_195 : decode cX2_init 195 = .ok (.iconst 0, 1) := by decide +kernel
theorem dX2_init_196 : decode cX2_init 196 = .ok (.istore_n 1, 1) := by decide +kernel
theorem dX2_init_197 : decode cX2_init 197 = .ok (.iload_n 1, 1) := by decide +kernel
theorem dX2_init_198 : decode cX2_init 198 = .ok (.aload_n 0, 1) := by decide +kernel
theorem dX2_init_199 : decode cX2_init 199 = .ok (.getfield 18, 3) := by decide +kernel
theorem dX2_init_202 : decode cX2_init 202 = .ok (.arraylength, 1) := by decide +kernel
theorem dX2_init_203 : decode cX2_init 203 = .ok (.if_icmp .ge 31, 3) := by decide +kernel
theorem dX2_init_206 : decode cX2_init 206 = .ok (.aload_n 0, 1) := by decide +kernel
theorem dX2_init_207 : decode cX2_init 207 = .ok (.getfield 21, 3) := by decide +kernel
theorem dX2_init_210 : decode cX2_init 210 = .ok (.aload_n 0, 1) := by decide +kernel
theorem dX2_init_211 : decode cX2_init 211 = .ok (.getfield 18, 3) := by decide +kernel
theorem dX2_init_214 : decode cX2_init 214 = .ok (.iload_n 1, 1) := by decide +kernel
theorem dX2_init_215 : decode cX2_init 215 = .ok (.iaload, 1) := by decide +kernel
theorem dX2_init_216 : decode cX2_init 216 = .ok (.iconst 1, 1) := by decide +kernel
theorem dX2_init_217 : decode cX2_init 217 = .ok (.iadd, 1) := by decide +kernel
theorem dX2_init_218 : decode cX2_init 218 = .ok (.iload_n 1, 1) := by decide +kernel
theorem dX2_init_219 : decode cX2_init 219 = .ok (.bipush 6, 2) := by decide +kernel
theorem dX2_init_221 : decode cX2_init 221 = .ok (.iadd, 1) := by decide +kernel
theorem dX2_init_222 : decode cX2_init 222 = .ok (.iastore, 1) := by decide +kernel
theorem dX2_init_223 : decode cX2_init 223 = .ok (.aload_n 0, 1) := by decide +kernel
theorem dX2_init_224 : decode cX2_init 224 = .ok (.iload_n 1, 1) := by decide +kernel
theorem dX2_init_225 : decode cX2_init 225 = .ok (.invokevirtual 49, 3) := by decide +kernel
theorem dX2_init_228 : decode cX2_init 228 = .ok (.iinc 1 6, 3) := by decide +kernel
theorem dX2_init_231 : decode cX2_init 231 = .ok (.goto (-34), 3) := by decide +kernel
theorem dX2_init_234 : decode cX2_init 234 = .ok (.return_, 1) := by decide +kernel
theorem dX2_enter_0 : decode cX2_enter 0 = .ok (.aload_n 0, 1) := by decide +kernel
theorem dX2_enter_1 : decode cX2_enter 1 = .ok (.getfield 18, 3) := by decide +kernel
theorem dX2_enter_4 : decode cX2_enter 4 = .ok (.iload_n 1, 1) := by decide +kernel
theorem dX2_enter_5 : decode cX2_enter 5 = .ok (.iconst 4, 1) := by decide +kernel
theorem dX2_enter_6 : decode cX2_enter 6 = .ok (.iadd, 1) := by decide +kernel
theorem dX2_enter_7 : decode cX2_enter 7 = .ok (.iaload, 1) := by decide +kernel
theorem dX2_enter_8 : decode cX2_enter 8 = .ok (.istore_n 2, 1) := by decide +kernel
theorem dX2_enter_9 : decode cX2_enter 9 = .ok (.iload_n 2, 1) := by decide +kernel
theorem dX2_enter_10 : decode cX2_enter 10 = .ok (.bipush 8, 2) := by decide +kernel
theorem dX2_enter_12 : decode cX2_enter 12 = .ok (.ishr, 1) := by decide +kernel
theorem dX2_enter_13 : decode cX2_enter 13 = .ok (.bipush 15, 2) := by decide +kernel
theorem dX2_enter_15 : decode cX2_enter 15 = .ok (.if_icmp .ne 7, 3) := by decide +kernel
theorem dX2_enter_18 : decode cX2_enter 18 = .ok (.iconst 1, 1) := by decide +kernel
theorem dX2_enter_19 : decode cX2_enter 19 = .ok (.goto 18, 3) := by decide +kernel
theorem dX2_enter_22 : decode cX2_enter 22 = .ok (.iload_n 2, 1) := by decide +kernel
theorem dX2_enter_23 : decode cX2_enter 23 = .ok (.bipush 8, 2) := by decide +kernel
theorem dX2_enter_25 : decode cX2_enter 25 = .ok (.ishr, 1) := by decide +kernel
theorem dX2_enter_26 : decode cX2_enter 26 = .ok (.sipush 243, 3) := by decide +kernel
theorem dX2_enter_29 : decode cX2_enter 29 = .ok (.if_icmp .ne 7, 3) := by decide +kernel
theorem dX2_enter_32 : decode cX2_enter 32 = .ok (.iconst 2, 1) := by decide +kernel
theorem dX2_enter_33 : decode cX2_enter 33 = .ok (.goto 4, 3) := by decide +kernel
theorem dX2_enter_36 : decode cX2_enter 36 = .ok (.iconst 0, 1) := by decide +kernel
theorem dX2_enter_37 : decode cX2_enter 37 = .ok (.istore_n 3, 1) := by decide +kernel
theorem dX2_enter_38 : decode cX2_enter 38 = .ok (.getstatic 53, 3) := by decide +kernel
theorem dX2_enter_41 : decode cX2_enter 41 = .ok (.aload_n 0, 1) := by decide +kernel
theorem dX2_enter_42 : decode cX2_enter 42 = .ok (.getfield 18, 3) := by decide +kernel
theorem dX2_enter_45 : decode cX2_enter 45 = .ok (.iload_n 1, 1) := by decide +kernel
theorem dX2_enter_46 : decode cX2_enter 46 = .ok (.iconst 2, 1) := by decide +kernel
theorem dX2_enter_47 : decode cX2_enter 47 = .ok (.iadd, 1) := by decide +kernel
theorem dX2_enter_48 : decode cX2_enter 48 = .ok (.iaload, 1) := by decide +kernel
theorem dX2_enter_49 : decode cX2_enter 49 = .ok (.iaload, 1) := by decide +kernel
theorem dX2_enter_50 : decode cX2_enter 50 = .ok (.iconst (-1), 1) := by decide +kernel
theorem dX2_enter_51 : decode cX2_enter 51 = .ok (.if_icmp .eq 8, 3) := by decide +kernel
theorem dX2_enter_54 : decode cX2_enter 54 = .ok (.bipush 8, 2) := by decide +kernel
theorem dX2_enter_56 : decode cX2_enter 56 = .ok (.goto 21, 3) := by decide +kernel
theorem dX2_enter_59 : decode cX2_enter 59 = .ok (.aload_n 0, 1) := by decide +kernel
theorem dX2_enter_60 : decode cX2_enter 60 = .ok (.getfield 18, 3) := by decide +kernel
theorem dX2_enter_63 : decode cX2_enter 63 = .ok (.iload_n 1, 1) := by decide +kernel
theorem dX2_enter_64 : decode cX2_enter 64 = .ok (.iaload, 1) := by decide +kernel
theorem dX2_enter_65 : decode cX2_enter 65 = .ok (.invokestatic 56, 3) := by decide +kernel
theorem dX2_enter_68 : decode cX2_enter 68 = .ok (.ifCond .eq 8, 3) := by decide +kernel
theorem dX2_enter_71 : decode cX2_enter 71 = .ok (.bipush 16, 2) := by decide +kernel
theorem dX2_enter_73 : decode cX2_enter 73 = .ok (.goto 4, 3) := by decide +kernel
theorem dX2_enter_76 : decode cX2_enter 76 = .ok (.iconst 1, 1) := by decide +kernel
theorem dX2_enter_77 : decode cX2_enter 77 = .ok (.istore 4, 2) := by decide +kernel
theorem dX2_enter_79 : decode cX2_enter 79 = .ok (.iload_n 3, 1) := by decide +kernel
theorem dX2_enter_80 : decode cX2_enter 80 = .ok (.sipush 256, 3) := by decide +kernel
theorem dX2_enter_83 : decode cX2_enter 83 = .ok (.imul, 1) := by decide +kernel
theorem dX2_enter_84 : decode cX2_enter 84 = .ok (.iload_n 2, 1) := by decide +kernel
theorem dX2_enter_85 : decode cX2_enter 85 = .ok (.sipush 255, 3) := by decide +kernel
theorem dX2_enter_88 : decode cX2_enter 88 = .ok (.iand, 1) := by decide +kernel
theorem dX2_enter_89 : decode cX2_enter 89 = .ok (.iadd, 1) := by decide +kernel
theorem dX2_enter_90 : decode cX2_enter 90 = .ok (.bipush 8, 2) := by decide +kernel
theorem dX2_enter_92 : decode cX2_enter 92 = .ok (.imul, 1) := by decide +kernel
theorem dX2_enter_93 : decode cX2_enter 93 = .ok (.istore 5, 2) := by decide +kernel
theorem dX2_enter_95 : decode cX2_enter 95 = .ok (.iload 5, 2) := by decide +kernel
theorem dX2_enter_97 : decode cX2_enter 97 = .ok (.istore 6, 2) := by decide +kernel
theorem dX2_enter_99 : decode cX2_enter 99 = .ok (.iload 6, 2) := by decide +kernel
theorem dX2_enter_101 : decode cX2_enter 101 = .ok (.iload 5, 2) := by decide +kernel
theorem dX2_enter_103 : decode cX2_enter 103 = .ok (.bipush 8, 2) := by decide +kernel
theorem dX2_enter_105 : decode cX2_enter 105 = .ok (.iload 4, 2) := by decide +kernel
theorem dX2_enter_107 : decode cX2_enter 107 = .ok (.imul, 1) := by decide +kernel
theorem dX2_enter_108 : decode cX2_enter 108 = .ok (.iadd, 1) := by decide +kernel
theorem dX2_enter_109 : decode cX2_enter 109 = .ok (.if_icmp .ge 64, 3) := by decide +kernel
theorem dX2_enter_112 : decode cX2_enter 112 = .ok (.iload 6, 2) := by decide +kernel
theorem dX2_enter_114 : decode cX2_enter 114 = .ok (.aload_n 0, 1) := by decide +kernel
theorem dX2_enter_115 : decode cX2_enter 115 = .ok (.getfield 24, 3) := by decide +kernel
theorem dX2_enter_118 : decode cX2_enter 118 = .ok (.arraylength, 1) := by decide +kernel
theorem dX2_enter_119 : decode cX2_enter 119 = .ok (.if_icmp .ge 54, 3) := by decide +kernel
theorem dX2_enter_122 : decode cX2_enter 122 = .ok (.aload_n 0, 1) := by decide +kernel
theorem dX2_enter_123 : decode cX2_enter 123 = .ok (.getfield 18, 3) := by decide +kernel
theorem dX2_enter_126 : decode cX2_enter 126 = .ok (.iload_n 1, 1) := by decide +kernel
theorem dX2_enter_127 : decode cX2_enter 127 = .ok (.iconst 5, 1) := by decide +kernel
theorem dX2_enter_128 : decode cX2_enter 128 = .ok (.iadd, 1) := by decide +kernel
theorem dX2_enter_129 : decode cX2_enter 129 = .ok (.iaload, 1) := by decide +kernel
theorem dX2_enter_130 : decode cX2_enter 130 = .ok (.istore 7, 2) := by decide +kernel
theorem dX2_enter_132 : decode cX2_enter 132 = .ok (.iload 7, 2) := by decide +kernel
theorem dX2_enter_134 : decode cX2_enter 134 = .ok (.iconst (-1), 1) := by decide +kernel
theorem dX2_enter_135 : decode cX2_enter 135 = .ok (.if_icmp .eq 13, 3) := by decide +kernel
theorem dX2_enter_138 : decode cX2_enter 138 = .ok (.iload 7, 2) := by decide +kernel
theorem dX2_enter_140 : decode cX2_enter 140 = .ok (.iload 6, 2) := by decide +kernel
theorem dX2_enter_142 : decode cX2_enter 142 = .ok (.bipush 8, 2) := by decide +kernel
theorem dX2_enter_144 : decode cX2_enter 144 = .ok (.irem, 1) := by decide +kernel
theorem dX2_enter_145 : decode cX2_enter 145 = .ok (.if_icmp .ne 22, 3) := by decide +kernel
theorem dX2_enter_148 : decode cX2_enter 148 = .ok (.aload_n 0, 1) := by decide +kernel
theorem dX2_enter_149 : decode cX2_enter 149 = .ok (.getfield 24, 3) := by decide +kernel
theorem dX2_enter_152 : decode cX2_enter 152 = .ok (.iload 6, 2) := by decide +kernel
theorem dX2_enter_154 : decode cX2_enter 154 = .ok (.iaload, 1) := by decide +kernel
theorem dX2_enter_155 : decode cX2_enter 155 = .ok (.iconst (-1), 1) := by decide +kernel
theorem dX2_enter_156 : decode cX2_enter 156 = .ok (.if_icmp .ne 11, 3) := by decide +kernel
theorem dX2_enter_159 : decode cX2_enter 159 = .ok (.aload_n 0, 1) := by decide +kernel
theorem dX2_enter_160 : decode cX2_enter 160 = .ok (.getfield 24, 3) := by decide +kernel
theorem dX2_enter_163 : decode cX2_enter 163 = .ok (.iload 6, 2) := by decide +kernel
theorem dX2_enter_165 : decode cX2_enter 165 = .ok (.iload_n 1, 1) := by decide +kernel
theorem dX2_enter_166 : decode cX2_enter 166 = .ok (.iastore, 1) := by decide +kernel
theorem dX2_enter_167 : decode cX2_enter 167 = .ok (.iinc 6 1, 3) := by decide +kernel
theorem dX2_enter_170 : decode cX2_enter 170 = .ok (.goto (-71), 3) := by decide +kernel
theorem dX2_enter_173 : decode cX2_enter 173 = .ok (.return_, 1) := by decide +kernel
theorem dX2_isConditional_0 : decode cX2_isConditional 0 = .ok (.iload_n 0, 1) := by decide +kernel
theorem dX2_isConditional_1 : decode cX2_isConditional 1 = .ok (.bipush 34, 2) := by decide +kernel
theorem dX2_isConditional_3 : decode cX2_isConditional 3 = .ok (.if_icmp .eq 15, 3) := by decide +kernel
theorem dX2_isConditional_6 : decode cX2_isConditional 6 = .ok (.iload_n 0, 1) := by decide +kernel
theorem dX2_isConditional_7 : decode cX2_isConditional 7 = .ok (.bipush 35, 2) := by decide +kernel
theorem dX2_isConditional_9 : decode cX2_isConditional 9 = .ok (.if_icmp .eq 9, 3) := by decide +kernel
theorem dX2_isConditional_12 : decode cX2_isConditional 12 = .ok (.iload_n 0, 1) := by decide +kernel
theorem dX2_isConditional_13 : decode cX2_isConditional 13 = .ok (.bipush 36, 2) := by decide +kernel
theorem dX2_isConditional_15 : decode cX2_isConditional 15 = .ok (.if_icmp .ne 7, 3) := by decide +kernel
theorem dX2_isConditional_18 : decode cX2_isConditional 18 = .ok (.iconst 1, 1) := by decide +kernel
theorem dX2_isConditional_19 : decode cX2_isConditional 19 = .ok (.goto 4, 3) := by decide +kernel
theorem dX2_isConditional_22 : decode cX2_isConditional 22 = .ok (.iconst 0, 1) := by decide +kernel
theorem dX2_isConditional_23 : decode cX2_isConditional 23 = .ok (.ireturn, 1) := by decide +kernel
theorem dX3_init_0 : decode cX3_init 0 = .ok (.aload_n 0, 1) := by decide +kernel
theorem dX3_init_1 : decode cX3_init 1 = .ok (.invokespecial 3, 3) := by decide +kernel
theorem dX3_init_4 : decode cX3_init 4 = .ok (.aload_n 0, 1) := by decide +kernel
theorem dX3_init_5 : decode cX3_init 5 = .ok (.sipush 1024, 3) := by decide +kernel
theorem dX3_init_8 : decode cX3_init 8 = .ok (.newarray .byte, 2) := by decide +kernel
theorem dX3_init_10 : decode cX3_init 10 = .ok (.putfield 11, 3) := by decide +kernel
theorem dX3_init_13 : decode cX3_init 13 = .ok (.aload_n 0, 1) := by decide +kernel
theorem dX3_init_14 : decode cX3_init 14 = .ok (.new 15, 3) := by decide +kernel
theorem dX3_init_17 : decode cX3_init 17 = .ok (.dup, 1) := by decide +kernel
theorem dX3_init_18 : decode cX3_init 18 = .ok (.sipush 200, 3) := by decide +kernel
theorem dX3_init_21 : decode cX3_init 21 = .ok (.sipush 1200, 3) := by decide +kernel
theorem dX3_init_24 : decode cX3_init 24 = .ok (.invokespecial 17, 3) := by decide +kernel
theorem dX3_init_27 : decode cX3_init 27 = .ok (.putfield 20, 3) := by decide +kernel
theorem dX3_init_30 : decode cX3_init 30 = .ok (.aload_n 0, 1) := by decide +kernel
theorem dX3_init_31 : decode cX3_init 31 = .ok (.sipush 1026, 3) := by decide +kernel
theorem dX3_init_34 : decode cX3_init 34 = .ok (.newarray .int, 2) := by decide +kernel
theorem dX3_init_36 : decode cX3_init 36 = .ok (.putfield 24, 3) := by decide +kernel
theorem dX3_init_39 : decode cX3_init 39 = .ok (.aload_n 0, 1) := by decide +kernel
theorem dX3_init_40 : decode cX3_init 40 = .ok (.sipush 1026, 3) := by decide +kernel
theorem dX3_init_43 : decode cX3_init 43 = .ok (.newarray .long, 2) := by decide +kernel
theorem dX3_init_45 : decode cX3_init 45 = .ok (.putfield 28, 3) := by decide +kernel
theorem dX3_init_48 : decode cX3_init 48 = .ok (.aload_n 0, 1) := by decide +kernel
theorem dX3_init_49 : decode cX3_init 49 = .ok (.sipush 1026, 3) := by decide +kernel
theorem dX3_init_52 : decode cX3_init 52 = .ok (.newarray .int, 2) := by decide +kernel
theorem dX3_init_54 : decode cX3_init 54 = .ok (.putfield 32, 3) := by decide +kernel
theorem dX3_init_57 : decode cX3_init 57 = .ok (.aload_n 0, 1) := by decide +kernel
theorem dX3_init_58 : decode cX3_init 58 = .ok (.sipush 1026, 3) := by decide +kernel
theorem dX3_init_61 : decode cX3_init 61 = .ok (.newarray .int, 2) := by decide +kernel
theorem dX3_init_63 : decode cX3_init 63 = .ok (.putfield 35, 3) := by decide +kernel
theorem dX3_init_66 : decode cX3_init 66 = .ok (.aload_n 0, 1) := by decide +kernel
theorem dX3_init_67 : decode cX3_init 67 = .ok (.ldc 38, 2) := by decide +kernel
theorem dX3_init_69 : decode cX3_init 69 = .ok (.invokevirtual 40, 3) := by decide +kernel
theorem dX3_init_72 : decode cX3_init 72 = .ok (.aload_n 0, 1) := by decide +kernel
theorem dX3_init_73 : decode cX3_init 73 = .ok (.ldc 44, 2) := by decide +kernel
theorem dX3_init_75 : decode cX3_init 75 = .ok (.invokevirtual 40, 3) := by decide +kernel
theorem dX3_init_78 : decode cX3_init 78 = .ok (.aload_n 0, 1) := by decide +kernel
theorem dX3_init_79 : decode cX3_init 79 = .ok (.ldc 46, 2) := by decide +kernel
theorem dX3_init_81 : decode cX3_init 81 = .ok (.invokevirtual 40, 3) := by decide +kernel
theorem dX3_init_84 : decode cX3_init 84 = .ok (.aload_n 0, 1) := by decide +kernel
theorem dX3_init_85 : decode cX3_init 85 = .ok (.ldc 48, 2) := by decide +kernel
theorem dX3_init_87 : decode cX3_init 87 = .ok (.invokevirtual 40, 3) := by decide +kernel
theorem dX3_init_90 : decode cX3_init 90 = .ok (.aload_n 0, 1) := by decide +kernel
theorem dX3_init_91 : decode cX3_init 91 = .ok (.ldc 50, 2) := by decide +kernel
theorem dX3_init_93 : decode cX3_init 93 = .ok (.invokevirtual 40, 3) := by decide +kernel
theorem dX3_init_96 : decode cX3_init 96 = .ok (.aload_n 0, 1) := by decide +kernel
theorem dX3_init_97 : decode cX3_init 97 = .ok (.ldc 52, 2) := by decide +kernel
theorem dX3_init_99 : decode cX3_init 99 = .ok (.invokevirtual 40, 3) := by decide +kernel
theorem dX3_init_102 : decode cX3_init 102 = .ok (.aload_n 0, 1) := by decide +kernel
theorem dX3_init_103 : decode cX3_init 103 = .ok (.ldc 54, 2) := by decide +kernel
theorem dX3_init_105 : decode cX3_init 105 = .ok (.invokevirtual 40, 3) := by decide +kernel
theorem dX3_init_108 : decode cX3_init 108 = .ok (.aload_n 0, 1) := by decide +kernel
theorem dX3_init_109 : decode cX3_init 109 = .ok (.ldc 56, 2) := by decide +kernel
theorem dX3_init_111 : decode cX3_init 111 = .ok (.invokevirtual 40, 3) := by decide +kernel
theorem dX3_init_114 : decode cX3_init 114 = .ok (.aload_n 0, 1) := by decide +kernel
theorem dX3_init_115 : decode cX3_init 115 = .ok (.ldc 58, 2) := by decide +kernel
theorem dX3_init_117 : decode cX3_init 117 = .ok (.invokevirtual 40, 3) := by decide +kernel
theorem dX3_init_120 : decode cX3_init 120 = .ok (.aload_n 0, 1) := by decide +kernel
theorem dX3_init_121 : decode cX3_init 121 = .ok (.ldc 60, 2) := by decide +kernel
theorem dX3_init_123 : decode cX3_init 123 = .ok (.invokevirtual 40, 3) := by decide +kernel
theorem dX3_init_126 : decode cX3_init 126 = .ok (.aload_n 0, 1) := by decide +kernel
theorem dX3_init_127 : decode cX3_init 127 = .ok (.ldc 62, 2) := by decide +kernel
theorem dX3_init_129 : decode cX3_init 129 = .ok (.invokevirtual 40, 3) := by decide +kernel
theorem dX3_init_132 : decode cX3_init 132 = .ok (.aload_n 0, 1) := by decide +kernel
theorem dX3_init_133 : decode cX3_init 133 = .ok (.ldc 64, 2) := by decide +kernel
theorem dX3_init_135 : decode cX3_init 135 = .ok (.invokevirtual 40, 3) := by decide +kernel
theorem dX3_init_138 : decode cX3_init 138 = .ok (.aload_n 0, 1) := by decide +kernel
theorem dX3_init_139 : decode cX3_init 139 = .ok (.ldc 66, 2) := by decide +kernel
theorem dX3_init_141 : decode cX3_init 141 = .ok (.invokevirtual 40, 3) := by decide +kernel
theorem dX3_init_144 : decode cX3_init 144 = .ok (.aload_n 0, 1) := by decide +kernel
theorem dX3_init_145 : decode cX3_init 145 = .ok (.ldc 68, 2) := by decide +kernel
theorem dX3_init_147 : decode cX3_init 147 = .ok (.invokevirtual 40, 3) := by decide +kernel
theorem dX3_init_150 : decode cX3_init 150 = .ok (.aload_n 0, 1) := by decide +kernel
theorem dX3_init_151 : decode cX3_init 151 = .ok (.ldc 70, 2) := by decide +kernel
theorem dX3_init_153 : decode cX3_init 153 = .ok (.invokevirtual 40, 3) := by decide +kernel
theorem dX3_init_156 : decode cX3_init 156 = .ok (.aload_n 0, 1) := by decide +kernel
theorem dX3_init_157 : decode cX3_init 157 = .ok (.ldc 72, 2) := by decide +kernel
theorem dX3_init_159 : decode cX3_init 159 = .ok (.invokevirtual 40, 3) := by decide +kernel
theorem dX3_init_162 : decode cX3_init 162 = .ok (.aload_n 0, 1) := by decide +kernel
theorem dX3_init_163 : decode cX3_init 163 = .ok (.ldc 74, 2) := by decide +kernel
theorem dX3_init_165 : decode cX3_init 165 = .ok (.invokevirtual 40, 3) := by decide +kernel
theorem dX3_init_168 : decode cX3_init 168 = .ok (.return_, 1) := by decide +kernel
theorem dX3_teach_0 : decode cX3_teach 0 = .ok (.iconst 0, 1) := by decide +kernel
theorem dX3_teach_1 : decode cX3_teach 1 = .ok (.istore_n 2, 1) := by decide +kernel
theorem dX3_teach_2 : decode cX3_teach 2 = .ok (.iconst 0, 1) := by decide +kernel
theorem dX3_teach_3 : decode cX3_teach 3 = .ok (.istore_n 3, 1) := by decide +kernel
theorem dX3_teach_4 : decode cX3_teach 4 = .ok (.iload_n 3, 1) := by decide +kernel
theorem dX3_teach_5 : decode cX3_teach 5 = .ok (.aload_n 1, 1) := by decide +kernel
theorem dX3_teach_6 : decode cX3_teach 6 = .ok (.invokevirtual 76, 3) := by decide +kernel
theorem dX3_teach_9 : decode cX3_teach 9 = .ok (.if_icmp .ge 59, 3) := by decide +kernel
theorem dX3_teach_12 : decode cX3_teach 12 = .ok (.iload_n 3, 1) := by decide +kernel
theorem dX3_teach_13 : decode cX3_teach 13 = .ok (.sipush 1024, 3) := by decide +kernel
theorem dX3_teach_16 : decode cX3_teach 16 = .ok (.if_icmp .ge 52, 3) := by decide +kernel
theorem dX3_teach_19 : decode cX3_teach 19 = .ok (.aload_n 0, 1) := by decide +kernel
theorem dX3_teach_20 : decode cX3_teach 20 = .ok (.getfield 11, 3) := by decide +kernel
theorem dX3_teach_23 : decode cX3_teach 23 = .ok (.iload_n 3, 1) := by decide +kernel
theorem dX3_teach_24 : decode cX3_teach 24 = .ok (.aload_n 1, 1) := by decide +kernel
theorem dX3_teach_25 : decode cX3_teach 25 = .ok (.iload_n 3, 1) := by decide +kernel
theorem dX3_teach_26 : decode cX3_teach 26 = .ok (.invokevirtual 82, 3) := by decide +kernel
theorem dX3_teach_29 : decode cX3_teach 29 = .ok (.i2b, 1) := by decide +kernel
theorem dX3_teach_30 : decode cX3_teach 30 = .ok (.bastore, 1) := by decide +kernel
theorem dX3_teach_31 : decode cX3_teach 31 = .ok (.aload_n 0, 1) := by decide +kernel
theorem dX3_teach_32 : decode cX3_teach 32 = .ok (.getfield 11, 3) := by decide +kernel
theorem dX3_teach_35 : decode cX3_teach 35 = .ok (.iload_n 3, 1) := by decide +kernel
theorem dX3_teach_36 : decode cX3_teach 36 = .ok (.baload, 1) := by decide +kernel
theorem dX3_teach_37 : decode cX3_teach 37 = .ok (.bipush 32, 2) := by decide +kernel
theorem dX3_teach_39 : decode cX3_teach 39 = .ok (.if_icmp .ne 23, 3) := by decide +kernel
theorem dX3_teach_42 : decode cX3_teach 42 = .ok (.aload_n 0, 1) := by decide +kernel
theorem dX3_teach_43 : decode cX3_teach 43 = .ok (.getfield 20, 3) := by decide +kernel
theorem dX3_teach_46 : decode cX3_teach 46 = .ok (.aload_n 0, 1) := by decide +kernel
theorem dX3_teach_47 : decode cX3_teach 47 = .ok (.getfield 11, 3) := by decide +kernel
theorem dX3_teach_50 : decode cX3_teach 50 = .ok (.iload_n 2, 1) := by decide +kernel
theorem dX3_teach_51 : decode cX3_teach 51 = .ok (.iload_n 3, 1) := by decide +kernel
theorem dX3_teach_52 : decode cX3_teach 52 = .ok (.iload_n 2, 1) := by decide +kernel
theorem dX3_teach_53 : decode cX3_teach 53 = .ok (.isub, 1) := by decide +kernel
theorem dX3_teach_54 : decode cX3_teach 54 = .ok (.invokevirtual 86, 3) := by decide +kernel
theorem dX3_teach_57 : decode cX3_teach 57 = .ok (.pop, 1) := by decide +kernel
theorem dX3_teach_58 : decode cX3_teach 58 = .ok (.iload_n 3, 1) := by decide +kernel
theorem dX3_teach_59 : decode cX3_teach 59 = .ok (.iconst 1, 1) := by decide +kernel
theorem dX3_teach_60 : decode cX3_teach 60 = .ok (.iadd, 1) := by decide +kernel
theorem dX3_teach_61 : decode cX3_teach 61 = .ok (.istore_n 2, 1) := by decide +kernel
theorem dX3_teach_62 : decode cX3_teach 62 = .ok (.iinc 3 1, 3) := by decide +kernel
theorem dX3_teach_65 : decode cX3_teach 65 = .ok (.goto (-61), 3) := by decide +kernel
theorem dX3_teach_68 : decode cX3_teach 68 = .ok (.return_, 1) := by decide +kernel
theorem dX4_init_0 : decode cX4_init 0 = .ok (.aload_n 0, 1) := by decide +kernel
theorem dX4_init_1 : decode cX4_init 1 = .ok (.invokespecial 3, 3) := by decide +kernel
theorem dX4_init_4 : decode cX4_init 4 = .ok (.aload_n 0, 1) := by decide +kernel
theorem dX4_init_5 : decode cX4_init 5 = .ok (.aload_n 1, 1) := by decide +kernel
theorem dX4_init_6 : decode cX4_init 6 = .ok (.putfield 9, 3) := by decide +kernel
theorem dX4_init_9 : decode cX4_init 9 = .ok (.aload_n 0, 1) := by decide +kernel
theorem dX4_init_10 : decode cX4_init 10 = .ok (.bipush 32, 2) := by decide +kernel
theorem dX4_init_12 : decode cX4_init 12 = .ok (.newarray .boolean, 2) := by decide +kernel
theorem dX4_init_14 : decode cX4_init 14 = .ok (.putfield 17, 3) := by decide +kernel
theorem dX4_init_17 : decode cX4_init 17 = .ok (.aload_n 0, 1) := by decide +kernel
theorem dX4_init_18 : decode cX4_init 18 = .ok (.sipush 128, 3) := by decide +kernel
theorem dX4_init_21 : decode cX4_init 21 = .ok (.newarray .boolean, 2) := by decide +kernel
theorem dX4_init_23 : decode cX4_init 23 = .ok (.putfield 21, 3) := by decide +kernel
theorem dX4_init_26 : decode cX4_init 26 = .ok (.aload_n 0, 1) := by decide +kernel
theorem dX4_init_27 : decode cX4_init 27 = .ok (.sipush 128, 3) := by decide +kernel
theorem dX4_init_30 : decode cX4_init 30 = .ok (.newarray .int, 2) := by decide +kernel
theorem dX4_init_32 : decode cX4_init 32 = .ok (.putfield 24, 3) := by decide +kernel
theorem dX4_init_35 : decode cX4_init 35 = .ok (.aload_n 0, 1) := by decide +kernel
theorem dX4_init_36 : decode cX4_init 36 = .ok (.sipush 1024, 3) := by decide +kernel
theorem dX4_init_39 : decode cX4_init 39 = .ok (.newarray .int, 2) := by decide +kernel
theorem dX4_init_41 : decode cX4_init 41 = .ok (.putfield 28, 3) := by decide +kernel
theorem dX4_init_44 : decode cX4_init 44 = .ok (.aload_n 0, 1) := by decide +kernel
theorem dX4_init_45 : decode cX4_init 45 = .ok (.iconst 4, 1) := by decide +kernel
theorem dX4_init_46 : decode cX4_init 46 = .ok (.newarray .int, 2) := by decide +kernel
theorem dX4_init_48 : decode cX4_init 48 = .ok (.putfield 31, 3) := by decide +kernel
theorem dX4_init_51 : decode cX4_init 51 = .ok (.aload_n 0, 1) := by decide +kernel
theorem dX4_init_52 : decode cX4_init 52 = .ok (.iconst 4, 1) := by decide +kernel
theorem dX4_init_53 : decode cX4_init 53 = .ok (.newarray .int, 2) := by decide +kernel
theorem dX4_init_55 : decode cX4_init 55 = .ok (.putfield 34, 3) := by decide +kernel
theorem dX4_init_58 : decode cX4_init 58 = .ok (.aload_n 0, 1) := by decide +kernel
theorem dX4_init_59 : decode cX4_init 59 = .ok (.ldc 37, 2) := by decide +kernel
theorem dX4_init_61 : decode cX4_init 61 = .ok (.newarray .byte, 2) := by decide +kernel
theorem dX4_init_63 : decode cX4_init 63 = .ok (.putfield 38, 3) := by decide +kernel
theorem dX4_init_66 : decode cX4_init 66 = .ok (.aload_n 0, 1) := by decide +kernel
theorem dX4_init_67 : decode cX4_init 67 = .ok (.ldc 37, 2) := by decide +kernel
theorem dX4_init_69 : decode cX4_init 69 = .ok (.newarray .int, 2) := by decide +kernel
theorem dX4_init_71 : decode cX4_init 71 = .ok (.putfield 42, 3) := by decide +kernel
theorem dX4_init_74 : decode cX4_init 74 = .ok (.aload_n 0, 1) := by decide +kernel
theorem dX4_init_75 : decode cX4_init 75 = .ok (.new 45, 3) := by decide +kernel
theorem dX4_init_78 : decode cX4_init 78 = .ok (.dup, 1) := by decide +kernel
theorem dX4_init_79 : decode cX4_init 79 = .ok (.sipush 1024, 3) := by decide +kernel
theorem dX4_init_82 : decode cX4_init 82 = .ok (.ldc 47, 2) := by decide +kernel
theorem dX4_init_84 : decode cX4_init 84 = .ok (.invokespecial 48, 3) := by decide +kernel
theorem dX4_init_87 : decode cX4_init 87 = .ok (.putfield 51, 3) := by decide +kernel
theorem dX4_init_90 : decode cX4_init 90 = .ok (.aload_n 0, 1) := by decide +kernel
theorem dX4_init_91 : decode cX4_init 91 = .ok (.sipush 1024, 3) := by decide +kernel
theorem dX4_init_94 : decode cX4_init 94 = .ok (.newarray .long, 2) := by decide +kernel
theorem dX4_init_96 : decode cX4_init 96 = .ok (.putfield 55, 3) := by decide +kernel
theorem dX4_init_99 : decode cX4_init 99 = .ok (.aload_n 0, 1) := by decide +kernel
theorem dX4_init_100 : decode cX4_init 100 = .ok (.getfield 42, 3) := by decide +kernel
theorem dX4_init_103 : decode cX4_init 103 = .ok (.iconst (-1), 1) := by decide +kernel
theorem dX4_init_104 : decode cX4_init 104 = .ok (.invokestatic 59, 3) := by decide +kernel
theorem dX4_init_107 : decode cX4_init 107 = .ok (.return_, 1) := by decide +kernel
theorem dX5_init_0 : decode cX5_init 0 = .ok (.aload_n 0, 1) := by decide +kernel
theorem dX5_init_1 : decode cX5_init 1 = .ok (.invokespecial 3, 3) := by decide +kernel
theorem dX5_init_4 : decode cX5_init 4 = .ok (.aload_n 0, 1) := by decide +kernel
theorem dX5_init_5 : decode cX5_init 5 = .ok (.new 9, 3) := by decide +kernel
theorem dX5_init_8 : decode cX5_init 8 = .ok (.dup, 1) := by decide +kernel
theorem dX5_init_9 : decode cX5_init 9 = .ok (.invokespecial 11, 3) := by decide +kernel
theorem dX5_init_12 : decode cX5_init 12 = .ok (.putfield 12, 3) := by decide +kernel
theorem dX5_init_15 : decode cX5_init 15 = .ok (.aload_n 0, 1) := by decide +kernel
theorem dX5_init_16 : decode cX5_init 16 = .ok (.new 18, 3) := by decide +kernel
theorem dX5_init_19 : decode cX5_init 19 = .ok (.dup, 1) := by decide +kernel
theorem dX5_init_20 : decode cX5_init 20 = .ok (.invokespecial 20, 3) := by decide +kernel
theorem dX5_init_23 : decode cX5_init 23 = .ok (.putfield 21, 3) := by decide +kernel
theorem dX5_init_26 : decode cX5_init 26 = .ok (.aload_n 0, 1) := by decide +kernel
theorem dX5_init_27 : decode cX5_init 27 = .ok (.bipush 16, 2) := by decide +kernel
theorem dX5_init_29 : decode cX5_init 29 = .ok (.newarray .long, 2) := by decide +kernel
theorem dX5_init_31 : decode cX5_init 31 = .ok (.putfield 25, 3) := by decide +kernel
theorem dX5_init_34 : decode cX5_init 34 = .ok (.aload_n 0, 1) := by decide +kernel
theorem dX5_init_35 : decode cX5_init 35 = .ok (.ldc 29, 2) := by decide +kernel
theorem dX5_init_37 : decode cX5_init 37 = .ok (.newarray .byte, 2) := by decide +kernel
theorem dX5_init_39 : decode cX5_init 39 = .ok (.putfield 30, 3) := by decide +kernel
theorem dX5_init_42 : decode cX5_init 42 = .ok (.aload_n 0, 1) := by decide +kernel
theorem dX5_init_43 : decode cX5_init 43 = .ok (.ldc 29, 2) := by decide +kernel
theorem dX5_init_45 : decode cX5_init 45 = .ok (.newarray .byte, 2) := by decide +kernel
theorem dX5_init_47 : decode cX5_init 47 = .ok (.putfield 34, 3) := by decide +kernel
theorem dX5_init_50 : decode cX5_init 50 = .ok (.aload_n 0, 1) := by decide +kernel
theorem dX5_init_51 : decode cX5_init 51 = .ok (.bipush 16, 2) := by decide +kernel
theorem dX5_init_53 : decode cX5_init 53 = .ok (.newarray .long, 2) := by decide +kernel
theorem dX5_init_55 : decode cX5_init 55 = .ok (.putfield 37, 3) := by decide +kernel
theorem dX5_init_58 : decode cX5_init 58 = .ok (.return_, 1) := by decide +kernel
theorem dX6_init_0 : decode cX6_init 0 = .ok (.aload_n 0, 1) := by decide +kernel
theorem dX6_init_1 : decode cX6_init 1 = .ok (.invokespecial 3, 3) := by decide +kernel
theorem dX6_init_4 : decode cX6_init 4 = .ok (.aload_n 0, 1) := by decide +kernel
theorem dX6_init_5 : decode cX6_init 5 = .ok (.ldc 13, 2) := by decide +kernel
theorem dX6_init_7 : decode cX6_init 7 = .ok (.newarray .byte, 2) := by decide +kernel
theorem dX6_init_9 : decode cX6_init 9 = .ok (.putfield 14, 3) := by decide +kernel
theorem dX6_init_12 : decode cX6_init 12 = .ok (.aload_n 0, 1) := by decide +kernel
theorem dX6_init_13 : decode cX6_init 13 = .ok (.ldc 18, 2) := by decide +kernel
theorem dX6_init_15 : decode cX6_init 15 = .ok (.newarray .byte, 2) := by decide +kernel
theorem dX6_init_17 : decode cX6_init 17 = .ok (.putfield 19, 3) := by decide +kernel
theorem dX6_init_20 : decode cX6_init 20 = .ok (.aload_n 0, 1) := by decide +kernel
theorem dX6_init_21 : decode cX6_init 21 = .ok (.ldc 22, 2) := by decide +kernel
theorem dX6_init_23 : decode cX6_init 23 = .ok (.newarray .boolean, 2) := by decide +kernel
theorem dX6_init_25 : decode cX6_init 25 = .ok (.putfield 23, 3) := by decide +kernel
theorem dX6_init_28 : decode cX6_init 28 = .ok (.aload_n 0, 1) := by decide +kernel
theorem dX6_init_29 : decode cX6_init 29 = .ok (.iconst 0, 1) := by decide +kernel
theorem dX6_init_30 : decode cX6_init 30 = .ok (.putfield 27, 3) := by decide +kernel
theorem dX6_init_33 : decode cX6_init 33 = .ok (.aload_n 0, 1) := by decide +kernel
theorem dX6_init_34 : decode cX6_init 34 = .ok (.ldc2_w 31, 3) := by decide +kernel
theorem dX6_init_37 : decode cX6_init 37 = .ok (.putfield 33, 3) := by decide +kernel
theorem dX6_init_40 : decode cX6_init 40 = .ok (.aload_n 0, 1) := by decide +kernel
theorem dX6_init_41 : decode cX6_init 41 = .ok (.ldc2_w 31, 3) := by decide +kernel
theorem dX6_init_44 : decode cX6_init 44 = .ok (.putfield 37, 3) := by decide +kernel
theorem dX6_init_47 : decode cX6_init 47 = .ok (.return_, 1) := by decide +kernel
theorem dX7_init_0 : decode cX7_init 0 = .ok (.aload_n 0, 1) := by decide +kernel
theorem dX7_init_1 : decode cX7_init 1 = .ok (.invokespecial 3, 3) := by decide +kernel
theorem dX7_init_4 : decode cX7_init 4 = .ok (.aload_n 0, 1) := by decide +kernel
theorem dX7_init_5 : decode cX7_init 5 = .ok (.iload_n 2, 1) := by decide +kernel
theorem dX7_init_6 : decode cX7_init 6 = .ok (.newarray .byte, 2) := by decide +kernel
theorem dX7_init_8 : decode cX7_init 8 = .ok (.putfield 9, 3) := by decide +kernel
theorem dX7_init_11 : decode cX7_init 11 = .ok (.aload_n 0, 1) := by decide +kernel
theorem dX7_init_12 : decode cX7_init 12 = .ok (.iload_n 1, 1) := by decide +kernel
theorem dX7_init_13 : decode cX7_init 13 = .ok (.iconst 1, 1) := by decide +kernel
theorem dX7_init_14 : decode cX7_init 14 = .ok (.iadd, 1) := by decide +kernel
theorem dX7_init_15 : decode cX7_init 15 = .ok (.newarray .int, 2) := by decide +kernel
theorem dX7_init_17 : decode cX7_init 17 = .ok (.putfield 15, 3) := by decide +kernel
theorem dX7_init_20 : decode cX7_init 20 = .ok (.aload_n 0, 1) := by decide +kernel
theorem dX7_init_21 : decode cX7_init 21 = .ok (.iload_n 1, 1) := by decide +kernel
theorem dX7_init_22 : decode cX7_init 22 = .ok (.newarray .int, 2) := by decide +kernel
theorem dX7_init_24 : decode cX7_init 24 = .ok (.putfield 19, 3) := by decide +kernel
theorem dX7_init_27 : decode cX7_init 27 = .ok (.aload_n 0, 1) := by decide +kernel
theorem dX7_init_28 : decode cX7_init 28 = .ok (.iload_n 1, 1) := by decide +kernel
theorem dX7_init_29 : decode cX7_init 29 = .ok (.newarray .int, 2) := by decide +kernel
theorem dX7_init_31 : decode cX7_init 31 = .ok (.putfield 22, 3) := by decide +kernel
theorem dX7_init_34 : decode cX7_init 34 = .ok (.aload_n 0, 1) := by decide +kernel
theorem dX7_init_35 : decode cX7_init 35 = .ok (.sipush 1024, 3) := by decide +kernel
theorem dX7_init_38 : decode cX7_init 38 = .ok (.newarray .int, 2) := by decide +kernel
theorem dX7_init_40 : decode cX7_init 40 = .ok (.putfield 25, 3) := by decide +kernel
theorem dX7_init_43 : decode cX7_init 43 = .ok (.aload_n 0, 1) := by decide +kernel
theorem dX7_init_44 : decode cX7_init 44 = .ok (.getfield 25, 3) := by decide +kernel
theorem dX7_init_47 : decode cX7_init 47 = .ok (.iconst (-1), 1) := by decide +kernel
theorem dX7_init_48 : decode cX7_init 48 = .ok (.invokestatic 28, 3) := by decide +kernel
theorem dX7_init_51 : decode cX7_init 51 = .ok (.aload_n 0, 1) := by decide +kernel
theorem dX7_init_52 : decode cX7_init 52 = .ok (.iconst 0, 1) := by decide +kernel
theorem dX7_init_53 : decode cX7_init 53 = .ok (.putfield 34, 3) := by decide +kernel
theorem dX7_init_56 : decode cX7_init 56 = .ok (.return_, 1) := by decide +kernel
theorem dX7_add_0 : decode cX7_add 0 = .ok (.aload_n 0, 1) := by decide +kernel
theorem dX7_add_1 : decode cX7_add 1 = .ok (.getfield 34, 3) := by decide +kernel
theorem dX7_add_4 : decode cX7_add 4 = .ok (.aload_n 0, 1) := by decide +kernel
theorem dX7_add_5 : decode cX7_add 5 = .ok (.getfield 19, 3) := by decide +kernel
theorem dX7_add_8 : decode cX7_add 8 = .ok (.arraylength, 1) := by decide +kernel
theorem dX7_add_9 : decode cX7_add 9 = .ok (.if_icmp .eq 22, 3) := by decide +kernel
theorem dX7_add_12 : decode cX7_add 12 = .ok (.aload_n 0, 1) := by decide +kernel
theorem dX7_add_13 : decode cX7_add 13 = .ok (.getfield 15, 3) := by decide +kernel
theorem dX7_add_16 : decode cX7_add 16 = .ok (.aload_n 0, 1) := by decide +kernel
theorem dX7_add_17 : decode cX7_add 17 = .ok (.getfield 34, 3) := by decide +kernel
theorem dX7_add_20 : decode cX7_add 20 = .ok (.iaload, 1) := by decide +kernel
theorem dX7_add_21 : decode cX7_add 21 = .ok (.iload_n 3, 1) := by decide +kernel
theorem dX7_add_22 : decode cX7_add 22 = .ok (.iadd, 1) := by decide +kernel
theorem dX7_add_23 : decode cX7_add 23 = .ok (.aload_n 0, 1) := by decide +kernel
theorem dX7_add_24 : decode cX7_add 24 = .ok (.getfield 9, 3) := by decide +kernel
theorem dX7_add_27 : decode cX7_add 27 = .ok (.arraylength, 1) := by decide +kernel
theorem dX7_add_28 : decode cX7_add 28 = .ok (.if_icmp .le 5, 3) := by decide +kernel
theorem dX7_add_33 : decode cX7_add 33 = .ok (.iconst 0, 1) := by decide +kernel
theorem dX7_add_34 : decode cX7_add 34 = .ok (.istore 4, 2) := by decide +kernel
theorem dX7_add_36 : decode cX7_add 36 = .ok (.iload_n 2, 1) := by decide +kernel
theorem dX7_add_37 : decode cX7_add 37 = .ok (.istore 5, 2) := by decide +kernel
theorem dX7_add_39 : decode cX7_add 39 = .ok (.iload 5, 2) := by decide +kernel
theorem dX7_add_41 : decode cX7_add 41 = .ok (.iload_n 2, 1) := by decide +kernel
theorem dX7_add_42 : decode cX7_add 42 = .ok (.iload_n 3, 1) := by decide +kernel
theorem dX7_add_43 : decode cX7_add 43 = .ok (.iadd, 1) := by decide +kernel
theorem dX7_add_44 : decode cX7_add 44 = .ok (.if_icmp .ge 21, 3) := by decide +kernel
theorem dX7_add_47 : decode cX7_add 47 = .ok (.bipush 31, 2) := by decide +kernel
theorem dX7_add_49 : decode cX7_add 49 = .ok (.iload 4, 2) := by decide +kernel
theorem dX7_add_51 : decode cX7_add 51 = .ok (.imul, 1) := by decide +kernel
theorem dX7_add_52 : decode cX7_add 52 = .ok (.aload_n 1, 1) := by decide +kernel
theorem dX7_add_53 : decode cX7_add 53 = .ok (.iload 5, 2) := by decide +kernel
theorem dX7_add_55 : decode cX7_add 55 = .ok (.baload, 1) := by decide +kernel
theorem dX7_add_56 : decode cX7_add 56 = .ok (.iadd, 1) := by decide +kernel
theorem dX7_add_57 : decode cX7_add 57 = .ok (.istore 4, 2) := by decide +kernel
theorem dX7_add_59 : decode cX7_add 59 = .ok (.iinc 5 1, 3) := by decide +kernel
theorem dX7_add_62 : decode cX7_add 62 = .ok (.goto (-23), 3) := by decide +kernel
theorem dX7_add_65 : decode cX7_add 65 = .ok (.aload_n 1, 1) := by decide +kernel
theorem dX7_add_66 : decode cX7_add 66 = .ok (.iload_n 2, 1) := by decide +kernel
theorem dX7_add_67 : decode cX7_add 67 = .ok (.aload_n 0, 1) := by decide +kernel
theorem dX7_add_68 : decode cX7_add 68 = .ok (.getfield 9, 3) := by decide +kernel
theorem dX7_add_71 : decode cX7_add 71 = .ok (.aload_n 0, 1) := by decide +kernel
theorem dX7_add_72 : decode cX7_add 72 = .ok (.getfield 15, 3) := by decide +kernel
theorem dX7_add_75 : decode cX7_add 75 = .ok (.aload_n 0, 1) := by decide +kernel
theorem dX7_add_76 : decode cX7_add 76 = .ok (.getfield 34, 3) := by decide +kernel
theorem dX7_add_79 : decode cX7_add 79 = .ok (.iaload, 1) := by decide +kernel
theorem dX7_add_80 : decode cX7_add 80 = .ok (.iload_n 3, 1) := by decide +kernel
theorem dX7_add_81 : decode cX7_add 81 = .ok (.invokestatic 38, 3) := by decide +kernel
theorem dX7_add_84 : decode cX7_add 84 = .ok (.aload_n 0, 1) := by decide +kernel
theorem dX7_add_85 : decode cX7_add 85 = .ok (.getfield 15, 3) := by decide +kernel
theorem dX7_add_88 : decode cX7_add 88 = .ok (.aload_n 0, 1) := by decide +kernel
theorem dX7_add_89 : decode cX7_add 89 = .ok (.getfield 34, 3) := by decide +kernel
theorem dX7_add_92 : decode cX7_add 92 = .ok (.iconst 1, 1) := by decide +kernel
theorem dX7_add_93 : decode cX7_add 93 = .ok (.iadd, 1) := by decide +kernel
theorem dX7_add_94 : decode cX7_add 94 = .ok (.aload_n 0, 1) := by decide +kernel
theorem dX7_add_95 : decode cX7_add 95 = .ok (.getfield 15, 3) := by decide +kernel
theorem dX7_add_98 : decode cX7_add 98 = .ok (.aload_n 0, 1) := by decide +kernel
theorem dX7_add_99 : decode cX7_add 99 = .ok (.getfield 34, 3) := by decide +kernel
theorem dX7_add_102 : decode cX7_add 102 = .ok (.iaload, 1) := by decide +kernel
theorem dX7_add_103 : decode cX7_add 103 = .ok (.iload_n 3, 1) := by decide +kernel
theorem dX7_add_104 : decode cX7_add 104 = .ok (.iadd, 1) := by decide +kernel
theorem dX7_add_105 : decode cX7_add 105 = .ok (.iastore, 1) := by decide +kernel
theorem dX7_add_106 : decode cX7_add 106 = .ok (.aload_n 0, 1) := by decide +kernel
theorem dX7_add_107 : decode cX7_add 107 = .ok (.getfield 22, 3) := by decide +kernel
theorem dX7_add_110 : decode cX7_add 110 = .ok (.aload_n 0, 1) := by decide +kernel
theorem dX7_add_111 : decode cX7_add 111 = .ok (.getfield 34, 3) := by decide +kernel
theorem dX7_add_114 : decode cX7_add 114 = .ok (.iload 4, 2) := by decide +kernel
theorem dX7_add_116 : decode cX7_add 116 = .ok (.sipush 1023, 3) := by decide +kernel
theorem dX7_add_119 : decode cX7_add 119 = .ok (.iand, 1) := by decide +kernel
theorem dX7_add_120 : decode cX7_add 120 = .ok (.iastore, 1) := by decide +kernel
theorem dX7_add_121 : decode cX7_add 121 = .ok (.aload_n 0, 1) := by decide +kernel
theorem dX7_add_122 : decode cX7_add 122 = .ok (.getfield 19, 3) := by decide +kernel
theorem dX7_add_125 : decode cX7_add 125 = .ok (.aload_n 0, 1) := by decide +kernel
theorem dX7_add_126 : decode cX7_add 126 = .ok (.getfield 34, 3) := by decide +kernel
theorem dX7_add_129 : decode cX7_add 129 = .ok (.aload_n 0, 1) := by decide +kernel
theorem dX7_add_130 : decode cX7_add 130 = .ok (.getfield 25, 3) := by decide +kernel
theorem dX7_add_133 : decode cX7_add 133 = .ok (.aload_n 0, 1) := by decide +kernel
theorem dX7_add_134 : decode cX7_add 134 = .ok (.getfield 22, 3) := by decide +kernel
theorem dX7_add_137 : decode cX7_add 137 = .ok (.aload_n 0, 1) := by decide +kernel
theorem dX7_add_138 : decode cX7_add 138 = .ok (.getfield 34, 3) := by decide +kernel
theorem dX7_add_141 : decode cX7_add 141 = .ok (.iaload, 1) := by decide +kernel
theorem dX7_add_142 : decode cX7_add 142 = .ok (.iaload, 1) := by decide +kernel
theorem dX7_add_143 : decode cX7_add 143 = .ok (.iastore, 1) := by decide +kernel
theorem dX7_add_144 : decode cX7_add 144 = .ok (.aload_n 0, 1) := by decide +kernel
theorem dX7_add_145 : decode cX7_add 145 = .ok (.getfield 25, 3) := by decide +kernel
theorem dX7_add_148 : decode cX7_add 148 = .ok (.aload_n 0, 1) := by decide +kernel
theorem dX7_add_149 : decode cX7_add 149 = .ok (.getfield 22, 3) := by decide +kernel
theorem dX7_add_152 : decode cX7_add 152 = .ok (.aload_n 0, 1) := by decide +kernel
theorem dX7_add_153 : decode cX7_add 153 = .ok (.getfield 34, 3) := by decide +kernel
theorem dX7_add_156 : decode cX7_add 156 = .ok (.iaload, 1) := by decide +kernel
theorem dX7_add_157 : decode cX7_add 157 = .ok (.aload_n 0, 1) := by decide +kernel
theorem dX7_add_158 : decode cX7_add 158 = .ok (.getfield 34, 3) := by decide +kernel
theorem dX7_add_161 : decode cX7_add 161 = .ok (.iastore, 1) := by decide +kernel
theorem dX7_add_162 : decode cX7_add 162 = .ok (.aload_n 0, 1) := by decide +kernel
theorem dX7_add_163 : decode cX7_add 163 = .ok (.dup, 1) := by decide +kernel
theorem dX7_add_164 : decode cX7_add 164 = .ok (.getfield 34, 3) := by decide +kernel
theorem dX7_add_167 : decode cX7_add 167 = .ok (.dup_x1, 1) := by decide +kernel
theorem dX7_add_168 : decode cX7_add 168 = .ok (.iconst 1, 1) := by decide +kernel
theorem dX7_add_169 : decode cX7_add 169 = .ok (.iadd, 1) := by decide +kernel
theorem dX7_add_170 : decode cX7_add 170 = .ok (.putfield 34, 3) := by decide +kernel
theorem dX7_add_173 : decode cX7_add 173 = .ok (.ireturn, 1) := by decide +kernel
theorem dX8_init_0 : decode cX8_init 0 = .ok (.aload_n 0, 1) := by decide +kernel
theorem dX8_init_1 : decode cX8_init 1 = .ok (.invokespecial 3, 3) := by decide +kernel
theorem dX8_init_4 : decode cX8_init 4 = .ok (.aload_n 0, 1) := by decide +kernel
theorem dX8_init_5 : decode cX8_init 5 = .ok (.aload_n 1, 1) := by decide +kernel
theorem dX8_init_6 : decode cX8_init 6 = .ok (.putfield 9, 3) := by decide +kernel
theorem dX8_init_9 : decode cX8_init 9 = .ok (.aload_n 0, 1) := by decide +kernel
theorem dX8_init_10 : decode cX8_init 10 = .ok (.aload_n 2, 1) := by decide +kernel
theorem dX8_init_11 : decode cX8_init 11 = .ok (.putfield 15, 3) := by decide +kernel
theorem dX8_init_14 : decode cX8_init 14 = .ok (.aload_n 0, 1) := by decide +kernel
theorem dX8_init_15 : decode cX8_init 15 = .ok (.bipush 21, 2) := by decide +kernel
theorem dX8_init_17 : decode cX8_init 17 = .ok (.newarray .int, 2) := by decide +kernel
theorem dX8_init_19 : decode cX8_init 19 = .ok (.putfield 19, 3) := by decide +kernel
theorem dX8_init_22 : decode cX8_init 22 = .ok (.aload_n 0, 1) := by decide +kernel
theorem dX8_init_23 : decode cX8_init 23 = .ok (.bipush 21, 2) := by decide +kernel
theorem dX8_init_25 : decode cX8_init 25 = .ok (.newarray .int, 2) := by decide +kernel
theorem dX8_init_27 : decode cX8_init 27 = .ok (.putfield 23, 3) := by decide +kernel
theorem dX8_init_30 : decode cX8_init 30 = .ok (.aload_n 0, 1) := by decide +kernel
theorem dX8_init_31 : decode cX8_init 31 = .ok (.bipush 21, 2) := by decide +kernel
theorem dX8_init_33 : decode cX8_init 33 = .ok (.newarray .int, 2) := by decide +kernel
theorem dX8_init_35 : decode cX8_init 35 = .ok (.putfield 26, 3) := by decide +kernel
theorem dX8_init_38 : decode cX8_init 38 = .ok (.aload_n 0, 1) := by decide +kernel
theorem dX8_init_39 : decode cX8_init 39 = .ok (.bipush 21, 2) := by decide +kernel
theorem dX8_init_41 : decode cX8_init 41 = .ok (.newarray .int, 2) := by decide +kernel
theorem dX8_init_43 : decode cX8_init 43 = .ok (.putfield 29, 3) := by decide +kernel
theorem dX8_init_46 : decode cX8_init 46 = .ok (.aload_n 0, 1) := by decide +kernel
theorem dX8_init_47 : decode cX8_init 47 = .ok (.bipush 21, 2) := by decide +kernel
theorem dX8_init_49 : decode cX8_init 49 = .ok (.newarray .int, 2) := by decide +kernel
theorem dX8_init_51 : decode cX8_init 51 = .ok (.putfield 32, 3) := by decide +kernel
theorem dX8_init_54 : decode cX8_init 54 = .ok (.aload_n 0, 1) := by decide +kernel
theorem dX8_init_55 : decode cX8_init 55 = .ok (.bipush 21, 2) := by decide +kernel
theorem dX8_init_57 : decode cX8_init 57 = .ok (.newarray .int, 2) := by decide +kernel
theorem dX8_init_59 : decode cX8_init 59 = .ok (.putfield 35, 3) := by decide +kernel
theorem dX8_init_62 : decode cX8_init 62 = .ok (.aload_n 0, 1) := by decide +kernel
theorem dX8_init_63 : decode cX8_init 63 = .ok (.bipush 21, 2) := by decide +kernel
theorem dX8_init_65 : decode cX8_init 65 = .ok (.newarray .int, 2) := by decide +kernel
theorem dX8_init_67 : decode cX8_init 67 = .ok (.putfield 38, 3) := by decide +kernel
theorem dX8_init_70 : decode cX8_init 70 = .ok (.aload_n 0, 1) := by decide +kernel
theorem dX8_init_71 : decode cX8_init 71 = .ok (.bipush 21, 2) := by decide +kernel
theorem dX8_init_73 : decode cX8_init 73 = .ok (.newarray .int, 2) := by decide +kernel
theorem dX8_init_75 : decode cX8_init 75 = .ok (.putfield 41, 3) := by decide +kernel
theorem dX8_init_78 : decode cX8_init 78 = .ok (.aload_n 0, 1) := by decide +kernel
theorem dX8_init_79 : decode cX8_init 79 = .ok (.sipush 21504, 3) := by decide +kernel
theorem dX8_init_82 : decode cX8_init 82 = .ok (.newarray .byte, 2) := by decide +kernel
theorem dX8_init_84 : decode cX8_init 84 = .ok (.putfield 46, 3) := by decide +kernel
theorem dX8_init_87 : decode cX8_init 87 = .ok (.aload_n 0, 1) := by decide +kernel
theorem dX8_init_88 : decode cX8_init 88 = .ok (.sipush 10752, 3) := by decide +kernel
theorem dX8_init_91 : decode cX8_init 91 = .ok (.newarray .int, 2) := by decide +kernel
theorem dX8_init_93 : decode cX8_init 93 = .ok (.putfield 50, 3) := by decide +kernel
theorem dX8_init_96 : decode cX8_init 96 = .ok (.aload_n 0, 1) := by decide +kernel
theorem dX8_init_97 : decode cX8_init 97 = .ok (.sipush 10752, 3) := by decide +kernel
theorem dX8_init_100 : decode cX8_init 100 = .ok (.newarray .int, 2) := by decide +kernel
theorem dX8_init_102 : decode cX8_init 102 = .ok (.putfield 53, 3) := by decide +kernel
theorem dX8_init_105 : decode cX8_init 105 = .ok (.aload_n 0, 1) := by decide +kernel
theorem dX8_init_106 : decode cX8_init 106 = .ok (.bipush 20, 2) := by decide +kernel
theorem dX8_init_108 : decode cX8_init 108 = .ok (.newarray .boolean, 2) := by decide +kernel
theorem dX8_init_110 : decode cX8_init 110 = .ok (.putfield 56, 3) := by decide +kernel
theorem dX8_init_113 : decode cX8_init 113 = .ok (.return_, 1) := by decide +kernel
theorem dX9_init_0 : decode cX9_init 0 = .ok (.aload_n 0, 1) := by decide +kernel
theorem dX9_init_1 : decode cX9_init 1 = .ok (.invokespecial 3, 3) := by decide +kernel
theorem dX9_init_4 : decode cX9_init 4 = .ok (.aload_n 0, 1) := by decide +kernel
theorem dX9_init_5 : decode cX9_init 5 = .ok (.aload_n 1, 1) := by decide +kernel
theorem dX9_init_6 : decode cX9_init 6 = .ok (.putfield 9, 3) := by decide +kernel
theorem dX9_init_9 : decode cX9_init 9 = .ok (.aload_n 0, 1) := by decide +kernel
theorem dX9_init_10 : decode cX9_init 10 = .ok (.aload_n 2, 1) := by decide +kernel
theorem dX9_init_11 : decode cX9_init 11 = .ok (.putfield 15, 3) := by decide +kernel
theorem dX9_init_14 : decode cX9_init 14 = .ok (.aload_n 0, 1) := by decide +kernel
theorem dX9_init_15 : decode cX9_init 15 = .ok (.ldc 19, 2) := by decide +kernel
theorem dX9_init_17 : decode cX9_init 17 = .ok (.newarray .int, 2) := by decide +kernel
theorem dX9_init_19 : decode cX9_init 19 = .ok (.putfield 20, 3) := by decide +kernel
theorem dX9_init_22 : decode cX9_init 22 = .ok (.aload_n 0, 1) := by decide +kernel
theorem dX9_init_23 : decode cX9_init 23 = .ok (.ldc 24, 2) := by decide +kernel
theorem dX9_init_25 : decode cX9_init 25 = .ok (.newarray .byte, 2) := by decide +kernel
theorem dX9_init_27 : decode cX9_init 27 = .ok (.putfield 25, 3) := by decide +kernel
theorem dX9_init_30 : decode cX9_init 30 = .ok (.aload_n 0, 1) := by decide +kernel
theorem dX9_init_31 : decode cX9_init 31 = .ok (.ldc 19, 2) := by decide +kernel
theorem dX9_init_33 : decode cX9_init 33 = .ok (.newarray .int, 2) := by decide +kernel
theorem dX9_init_35 : decode cX9_init 35 = .ok (.putfield 28, 3) := by decide +kernel
theorem dX9_init_38 : decode cX9_init 38 = .ok (.aload_n 0, 1) := by decide +kernel
theorem dX9_init_39 : decode cX9_init 39 = .ok (.ldc 19, 2) := by decide +kernel
theorem dX9_init_41 : decode cX9_init 41 = .ok (.newarray .int, 2) := by decide +kernel
theorem dX9_init_43 : decode cX9_init 43 = .ok (.putfield 31, 3) := by decide +kernel
theorem dX9_init_46 : decode cX9_init 46 = .ok (.aload_n 0, 1) := by decide +kernel
theorem dX9_init_47 : decode cX9_init 47 = .ok (.ldc 19, 2) := by decide +kernel
theorem dX9_init_49 : decode cX9_init 49 = .ok (.newarray .int, 2) := by decide +kernel
theorem dX9_init_51 : decode cX9_init 51 = .ok (.putfield 34, 3) := by decide +kernel
theorem dX9_init_54 : decode cX9_init 54 = .ok (.aload_n 0, 1) := by decide +kernel
theorem dX9_init_55 : decode cX9_init 55 = .ok (.new 37, 3) := by decide +kernel
theorem dX9_init_58 : decode cX9_init 58 = .ok (.dup, 1) := by decide +kernel
theorem dX9_init_59 : decode cX9_init 59 = .ok (.sipush 5500, 3) := by decide +kernel
theorem dX9_init_62 : decode cX9_init 62 = .ok (.ldc 39, 2) := by decide +kernel
theorem dX9_init_64 : decode cX9_init 64 = .ok (.invokespecial 40, 3) := by decide +kernel
theorem dX9_init_67 : decode cX9_init 67 = .ok (.putfield 43, 3) := by decide +kernel
theorem dX9_init_70 : decode cX9_init 70 = .ok (.aload_n 0, 1) := by decide +kernel
theorem dX9_init_71 : decode cX9_init 71 = .ok (.sipush 5500, 3) := by decide +kernel
theorem dX9_init_74 : decode cX9_init 74 = .ok (.newarray .int, 2) := by decide +kernel
theorem dX9_init_76 : decode cX9_init 76 = .ok (.putfield 46, 3) := by decide +kernel
theorem dX9_init_79 : decode cX9_init 79 = .ok (.aload_n 0, 1) := by decide +kernel
theorem dX9_init_80 : decode cX9_init 80 = .ok (.sipush 5500, 3) := by decide +kernel
theorem dX9_init_83 : decode cX9_init 83 = .ok (.newarray .int, 2) := by decide +kernel
theorem dX9_init_85 : decode cX9_init 85 = .ok (.putfield 49, 3) := by decide +kernel
theorem dX9_init_88 : decode cX9_init 88 = .ok (.aload_n 0, 1) := by decide +kernel
theorem dX9_init_89 : decode cX9_init 89 = .ok (.sipush 5501, 3) := by decide +kernel
theorem dX9_init_92 : decode cX9_init 92 = .ok (.newarray .int, 2) := by decide +kernel
theorem dX9_init_94 : decode cX9_init 94 = .ok (.putfield 52, 3) := by decide +kernel
theorem dX9_init_97 : decode cX9_init 97 = .ok (.aload_n 0, 1) := by decide +kernel
theorem dX9_init_98 : decode cX9_init 98 = .ok (.ldc 55, 2) := by decide +kernel
theorem dX9_init_100 : decode cX9_init 100 = .ok (.newarray .int, 2) := by decide +kernel
theorem dX9_init_102 : decode cX9_init 102 = .ok (.putfield 56, 3) := by decide +kernel
theorem dX9_init_105 : decode cX9_init 105 = .ok (.aload_n 0, 1) := by decide +kernel
theorem dX9_init_106 : decode cX9_init 106 = .ok (.ldc 55, 2) := by decide +kernel
theorem dX9_init_108 : decode cX9_init 108 = .ok (.newarray .int, 2) := by decide +kernel
theorem dX9_init_110 : decode cX9_init 110 = .ok (.putfield 59, 3) := by decide +kernel
theorem dX9_init_113 : decode cX9_init 113 = .ok (.aload_n 0, 1) := by decide +kernel
theorem dX9_init_114 : decode cX9_init 114 = .ok (.iconst 0, 1) := by decide +kernel
theorem dX9_init_115 : decode cX9_init 115 = .ok (.putfield 62, 3) := by decide +kernel
theorem dX9_init_118 : decode cX9_init 118 = .ok (.return_, 1) := by decide +kernel
theorem dX10_init_0 : decode cX10_init 0 = .ok (.aload_n 0, 1) := by decide +kernel
theorem dX10_init_1 : decode cX10_init 1 = .ok (.invokespecial 3, 3) := by decide +kernel
theorem dX10_init_4 : decode cX10_init 4 = .ok (.aload_n 0, 1) := by decide +kernel
theorem dX10_init_5 : decode cX10_init 5 = .ok (.new 9, 3) := by decide +kernel
theorem dX10_init_8 : decode cX10_init 8 = .ok (.dup, 1) := by decide +kernel
theorem dX10_init_9 : decode cX10_init 9 = .ok (.sipush 1024, 3) := by decide +kernel
theorem dX10_init_12 : decode cX10_init 12 = .ok (.ldc 13, 2) := by decide +kernel
theorem dX10_init_14 : decode cX10_init 14 = .ok (.invokespecial 14, 3) := by decide +kernel
theorem dX10_init_17 : decode cX10_init 17 = .ok (.putfield 17, 3) := by decide +kernel
theorem dX10_init_20 : decode cX10_init 20 = .ok (.aload_n 0, 1) := by decide +kernel
theorem dX10_init_21 : decode cX10_init 21 = .ok (.sipush 1024, 3) := by decide +kernel
theorem dX10_init_24 : decode cX10_init 24 = .ok (.bipush 6, 2) := by decide +kernel
theorem dX10_init_26 : decode cX10_init 26 = .ok (.multianewarray 21 2, 4) := by decide +kernel
theorem dX10_init_30 : decode cX10_init 30 = .ok (.putfield 23, 3) := by decide +kernel
theorem dX10_init_33 : decode cX10_init 33 = .ok (.aload_n 0, 1) := by decide +kernel
theorem dX10_init_34 : decode cX10_init 34 = .ok (.sipush 1024, 3) := by decide +kernel
theorem dX10_init_37 : decode cX10_init 37 = .ok (.newarray .long, 2) := by decide +kernel
theorem dX10_init_39 : decode cX10_init 39 = .ok (.putfield 26, 3) := by decide +kernel
theorem dX10_init_42 : decode cX10_init 42 = .ok (.aload_n 0, 1) := by decide +kernel
theorem dX10_init_43 : decode cX10_init 43 = .ok (.sipush 1024, 3) := by decide +kernel
theorem dX10_init_46 : decode cX10_init 46 = .ok (.newarray .int, 2) := by decide +kernel
theorem dX10_init_48 : decode cX10_init 48 = .ok (.putfield 30, 3) := by decide +kernel
theorem dX10_init_51 : decode cX10_init 51 = .ok (.aload_n 0, 1) := by decide +kernel
theorem dX10_init_52 : decode cX10_init 52 = .ok (.sipush 8192, 3) := by decide +kernel
theorem dX10_init_55 : decode cX10_init 55 = .ok (.bipush 7, 2) := by decide +kernel
theorem dX10_init_57 : decode cX10_init 57 = .ok (.multianewarray 21 2, 4) := by decide +kernel
theorem dX10_init_61 : decode cX10_init 61 = .ok (.putfield 34, 3) := by decide +kernel
theorem dX10_init_64 : decode cX10_init 64 = .ok (.aload_n 0, 1) := by decide +kernel
theorem dX10_init_65 : decode cX10_init 65 = .ok (.sipush 4096, 3) := by decide +kernel
theorem dX10_init_68 : decode cX10_init 68 = .ok (.bipush 6, 2) := by decide +kernel
theorem dX10_init_70 : decode cX10_init 70 = .ok (.multianewarray 21 2, 4) := by decide +kernel
theorem dX10_init_74 : decode cX10_init 74 = .ok (.putfield 37, 3) := by decide +kernel
theorem dX10_init_77 : decode cX10_init 77 = .ok (.aload_n 0, 1) := by decide +kernel
theorem dX10_init_78 : decode cX10_init 78 = .ok (.sipush 4096, 3) := by decide +kernel
theorem dX10_init_81 : decode cX10_init 81 = .ok (.newarray .long, 2) := by decide +kernel
theorem dX10_init_83 : decode cX10_init 83 = .ok (.putfield 40, 3) := by decide +kernel
theorem dX10_init_86 : decode cX10_init 86 = .ok (.aload_n 0, 1) := by decide +kernel
theorem dX10_init_87 : decode cX10_init 87 = .ok (.ldc 43, 2) := by decide +kernel
theorem dX10_init_89 : decode cX10_init 89 = .ok (.newarray .byte, 2) := by decide +kernel
theorem dX10_init_91 : decode cX10_init 91 = .ok (.putfield 44, 3) := by decide +kernel
theorem dX10_init_94 : decode cX10_init 94 = .ok (.aload_n 0, 1) := by decide +kernel
theorem dX10_init_95 : decode cX10_init 95 = .ok (.ldc 43, 2) := by decide +kernel
theorem dX10_init_97 : decode cX10_init 97 = .ok (.newarray .byte, 2) := by decide +kernel
theorem dX10_init_99 : decode cX10_init 99 = .ok (.putfield 48, 3) := by decide +kernel
theorem dX10_init_102 : decode cX10_init 102 = .ok (.aload_n 0, 1) := by decide +kernel
theorem dX10_init_103 : decode cX10_init 103 = .ok (.bipush 33, 2) := by decide +kernel
theorem dX10_init_105 : decode cX10_init 105 = .ok (.bipush 17, 2) := by decide +kernel
theorem dX10_init_107 : decode cX10_init 107 = .ok (.multianewarray 21 2, 4) := by decide +kernel
theorem dX10_init_111 : decode cX10_init 111 = .ok (.putfield 51, 3) := by decide +kernel
theorem dX10_init_114 : decode cX10_init 114 = .ok (.aload_n 0, 1) := by decide +kernel
theorem dX10_init_115 : decode cX10_init 115 = .ok (.iconst 4, 1) := by decide +kernel
theorem dX10_init_116 : decode cX10_init 116 = .ok (.newarray .int, 2) := by decide +kernel
theorem dX10_init_118 : decode cX10_init 118 = .ok (.putfield 54, 3) := by decide +kernel
theorem dX10_init_121 : decode cX10_init 121 = .ok (.return_, 1) := by decide +kernel
theorem dX11_init_0 : decode cX11_init 0 = .ok (.aload_n 0, 1) := by decide +kernel
theorem dX11_init_1 : decode cX11_init 1 = .ok (.invokespecial 1, 3) := by decide +kernel
theorem dX11_init_4 : decode cX11_init 4 = .ok (.ldc 9, 2) := by decide +kernel
theorem dX11_init_6 : decode cX11_init 6 = .ok (.newarray .byte, 2) := by decide +kernel
theorem dX11_init_8 : decode cX11_init 8 = .ok (.astore_n 1, 1) := by decide +kernel
theorem dX11_init_9 : decode cX11_init 9 = .ok (.new 10, 3) := by decide +kernel
theorem dX11_init_12 : decode cX11_init 12 = .ok (.dup, 1) := by decide +kernel
theorem dX11_init_13 : decode cX11_init 13 = .ok (.invokespecial 12, 3) := by decide +kernel
theorem dX11_init_16 : decode cX11_init 16 = .ok (.astore_n 2, 1) := by decide +kernel
theorem dX11_init_17 : decode cX11_init 17 = .ok (.aload_n 0, 1) := by decide +kernel
theorem dX11_init_18 : decode cX11_init 18 = .ok (.aload_n 1, 1) := by decide +kernel
theorem dX11_init_19 : decode cX11_init 19 = .ok (.putfield 13, 3) := by decide +kernel
theorem dX11_init_22 : decode cX11_init 22 = .ok (.aload_n 0, 1) := by decide +kernel
theorem dX11_init_23 : decode cX11_init 23 = .ok (.aload_n 2, 1) := by decide +kernel
theorem dX11_init_24 : decode cX11_init 24 = .ok (.putfield 17, 3) := by decide +kernel
theorem dX11_init_27 : decode cX11_init 27 = .ok (.aload_n 0, 1) := by decide +kernel
theorem dX11_init_28 : decode cX11_init 28 = .ok (.new 21, 3) := by decide +kernel
theorem dX11_init_31 : decode cX11_init 31 = .ok (.dup, 1) := by decide +kernel
theorem dX11_init_32 : decode cX11_init 32 = .ok (.aload_n 1, 1) := by decide +kernel
theorem dX11_init_33 : decode cX11_init 33 = .ok (.aload_n 2, 1) := by decide +kernel
theorem dX11_init_34 : decode cX11_init 34 = .ok (.invokespecial 23, 3) := by decide +kernel
theorem dX11_init_37 : decode cX11_init 37 = .ok (.putfield 26, 3) := by decide +kernel
theorem dX11_init_40 : decode cX11_init 40 = .ok (.aload_n 0, 1) := by decide +kernel
theorem dX11_init_41 : decode cX11_init 41 = .ok (.new 30, 3) := by decide +kernel
theorem dX11_init_44 : decode cX11_init 44 = .ok (.dup, 1) := by decide +kernel
theorem dX11_init_45 : decode cX11_init 45 = .ok (.aload_n 2, 1) := by decide +kernel
theorem dX11_init_46 : decode cX11_init 46 = .ok (.invokespecial 32, 3) := by decide +kernel
theorem dX11_init_49 : decode cX11_init 49 = .ok (.putfield 35, 3) := by decide +kernel
theorem dX11_init_52 : decode cX11_init 52 = .ok (.aload_n 0, 1) := by decide +kernel
theorem dX11_init_53 : decode cX11_init 53 = .ok (.new 39, 3) := by decide +kernel
theorem dX11_init_56 : decode cX11_init 56 = .ok (.dup, 1) := by decide +kernel
theorem dX11_init_57 : decode cX11_init 57 = .ok (.invokespecial 41, 3) := by decide +kernel
theorem dX11_init_60 : decode cX11_init 60 = .ok (.putfield 42, 3) := by decide +kernel
theorem dX11_init_63 : decode cX11_init 63 = .ok (.aload_n 0, 1) := by decide +kernel
theorem dX11_init_64 : decode cX11_init 64 = .ok (.iconst 0, 1) := by decide +kernel
theorem dX11_init_65 : decode cX11_init 65 = .ok (.putfield 46, 3) := by decide +kernel
theorem dX11_init_68 : decode cX11_init 68 = .ok (.aload_n 0, 1) := by decide +kernel
theorem dX11_init_69 : decode cX11_init 69 = .ok (.iconst 0, 1) := by decide +kernel
theorem dX11_init_70 : decode cX11_init 70 = .ok (.putfield 50, 3) := by decide +kernel
theorem dX11_init_73 : decode cX11_init 73 = .ok (.aload_n 0, 1) := by decide +kernel
theorem dX11_init_74 : decode cX11_init 74 = .ok (.iconst 0, 1) := by decide +kernel
theorem dX11_init_75 : decode cX11_init 75 = .ok (.putfield 53, 3) := by decide +kernel
theorem dX11_init_78 : decode cX11_init 78 = .ok (.aload_n 0, 1) := by decide +kernel
theorem dX11_init_79 : decode cX11_init 79 = .ok (.iconst (-1), 1) := by decide +kernel
theorem dX11_init_80 : decode cX11_init 80 = .ok (.putfield 56, 3) := by decide +kernel
theorem dX11_init_83 : decode cX11_init 83 = .ok (.return_, 1) := by decide +kernel
theorem dX12_init_0 : decode cX12_init 0 = .ok (.aload_n 0, 1) := by decide +kernel
theorem dX12_init_1 : decode cX12_init 1 = .ok (.invokespecial 3, 3) := by decide +kernel
theorem dX12_init_4 : decode cX12_init 4 = .ok (.aload_n 0, 1) := by decide +kernel
theorem dX12_init_5 : decode cX12_init 5 = .ok (.sipush 8194, 3) := by decide +kernel
theorem dX12_init_8 : decode cX12_init 8 = .ok (.newarray .int, 2) := by decide +kernel
theorem dX12_init_10 : decode cX12_init 10 = .ok (.putfield 9, 3) := by decide +kernel
theorem dX12_init_13 : decode cX12_init 13 = .ok (.aload_n 0, 1) := by decide +kernel
theorem dX12_init_14 : decode cX12_init 14 = .ok (.sipush 8194, 3) := by decide +kernel
theorem dX12_init_17 : decode cX12_init 17 = .ok (.newarray .int, 2) := by decide +kernel
theorem dX12_init_19 : decode cX12_init 19 = .ok (.putfield 15, 3) := by decide +kernel
theorem dX12_init_22 : decode cX12_init 22 = .ok (.aload_n 0, 1) := by decide +kernel
theorem dX12_init_23 : decode cX12_init 23 = .ok (.sipush 8194, 3) := by decide +kernel
theorem dX12_init_26 : decode cX12_init 26 = .ok (.newarray .long, 2) := by decide +kernel
theorem dX12_init_28 : decode cX12_init 28 = .ok (.putfield 18, 3) := by decide +kernel
theorem dX12_init_31 : decode cX12_init 31 = .ok (.aload_n 0, 1) := by decide +kernel
theorem dX12_init_32 : decode cX12_init 32 = .ok (.sipush 8194, 3) := by decide +kernel
theorem dX12_init_35 : decode cX12_init 35 = .ok (.newarray .long, 2) := by decide +kernel
theorem dX12_init_37 : decode cX12_init 37 = .ok (.putfield 22, 3) := by decide +kernel
theorem dX12_init_40 : decode cX12_init 40 = .ok (.aload_n 0, 1) := by decide +kernel
theorem dX12_init_41 : decode cX12_init 41 = .ok (.sipush 8194, 3) := by decide +kernel
theorem dX12_init_44 : decode cX12_init 44 = .ok (.newarray .long, 2) := by decide +kernel
theorem dX12_init_46 : decode cX12_init 46 = .ok (.putfield 25, 3) := by decide +kernel
theorem dX12_init_49 : decode cX12_init 49 = .ok (.return_, 1) := by decide +kernel
theorem dX13_init_0 : decode cX13_init 0 = .ok (.aload_n 0, 1) := by decide +kernel
theorem dX13_init_1 : decode cX13_init 1 = .ok (.invokespecial 1, 3) := by decide +kernel
theorem dX13_init_4 : decode cX13_init 4 = .ok (.aload_n 0, 1) := by decide +kernel
theorem dX13_init_5 : decode cX13_init 5 = .ok (.ldc 9, 2) := by decide +kernel
theorem dX13_init_7 : decode cX13_init 7 = .ok (.newarray .byte, 2) := by decide +kernel
theorem dX13_init_9 : decode cX13_init 9 = .ok (.putfield 10, 3) := by decide +kernel
theorem dX13_init_12 : decode cX13_init 12 = .ok (.aload_n 0, 1) := by decide +kernel
theorem dX13_init_13 : decode cX13_init 13 = .ok (.sipush 200, 3) := by decide +kernel
theorem dX13_init_16 : decode cX13_init 16 = .ok (.newarray .long, 2) := by decide +kernel
theorem dX13_init_18 : decode cX13_init 18 = .ok (.putfield 14, 3) := by decide +kernel
theorem dX13_init_21 : decode cX13_init 21 = .ok (.aload_n 0, 1) := by decide +kernel
theorem dX13_init_22 : decode cX13_init 22 = .ok (.bipush 50, 2) := by decide +kernel
theorem dX13_init_24 : decode cX13_init 24 = .ok (.newarray .long, 2) := by decide +kernel
theorem dX13_init_26 : decode cX13_init 26 = .ok (.putfield 18, 3) := by decide +kernel
theorem dX13_init_29 : decode cX13_init 29 = .ok (.aload_n 0, 1) := by decide +kernel
theorem dX13_init_30 : decode cX13_init 30 = .ok (.sipush 200, 3) := by decide +kernel
theorem dX13_init_33 : decode cX13_init 33 = .ok (.newarray .int, 2) := by decide +kernel
theorem dX13_init_35 : decode cX13_init 35 = .ok (.putfield 21, 3) := by decide +kernel
theorem dX13_init_38 : decode cX13_init 38 = .ok (.aload_n 0, 1) := by decide +kernel
theorem dX13_init_39 : decode cX13_init 39 = .ok (.bipush 50, 2) := by decide +kernel
theorem dX13_init_41 : decode cX13_init 41 = .ok (.newarray .int, 2) := by decide +kernel
theorem dX13_init_43 : decode cX13_init 43 = .ok (.putfield 25, 3) := by decide +kernel
theorem dX13_init_46 : decode cX13_init 46 = .ok (.aload_n 0, 1) := by decide +kernel
theorem dX13_init_47 : decode cX13_init 47 = .ok (.sipush 1025, 3) := by decide +kernel
theorem dX13_init_50 : decode cX13_init 50 = .ok (.newarray .int, 2) := by decide +kernel
theorem dX13_init_52 : decode cX13_init 52 = .ok (.putfield 28, 3) := by decide +kernel
theorem dX13_init_55 : decode cX13_init 55 = .ok (.aload_n 0, 1) := by decide +kernel
theorem dX13_init_56 : decode cX13_init 56 = .ok (.bipush 32, 2) := by decide +kernel
theorem dX13_init_58 : decode cX13_init 58 = .ok (.newarray .boolean, 2) := by decide +kernel
theorem dX13_init_60 : decode cX13_init 60 = .ok (.putfield 31, 3) := by decide +kernel
theorem dX13_init_63 : decode cX13_init 63 = .ok (.aload_n 0, 1) := by decide +kernel
theorem dX13_init_64 : decode cX13_init 64 = .ok (.bipush 33, 2) := by decide +kernel
theorem dX13_init_66 : decode cX13_init 66 = .ok (.newarray .int, 2) := by decide +kernel
theorem dX13_init_68 : decode cX13_init 68 = .ok (.putfield 35, 3) := by decide +kernel
theorem dX13_init_71 : decode cX13_init 71 = .ok (.aload_n 0, 1) := by decide +kernel
theorem dX13_init_72 : decode cX13_init 72 = .ok (.bipush 33, 2) := by decide +kernel
theorem dX13_init_74 : decode cX13_init 74 = .ok (.newarray .int, 2) := by decide +kernel
theorem dX13_init_76 : decode cX13_init 76 = .ok (.putfield 38, 3) := by decide +kernel
theorem dX13_init_79 : decode cX13_init 79 = .ok (.aload_n 0, 1) := by decide +kernel
theorem dX13_init_80 : decode cX13_init 80 = .ok (.bipush 33, 2) := by decide +kernel
theorem dX13_init_82 : decode cX13_init 82 = .ok (.newarray .int, 2) := by decide +kernel
theorem dX13_init_84 : decode cX13_init 84 = .ok (.putfield 41, 3) := by decide +kernel
theorem dX13_init_87 : decode cX13_init 87 = .ok (.aload_n 0, 1) := by decide +kernel
theorem dX13_init_88 : decode cX13_init 88 = .ok (.sipush 128, 3) := by decide +kernel
theorem dX13_init_91 : decode cX13_init 91 = .ok (.newarray .int, 2) := by decide +kernel
theorem dX13_init_93 : decode cX13_init 93 = .ok (.putfield 44, 3) := by decide +kernel
theorem dX13_init_96 : decode cX13_init 96 = .ok (.aload_n 0, 1) := by decide +kernel
theorem dX13_init_97 : decode cX13_init 97 = .ok (.sipush 128, 3) := by decide +kernel
theorem dX13_init_100 : decode cX13_init 100 = .ok (.newarray .boolean, 2) := by decide +kernel
theorem dX13_init_102 : decode cX13_init 102 = .ok (.putfield 47, 3) := by decide +kernel
theorem dX13_init_105 : decode cX13_init 105 = .ok (.aload_n 0, 1) := by decide +kernel
theorem dX13_init_106 : decode cX13_init 106 = .ok (.iconst (-1), 1) := by decide +kernel
theorem dX13_init_107 : decode cX13_init 107 = .ok (.putfield 50, 3) := by decide +kernel
theorem dX13_init_110 : decode cX13_init 110 = .ok (.aload_n 0, 1) := by decide +kernel
theorem dX13_init_111 : decode cX13_init 111 = .ok (.ldc 54, 2) := by decide +kernel
theorem dX13_init_113 : decode cX13_init 113 = .ok (.newarray .byte, 2) := by decide +kernel
theorem dX13_init_115 : decode cX13_init 115 = .ok (.putfield 55, 3) := by decide +kernel
theorem dX13_init_118 : decode cX13_init 118 = .ok (.aload_n 0, 1) := by decide +kernel
theorem dX13_init_119 : decode cX13_init 119 = .ok (.sipush 1025, 3) := by decide +kernel
theorem dX13_init_122 : decode cX13_init 122 = .ok (.newarray .int, 2) := by decide +kernel
theorem dX13_init_124 : decode cX13_init 124 = .ok (.putfield 58, 3) := by decide +kernel
theorem dX13_init_127 : decode cX13_init 127 = .ok (.aload_n 0, 1) := by decide +kernel
theorem dX13_init_128 : decode cX13_init 128 = .ok (.sipush 1025, 3) := by decide +kernel
theorem dX13_init_131 : decode cX13_init 131 = .ok (.newarray .int, 2) := by decide +kernel
theorem dX13_init_133 : decode cX13_init 133 = .ok (.putfield 61, 3) := by decide +kernel
theorem dX13_init_136 : decode cX13_init 136 = .ok (.aload_n 0, 1) := by decide +kernel
theorem dX13_init_137 : decode cX13_init 137 = .ok (.sipush 1025, 3) := by decide +kernel
theorem dX13_init_140 : decode cX13_init 140 = .ok (.newarray .long, 2) := by decide +kernel
theorem dX13_init_142 : decode cX13_init 142 = .ok (.putfield 64, 3) := by decide +kernel
theorem dX13_init_145 : decode cX13_init 145 = .ok (.aload_n 0, 1) := by decide +kernel
theorem dX13_init_146 : decode cX13_init 146 = .ok (.sipush 1025, 3) := by decide +kernel
theorem dX13_init_149 : decode cX13_init 149 = .ok (.newarray .int, 2) := by decide +kernel
theorem dX13_init_151 : decode cX13_init 151 = .ok (.putfield 67, 3) := by decide +kernel
theorem dX13_init_154 : decode cX13_init 154 = .ok (.aload_n 0, 1) := by decide +kernel
theorem dX13_init_155 : decode cX13_init 155 = .ok (.sipush 1025, 3) := by decide +kernel
theorem dX13_init_158 : decode cX13_init 158 = .ok (.newarray .boolean, 2) := by decide +kernel
theorem dX13_init_160 : decode cX13_init 160 = .ok (.putfield 70, 3) := by decide +kernel
theorem dX13_init_163 : decode cX13_init 163 = .ok (.aload_n 0, 1) := by decide +kernel
theorem dX13_init_164 : decode cX13_init 164 = .ok (.sipush 1025, 3) := by decide +kernel
theorem dX13_init_167 : decode cX13_init 167 = .ok (.newarray .boolean, 2) := by decide +kernel
theorem dX13_init_169 : decode cX13_init 169 = .ok (.putfield 73, 3) := by decide +kernel
theorem dX13_init_172 : decode cX13_init 172 = .ok (.aload_n 0, 1) := by decide +kernel
theorem dX13_init_173 : decode cX13_init 173 = .ok (.sipush 1025, 3) := by decide +kernel
theorem dX13_init_176 : decode cX13_init 176 = .ok (.newarray .boolean, 2) := by decide +kernel
theorem dX13_init_178 : decode cX13_init 178 = .ok (.putfield 76, 3) := by decide +kernel
theorem dX13_init_181 : decode cX13_init 181 = .ok (.aload_n 0, 1) := by decide +kernel
theorem dX13_init_182 : decode cX13_init 182 = .ok (.sipush 1025, 3) := by decide +kernel
theorem dX13_init_185 : decode cX13_init 185 = .ok (.newarray .boolean, 2) := by decide +kernel
theorem dX13_init_187 : decode cX13_init 187 = .ok (.putfield 79, 3) := by decide +kernel
theorem dX13_init_190 : decode cX13_init 190 = .ok (.aload_n 0, 1) := by decide +kernel
theorem dX13_init_191 : decode cX13_init 191 = .ok (.sipush 1025, 3) := by decide +kernel
theorem dX13_init_194 : decode cX13_init 194 = .ok (.newarray .long, 2) := by decide +kernel
theorem dX13_init_196 : decode cX13_init 196 = .ok (.putfield 82, 3) := by decide +kernel
theorem dX13_init_199 : decode cX13_init 199 = .ok (.aload_n 0, 1) := by decide +kernel
theorem dX13_init_200 : decode cX13_init 200 = .ok (.sipush 9218, 3) := by decide +kernel
theorem dX13_init_203 : decode cX13_init 203 = .ok (.newarray .byte, 2) := by decide +kernel
theorem dX13_init_205 : decode cX13_init 205 = .ok (.putfield 85, 3) := by decide +kernel
theorem dX13_init_208 : decode cX13_init 208 = .ok (.aload_n 0, 1) := by decide +kernel
theorem dX13_init_209 : decode cX13_init 209 = .ok (.sipush 9218, 3) := by decide +kernel
theorem dX13_init_212 : decode cX13_init 212 = .ok (.newarray .byte, 2) := by decide +kernel
theorem dX13_init_214 : decode cX13_init 214 = .ok (.putfield 88, 3) := by decide +kernel
theorem dX13_init_217 : decode cX13_init 217 = .ok (.aload_n 0, 1) := by decide +kernel
theorem dX13_init_218 : decode cX13_init 218 = .ok (.sipush 9218, 3) := by decide +kernel
theorem dX13_init_221 : decode cX13_init 221 = .ok (.newarray .int, 2) := by decide +kernel
theorem dX13_init_223 : decode cX13_init 223 = .ok (.putfield 91, 3) := by decide +kernel
theorem dX13_init_226 : decode cX13_init 226 = .ok (.aload_n 0, 1) := by decide +kernel
theorem dX13_init_227 : decode cX13_init 227 = .ok (.sipush 9218, 3) := by decide +kernel
theorem dX13_init_230 : decode cX13_init 230 = .ok (.newarray .int, 2) := by decide +kernel
theorem dX13_init_232 : decode cX13_init 232 = .ok (.putfield 94, 3) := by decide +kernel
theorem dX13_init_235 : decode cX13_init 235 = .ok (.aload_n 0, 1) := by decide +kernel
theorem dX13_init_236 : decode cX13_init 236 = .ok (.sipush 9218, 3) := by decide +kernel
theorem dX13_init_239 : decode cX13_init 239 = .ok (.newarray .int, 2) := by decide +kernel
theorem dX13_init_241 : decode cX13_init 241 = .ok (.putfield 97, 3) := by decide +kernel
theorem dX13_init_244 : decode cX13_init 244 = .ok (.aload_n 0, 1) := by decide +kernel
theorem dX13_init_245 : decode cX13_init 245 = .ok (.sipush 9218, 3) := by decide +kernel
theorem dX13_init_248 : decode cX13_init 248 = .ok (.newarray .int, 2) := by decide +kernel
theorem dX13_init_250 : decode cX13_init 250 = .ok (.putfield 100, 3) := by decide +kernel
theorem dX13_init_253 : decode cX13_init 253 = .ok (.aload_n 0, 1) := by decide +kernel
theorem dX13_init_254 : decode cX13_init 254 = .ok (.sipush 9218, 3) := by decide +kernel
theorem dX13_init_257 : decode cX13_init 257 = .ok (.newarray .long, 2) := by decide +kernel
theorem dX13_init_259 : decode cX13_init 259 = .ok (.putfield 103, 3) := by decide +kernel
theorem dX13_init_262 : decode cX13_init 262 = .ok (.aload_n 0, 1) := by decide +kernel
theorem dX13_init_263 : decode cX13_init 263 = .ok (.sipush 9218, 3) := by decide +kernel
theorem dX13_init_266 : decode cX13_init 266 = .ok (.newarray .int, 2) := by decide +kernel
theorem dX13_init_268 : decode cX13_init 268 = .ok (.putfield 106, 3) := by decide +kernel
theorem dX13_init_271 : decode cX13_init 271 = .ok (.aload_n 0, 1) := by decide +kernel
theorem dX13_init_272 : decode cX13_init 272 = .ok (.sipush 9218, 3) := by decide +kernel
theorem dX13_init_275 : decode cX13_init 275 = .ok (.newarray .long, 2) := by decide +kernel
theorem dX13_init_277 : decode cX13_init 277 = .ok (.putfield 109, 3) := by decide +kernel
theorem dX13_init_280 : decode cX13_init 280 = .ok (.aload_n 0, 1) := by decide +kernel
theorem dX13_init_281 : decode cX13_init 281 = .ok (.ldc 112, 2) := by decide +kernel
theorem dX13_init_283 : decode cX13_init 283 = .ok (.newarray .byte, 2) := by decide +kernel
theorem dX13_init_285 : decode cX13_init 285 = .ok (.putfield 113, 3) := by decide +kernel
theorem dX13_init_288 : decode cX13_init 288 = .ok (.aload_n 0, 1) := by decide +kernel
theorem dX13_init_289 : decode cX13_init 289 = .ok (.sipush 4104, 3) := by decide +kernel
theorem dX13_init_292 : decode cX13_init 292 = .ok (.newarray .int, 2) := by decide +kernel
theorem dX13_init_294 : decode cX13_init 294 = .ok (.putfield 116, 3) := by decide +kernel
theorem dX13_init_297 : decode cX13_init 297 = .ok (.aload_n 0, 1) := by decide +kernel
theorem dX13_init_298 : decode cX13_init 298 = .ok (.sipush 4104, 3) := by decide +kernel
theorem dX13_init_301 : decode cX13_init 301 = .ok (.newarray .int, 2) := by decide +kernel
theorem dX13_init_303 : decode cX13_init 303 = .ok (.putfield 119, 3) := by decide +kernel
theorem dX13_init_306 : decode cX13_init 306 = .ok (.aload_n 0, 1) := by decide +kernel
theorem dX13_init_307 : decode cX13_init 307 = .ok (.sipush 4104, 3) := by decide +kernel
theorem dX13_init_310 : decode cX13_init 310 = .ok (.newarray .int, 2) := by decide +kernel
theorem dX13_init_312 : decode cX13_init 312 = .ok (.putfield 122, 3) := by decide +kernel
theorem dX13_init_315 : decode cX13_init 315 = .ok (.aload_n 0, 1) := by decide +kernel
theorem dX13_init_316 : decode cX13_init 316 = .ok (.sipush 4104, 3) := by decide +kernel
theorem dX13_init_319 : decode cX13_init 319 = .ok (.newarray .int, 2) := by decide +kernel
theorem dX13_init_321 : decode cX13_init 321 = .ok (.putfield 125, 3) := by decide +kernel
theorem dX13_init_324 : decode cX13_init 324 = .ok (.aload_n 0, 1) := by decide +kernel
theorem dX13_init_325 : decode cX13_init 325 = .ok (.sipush 4104, 3) := by decide +kernel
theorem dX13_init_328 : decode cX13_init 328 = .ok (.newarray .byte, 2) := by decide +kernel
theorem dX13_init_330 : decode cX13_init 330 = .ok (.putfield 128, 3) := by decide +kernel
theorem dX13_init_333 : decode cX13_init 333 = .ok (.aload_n 0, 1) := by decide +kernel
theorem dX13_init_334 : decode cX13_init 334 = .ok (.sipush 4104, 3) := by decide +kernel
theorem dX13_init_337 : decode cX13_init 337 = .ok (.newarray .byte, 2) := by decide +kernel
theorem dX13_init_339 : decode cX13_init 339 = .ok (.putfield 131, 3) := by decide +kernel
theorem dX13_init_342 : decode cX13_init 342 = .ok (.aload_n 0, 1) := by decide +kernel
theorem dX13_init_343 : decode cX13_init 343 = .ok (.sipush 4104, 3) := by decide +kernel
theorem dX13_init_346 : decode cX13_init 346 = .ok (.newarray .long, 2) := by decide +kernel
theorem dX13_init_348 : decode cX13_init 348 = .ok (.putfield 134, 3) := by decide +kernel
theorem dX13_init_351 : decode cX13_init 351 = .ok (.aload_n 0, 1) := by decide +kernel
theorem dX13_init_352 : decode cX13_init 352 = .ok (.sipush 1100, 3) := by decide +kernel
theorem dX13_init_355 : decode cX13_init 355 = .ok (.newarray .byte, 2) := by decide +kernel
theorem dX13_init_357 : decode cX13_init 357 = .ok (.putfield 137, 3) := by decide +kernel
theorem dX13_init_360 : decode cX13_init 360 = .ok (.aload_n 0, 1) := by decide +kernel
theorem dX13_init_361 : decode cX13_init 361 = .ok (.bipush 24, 2) := by decide +kernel
theorem dX13_init_363 : decode cX13_init 363 = .ok (.newarray .int, 2) := by decide +kernel
theorem dX13_init_365 : decode cX13_init 365 = .ok (.putfield 140, 3) := by decide +kernel
theorem dX13_init_368 : decode cX13_init 368 = .ok (.aload_n 0, 1) := by decide +kernel
theorem dX13_init_369 : decode cX13_init 369 = .ok (.bipush 24, 2) := by decide +kernel
theorem dX13_init_371 : decode cX13_init 371 = .ok (.newarray .int, 2) := by decide +kernel
theorem dX13_init_373 : decode cX13_init 373 = .ok (.putfield 143, 3) := by decide +kernel
theorem dX13_init_376 : decode cX13_init 376 = .ok (.aload_n 0, 1) := by decide +kernel
theorem dX13_init_377 : decode cX13_init 377 = .ok (.bipush 24, 2) := by decide +kernel
theorem dX13_init_379 : decode cX13_init 379 = .ok (.newarray .int, 2) := by decide +kernel
theorem dX13_init_381 : decode cX13_init 381 = .ok (.putfield 146, 3) := by decide +kernel
theorem dX13_init_384 : decode cX13_init 384 = .ok (.aload_n 0, 1) := by decide +kernel
theorem dX13_init_385 : decode cX13_init 385 = .ok (.bipush 24, 2) := by decide +kernel
theorem dX13_init_387 : decode cX13_init 387 = .ok (.newarray .int, 2) := by decide +kernel
theorem dX13_init_389 : decode cX13_init 389 = .ok (.putfield 149, 3) := by decide +kernel
theorem dX13_init_392 : decode cX13_init 392 = .ok (.aload_n 0, 1) := by decide +kernel
theorem dX13_init_393 : decode cX13_init 393 = .ok (.bipush 24, 2) := by decide +kernel
theorem dX13_init_395 : decode cX13_init 395 = .ok (.newarray .int, 2) := by decide +kernel
theorem dX13_init_397 : decode cX13_init 397 = .ok (.putfield 152, 3) := by decide +kernel
theorem dX13_init_400 : decode cX13_init 400 = .ok (.aload_n 0, 1) := by decide +kernel
theorem dX13_init_401 : decode cX13_init 401 = .ok (.bipush 24, 2) := by decide +kernel
theorem dX13_init_403 : decode cX13_init 403 = .ok (.newarray .int, 2) := by decide +kernel
theorem dX13_init_405 : decode cX13_init 405 = .ok (.putfield 155, 3) := by decide +kernel
theorem dX13_init_408 : decode cX13_init 408 = .ok (.aload_n 0, 1) := by decide +kernel
theorem dX13_init_409 : decode cX13_init 409 = .ok (.bipush 24, 2) := by decide +kernel
theorem dX13_init_411 : decode cX13_init 411 = .ok (.newarray .int, 2) := by decide +kernel
theorem dX13_init_413 : decode cX13_init 413 = .ok (.putfield 158, 3) := by decide +kernel
theorem dX13_init_416 : decode cX13_init 416 = .ok (.aload_n 0, 1) := by decide +kernel
theorem dX13_init_417 : decode cX13_init 417 = .ok (.bipush 24, 2) := by decide +kernel
theorem dX13_init_419 : decode cX13_init 419 = .ok (.newarray .int, 2) := by decide +kernel
theorem dX13_init_421 : decode cX13_init 421 = .ok (.putfield 161, 3) := by decide +kernel
theorem dX13_init_424 : decode cX13_init 424 = .ok (.aload_n 0, 1) := by decide +kernel
theorem dX13_init_425 : decode cX13_init 425 = .ok (.bipush 24, 2) := by decide +kernel
theorem dX13_init_427 : decode cX13_init 427 = .ok (.newarray .int, 2) := by decide +kernel
theorem dX13_init_429 : decode cX13_init 429 = .ok (.putfield 164, 3) := by decide +kernel
theorem dX13_init_432 : decode cX13_init 432 = .ok (.aload_n 0, 1) := by decide +kernel
theorem dX13_init_433 : decode cX13_init 433 = .ok (.bipush 24, 2) := by decide +kernel
theorem dX13_init_435 : decode cX13_init 435 = .ok (.newarray .boolean, 2) := by decide +kernel
theorem dX13_init_437 : decode cX13_init 437 = .ok (.putfield 167, 3) := by decide +kernel
theorem dX13_init_440 : decode cX13_init 440 = .ok (.aload_n 0, 1) := by decide +kernel
theorem dX13_init_441 : decode cX13_init 441 = .ok (.bipush 21, 2) := by decide +kernel
theorem dX13_init_443 : decode cX13_init 443 = .ok (.sipush 1100, 3) := by decide +kernel
theorem dX13_init_446 : decode cX13_init 446 = .ok (.multianewarray 170 2, 4) := by decide +kernel
theorem dX13_init_450 : decode cX13_init 450 = .ok (.putfield 172, 3) := by decide +kernel
theorem dX13_init_453 : decode cX13_init 453 = .ok (.aload_n 0, 1) := by decide +kernel
theorem dX13_init_454 : decode cX13_init 454 = .ok (.bipush 21, 2) := by decide +kernel
theorem dX13_init_456 : decode cX13_init 456 = .ok (.sipush 2100, 3) := by decide +kernel
theorem dX13_init_459 : decode cX13_init 459 = .ok (.multianewarray 175 2, 4) := by decide +kernel
theorem dX13_init_463 : decode cX13_init 463 = .ok (.putfield 177, 3) := by decide +kernel
theorem dX13_init_466 : decode cX13_init 466 = .ok (.aload_n 0, 1) := by decide +kernel
theorem dX13_init_467 : decode cX13_init 467 = .ok (.bipush 21, 2) := by decide +kernel
theorem dX13_init_469 : decode cX13_init 469 = .ok (.newarray .int, 2) := by decide +kernel
theorem dX13_init_471 : decode cX13_init 471 = .ok (.putfield 180, 3) := by decide +kernel
theorem dX13_init_474 : decode cX13_init 474 = .ok (.aload_n 0, 1) := by decide +kernel
theorem dX13_init_475 : decode cX13_init 475 = .ok (.sipush 5100, 3) := by decide +kernel
theorem dX13_init_478 : decode cX13_init 478 = .ok (.newarray .int, 2) := by decide +kernel
theorem dX13_init_480 : decode cX13_init 480 = .ok (.putfield 183, 3) := by decide +kernel
theorem dX13_init_483 : decode cX13_init 483 = .ok (.aload_n 0, 1) := by decide +kernel
theorem dX13_init_484 : decode cX13_init 484 = .ok (.sipush 5100, 3) := by decide +kernel
theorem dX13_init_487 : decode cX13_init 487 = .ok (.newarray .int, 2) := by decide +kernel
theorem dX13_init_489 : decode cX13_init 489 = .ok (.putfield 186, 3) := by decide +kernel
theorem dX13_init_492 : decode cX13_init 492 = .ok (.aload_n 0, 1) := by decide +kernel
theorem dX13_init_493 : decode cX13_init 493 = .ok (.sipush 5100, 3) := by decide +kernel
theorem dX13_init_496 : decode cX13_init 496 = .ok (.newarray .int, 2) := by decide +kernel
theorem dX13_init_498 : decode cX13_init 498 = .ok (.putfield 189, 3) := by decide +kernel
theorem dX13_init_501 : decode cX13_init 501 = .ok (.aload_n 0, 1) := by decide +kernel
theorem dX13_init_502 : decode cX13_init 502 = .ok (.sipush 5100, 3) := by decide +kernel
theorem dX13_init_505 : decode cX13_init 505 = .ok (.newarray .int, 2) := by decide +kernel
theorem dX13_init_507 : decode cX13_init 507 = .ok (.putfield 192, 3) := by decide +kernel
theorem dX13_init_510 : decode cX13_init 510 = .ok (.aload_n 0, 1) := by decide +kernel
theorem dX13_init_511 : decode cX13_init 511 = .ok (.sipush 5100, 3) := by decide +kernel
theorem dX13_init_514 : decode cX13_init 514 = .ok (.newarray .int, 2) := by decide +kernel
theorem dX13_init_516 : decode cX13_init 516 = .ok (.putfield 195, 3) := by decide +kernel
theorem dX13_init_519 : decode cX13_init 519 = .ok (.aload_n 0, 1) := by decide +kernel
theorem dX13_init_520 : decode cX13_init 520 = .ok (.sipush 5100, 3) := by decide +kernel
theorem dX13_init_523 : decode cX13_init 523 = .ok (.newarray .int, 2) := by decide +kernel
theorem dX13_init_525 : decode cX13_init 525 = .ok (.putfield 198, 3) := by decide +kernel
theorem dX13_init_528 : decode cX13_init 528 = .ok (.aload_n 0, 1) := by decide +kernel
theorem dX13_init_529 : decode cX13_init 529 = .ok (.sipush 5100, 3) := by decide +kernel
theorem dX13_init_532 : decode cX13_init 532 = .ok (.newarray .int, 2) := by decide +kernel
theorem dX13_init_534 : decode cX13_init 534 = .ok (.putfield 201, 3) := by decide +kernel
theorem dX13_init_537 : decode cX13_init 537 = .ok (.aload_n 0, 1) := by decide +kernel
theorem dX13_init_538 : decode cX13_init 538 = .ok (.sipush 1110, 3) := by decide +kernel
theorem dX13_init_541 : decode cX13_init 541 = .ok (.newarray .int, 2) := by decide +kernel
theorem dX13_init_543 : decode cX13_init 543 = .ok (.putfield 204, 3) := by decide +kernel
theorem dX13_init_546 : decode cX13_init 546 = .ok (.aload_n 0, 1) := by decide +kernel
theorem dX13_init_547 : decode cX13_init 547 = .ok (.sipush 1110, 3) := by decide +kernel
theorem dX13_init_550 : decode cX13_init 550 = .ok (.newarray .int, 2) := by decide +kernel
theorem dX13_init_552 : decode cX13_init 552 = .ok (.putfield 207, 3) := by decide +kernel
theorem dX13_init_555 : decode cX13_init 555 = .ok (.aload_n 0, 1) := by decide +kernel
theorem dX13_init_556 : decode cX13_init 556 = .ok (.sipush 1110, 3) := by decide +kernel
theorem dX13_init_559 : decode cX13_init 559 = .ok (.newarray .int, 2) := by decide +kernel
theorem dX13_init_561 : decode cX13_init 561 = .ok (.putfield 210, 3) := by decide +kernel
theorem dX13_init_564 : decode cX13_init 564 = .ok (.aload_n 0, 1) := by decide +kernel
theorem dX13_init_565 : decode cX13_init 565 = .ok (.sipush 1110, 3) := by decide +kernel
theorem dX13_init_568 : decode cX13_init 568 = .ok (.newarray .long, 2) := by decide +kernel
theorem dX13_init_570 : decode cX13_init 570 = .ok (.putfield 213, 3) := by decide +kernel
theorem dX13_init_573 : decode cX13_init 573 = .ok (.aload_n 0, 1) := by decide +kernel
theorem dX13_init_574 : decode cX13_init 574 = .ok (.sipush 140, 3) := by decide +kernel
theorem dX13_init_577 : decode cX13_init 577 = .ok (.newarray .byte, 2) := by decide +kernel
theorem dX13_init_579 : decode cX13_init 579 = .ok (.putfield 216, 3) := by decide +kernel
theorem dX13_init_582 : decode cX13_init 582 = .ok (.aload_n 0, 1) := by decide +kernel
theorem dX13_init_583 : decode cX13_init 583 = .ok (.sipush 1110, 3) := by decide +kernel
theorem dX13_init_586 : decode cX13_init 586 = .ok (.newarray .long, 2) := by decide +kernel
theorem dX13_init_588 : decode cX13_init 588 = .ok (.putfield 219, 3) := by decide +kernel
theorem dX13_init_591 : decode cX13_init 591 = .ok (.aload_n 0, 1) := by decide +kernel
theorem dX13_init_592 : decode cX13_init 592 = .ok (.sipush 1110, 3) := by decide +kernel
theorem dX13_init_595 : decode cX13_init 595 = .ok (.newarray .int, 2) := by decide +kernel
theorem dX13_init_597 : decode cX13_init 597 = .ok (.putfield 222, 3) := by decide +kernel
theorem dX13_init_600 : decode cX13_init 600 = .ok (.aload_n 0, 1) := by decide +kernel
theorem dX13_init_601 : decode cX13_init 601 = .ok (.sipush 1110, 3) := by decide +kernel
theorem dX13_init_604 : decode cX13_init 604 = .ok (.newarray .int, 2) := by decide +kernel
theorem dX13_init_606 : decode cX13_init 606 = .ok (.putfield 225, 3) := by decide +kernel
theorem dX13_init_609 : decode cX13_init 609 = .ok (.aload_n 0, 1) := by decide +kernel
theorem dX13_init_610 : decode cX13_init 610 = .ok (.sipush 1110, 3) := by decide +kernel
theorem dX13_init_613 : decode cX13_init 613 = .ok (.newarray .int, 2) := by decide +kernel
theorem dX13_init_615 : decode cX13_init 615 = .ok (.putfield 228, 3) := by decide +kernel
theorem dX13_init_618 : decode cX13_init 618 = .ok (.aload_n 0, 1) := by decide +kernel
theorem dX13_init_619 : decode cX13_init 619 = .ok (.sipush 1110, 3) := by decide +kernel
theorem dX13_init_622 : decode cX13_init 622 = .ok (.newarray .int, 2) := by decide +kernel
theorem dX13_init_624 : decode cX13_init 624 = .ok (.putfield 231, 3) := by decide +kernel
theorem dX13_init_627 : decode cX13_init 627 = .ok (.aload_n 0, 1) := by decide +kernel
theorem dX13_init_628 : decode cX13_init 628 = .ok (.sipush 4104, 3) := by decide +kernel
theorem dX13_init_631 : decode cX13_init 631 = .ok (.newarray .int, 2) := by decide +kernel
theorem dX13_init_633 : decode cX13_init 633 = .ok (.putfield 234, 3) := by decide +kernel
theorem dX13_init_636 : decode cX13_init 636 = .ok (.aload_n 0, 1) := by decide +kernel
theorem dX13_init_637 : decode cX13_init 637 = .ok (.sipush 4104, 3) := by decide +kernel
theorem dX13_init_640 : decode cX13_init 640 = .ok (.newarray .int, 2) := by decide +kernel
theorem dX13_init_642 : decode cX13_init 642 = .ok (.putfield 237, 3) := by decide +kernel
theorem dX13_init_645 : decode cX13_init 645 = .ok (.aload_n 0, 1) := by decide +kernel
theorem dX13_init_646 : decode cX13_init 646 = .ok (.sipush 4104, 3) := by decide +kernel
theorem dX13_init_649 : decode cX13_init 649 = .ok (.newarray .int, 2) := by decide +kernel
theorem dX13_init_651 : decode cX13_init 651 = .ok (.putfield 240, 3) := by decide +kernel
theorem dX13_init_654 : decode cX13_init 654 = .ok (.aload_n 0, 1) := by decide +kernel
theorem dX13_init_655 : decode cX13_init 655 = .ok (.iconst 4, 1) := by decide +kernel
theorem dX13_init_656 : decode cX13_init 656 = .ok (.newarray .int, 2) := by decide +kernel
theorem dX13_init_658 : decode cX13_init 658 = .ok (.putfield 243, 3) := by decide +kernel
theorem dX13_init_661 : decode cX13_init 661 = .ok (.aload_n 0, 1) := by decide +kernel
theorem dX13_init_662 : decode cX13_init 662 = .ok (.iconst 4, 1) := by decide +kernel
theorem dX13_init_663 : decode cX13_init 663 = .ok (.newarray .int, 2) := by decide +kernel
theorem dX13_init_665 : decode cX13_init 665 = .ok (.putfield 246, 3) := by decide +kernel
theorem dX13_init_668 : decode cX13_init 668 = .ok (.aload_n 0, 1) := by decide +kernel
theorem dX13_init_669 : decode cX13_init 669 = .ok (.iconst 4, 1) := by decide +kernel
theorem dX13_init_670 : decode cX13_init 670 = .ok (.newarray .int, 2) := by decide +kernel
theorem dX13_init_672 : decode cX13_init 672 = .ok (.putfield 249, 3) := by decide +kernel
theorem dX13_init_675 : decode cX13_init 675 = .ok (.aload_n 0, 1) := by decide +kernel
theorem dX13_init_676 : decode cX13_init 676 = .ok (.iconst 4, 1) := by decide +kernel
theorem dX13_init_677 : decode cX13_init 677 = .ok (.newarray .int, 2) := by decide +kernel
theorem dX13_init_679 : decode cX13_init 679 = .ok (.putfield 252, 3) := by decide +kernel
theorem dX13_init_682 : decode cX13_init 682 = .ok (.aload_n 0, 1) := by decide +kernel
theorem dX13_init_683 : decode cX13_init 683 = .ok (.iconst 4, 1) := by decide +kernel
theorem dX13_init_684 : decode cX13_init 684 = .ok (.newarray .int, 2) := by decide +kernel
theorem dX13_init_686 : decode cX13_init 686 = .ok (.putfield 255, 3) := by decide +kernel
theorem dX13_init_689 : decode cX13_init 689 = .ok (.aload_n 0, 1) := by decide +kernel
theorem dX13_init_690 : decode cX13_init 690 = .ok (.sipush 160, 3) := by decide +kernel
theorem dX13_init_693 : decode cX13_init 693 = .ok (.newarray .int, 2) := by decide +kernel
theorem dX13_init_695 : decode cX13_init 695 = .ok (.putfield 258, 3) := by decide +kernel
theorem dX13_init_698 : decode cX13_init 698 = .ok (.aload_n 0, 1) := by decide +kernel
theorem dX13_init_699 : decode cX13_init 699 = .ok (.sipush 160, 3) := by decide +kernel
theorem dX13_init_702 : decode cX13_init 702 = .ok (.newarray .int, 2) := by decide +kernel
theorem dX13_init_704 : decode cX13_init 704 = .ok (.putfield 261, 3) := by decide +kernel
theorem dX13_init_707 : decode cX13_init 707 = .ok (.aload_n 0, 1) := by decide +kernel
theorem dX13_init_708 : decode cX13_init 708 = .ok (.sipush 160, 3) := by decide +kernel
theorem dX13_init_711 : decode cX13_init 711 = .ok (.newarray .int, 2) := by decide +kernel
theorem dX13_init_713 : decode cX13_init 713 = .ok (.putfield 264, 3) := by decide +kernel
theorem dX13_init_716 : decode cX13_init 716 = .ok (.aload_n 0, 1) := by decide +kernel
theorem dX13_init_717 : decode cX13_init 717 = .ok (.sipush 160, 3) := by decide +kernel
theorem dX13_init_720 : decode cX13_init 720 = .ok (.newarray .int, 2) := by decide +kernel
theorem dX13_init_722 : decode cX13_init 722 = .ok (.putfield 267, 3) := by decide +kernel
theorem dX13_init_725 : decode cX13_init 725 = .ok (.aload_n 0, 1) := by decide +kernel
theorem dX13_init_726 : decode cX13_init 726 = .ok (.sipush 160, 3) := by decide +kernel
theorem dX13_init_729 : decode cX13_init 729 = .ok (.newarray .int, 2) := by decide +kernel
theorem dX13_init_731 : decode cX13_init 731 = .ok (.putfield 270, 3) := by decide +kernel
theorem dX13_init_734 : decode cX13_init 734 = .ok (.aload_n 0, 1) := by decide +kernel
theorem dX13_init_735 : decode cX13_init 735 = .ok (.sipush 160, 3) := by decide +kernel
theorem dX13_init_738 : decode cX13_init 738 = .ok (.newarray .int, 2) := by decide +kernel
theorem dX13_init_740 : decode cX13_init 740 = .ok (.putfield 273, 3) := by decide +kernel
theorem dX13_init_743 : decode cX13_init 743 = .ok (.aload_n 0, 1) := by decide +kernel
theorem dX13_init_744 : decode cX13_init 744 = .ok (.sipush 160, 3) := by decide +kernel
theorem dX13_init_747 : decode cX13_init 747 = .ok (.newarray .int, 2) := by decide +kernel
theorem dX13_init_749 : decode cX13_init 749 = .ok (.putfield 276, 3) := by decide +kernel
theorem dX13_init_752 : decode cX13_init 752 = .ok (.aload_n 0, 1) := by decide +kernel
theorem dX13_init_753 : decode cX13_init 753 = .ok (.bipush 20, 2) := by decide +kernel
theorem dX13_init_755 : decode cX13_init 755 = .ok (.newarray .byte, 2) := by decide +kernel
theorem dX13_init_757 : decode cX13_init 757 = .ok (.putfield 279, 3) := by decide +kernel
theorem dX13_init_760 : decode cX13_init 760 = .ok (.aload_n 0, 1) := by decide +kernel
theorem dX13_init_761 : decode cX13_init 761 = .ok (.bipush 20, 2) := by decide +kernel
theorem dX13_init_763 : decode cX13_init 763 = .ok (.newarray .byte, 2) := by decide +kernel
theorem dX13_init_765 : decode cX13_init 765 = .ok (.putfield 282, 3) := by decide +kernel
theorem dX13_init_768 : decode cX13_init 768 = .ok (.aload_n 0, 1) := by decide +kernel
theorem dX13_init_769 : decode cX13_init 769 = .ok (.sipush 600, 3) := by decide +kernel
theorem dX13_init_772 : decode cX13_init 772 = .ok (.newarray .int, 2) := by decide +kernel
theorem dX13_init_774 : decode cX13_init 774 = .ok (.putfield 285, 3) := by decide +kernel
theorem dX13_init_777 : decode cX13_init 777 = .ok (.aload_n 0, 1) := by decide +kernel
theorem dX13_init_778 : decode cX13_init 778 = .ok (.sipush 600, 3) := by decide +kernel
theorem dX13_init_781 : decode cX13_init 781 = .ok (.newarray .int, 2) := by decide +kernel
theorem dX13_init_783 : decode cX13_init 783 = .ok (.putfield 288, 3) := by decide +kernel
theorem dX13_init_786 : decode cX13_init 786 = .ok (.aload_n 0, 1) := by decide +kernel
theorem dX13_init_787 : decode cX13_init 787 = .ok (.new 291, 3) := by decide +kernel
theorem dX13_init_790 : decode cX13_init 790 = .ok (.dup, 1) := by decide +kernel
theorem dX13_init_791 : decode cX13_init 791 = .ok (.invokespecial 293, 3) := by decide +kernel
theorem dX13_init_794 : decode cX13_init 794 = .ok (.putfield 294, 3) := by decide +kernel
theorem dX13_init_797 : decode cX13_init 797 = .ok (.aload_n 0, 1) := by decide +kernel
theorem dX13_init_798 : decode cX13_init 798 = .ok (.new 291, 3) := by decide +kernel
theorem dX13_init_801 : decode cX13_init 801 = .ok (.dup, 1) := by decide +kernel
theorem dX13_init_802 : decode cX13_init 802 = .ok (.invokespecial 293, 3) := by decide +kernel
theorem dX13_init_805 : decode cX13_init 805 = .ok (.putfield 298, 3) := by decide +kernel
theorem dX13_init_808 : decode cX13_init 808 = .ok (.aload_n 0, 1) := by decide +kernel
theorem dX13_init_809 : decode cX13_init 809 = .ok (.ldc_w 301, 3) := by decide +kernel
theorem dX13_init_812 : decode cX13_init 812 = .ok (.newarray .byte, 2) := by decide +kernel
theorem dX13_init_814 : decode cX13_init 814 = .ok (.putfield 302, 3) := by decide +kernel
theorem dX13_init_817 : decode cX13_init 817 = .ok (.aload_n 0, 1) := by decide +kernel
theorem dX13_init_818 : decode cX13_init 818 = .ok (.bipush 32, 2) := by decide +kernel
theorem dX13_init_820 : decode cX13_init 820 = .ok (.newarray .boolean, 2) := by decide +kernel
theorem dX13_init_822 : decode cX13_init 822 = .ok (.putfield 305, 3) := by decide +kernel
theorem dX13_init_825 : decode cX13_init 825 = .ok (.aload_n 0, 1) := by decide +kernel
theorem dX13_init_826 : decode cX13_init 826 = .ok (.sipush 128, 3) := by decide +kernel
theorem dX13_init_829 : decode cX13_init 829 = .ok (.newarray .boolean, 2) := by decide +kernel
theorem dX13_init_831 : decode cX13_init 831 = .ok (.putfield 308, 3) := by decide +kernel
theorem dX13_init_834 : decode cX13_init 834 = .ok (.aload_n 0, 1) := by decide +kernel
theorem dX13_init_835 : decode cX13_init 835 = .ok (.sipush 128, 3) := by decide +kernel
theorem dX13_init_838 : decode cX13_init 838 = .ok (.newarray .int, 2) := by decide +kernel
theorem dX13_init_840 : decode cX13_init 840 = .ok (.putfield 311, 3) := by decide +kernel
theorem dX13_init_843 : decode cX13_init 843 = .ok (.aload_n 0, 1) := by decide +kernel
theorem dX13_init_844 : decode cX13_init 844 = .ok (.ldc 54, 2) := by decide +kernel
theorem dX13_init_846 : decode cX13_init 846 = .ok (.newarray .byte, 2) := by decide +kernel
theorem dX13_init_848 : decode cX13_init 848 = .ok (.putfield 314, 3) := by decide +kernel
theorem dX13_init_851 : decode cX13_init 851 = .ok (.aload_n 0, 1) := by decide +kernel
theorem dX13_init_852 : decode cX13_init 852 = .ok (.sipush 1025, 3) := by decide +kernel
theorem dX13_init_855 : decode cX13_init 855 = .ok (.newarray .int, 2) := by decide +kernel
theorem dX13_init_857 : decode cX13_init 857 = .ok (.putfield 317, 3) := by decide +kernel
theorem dX13_init_860 : decode cX13_init 860 = .ok (.aload_n 0, 1) := by decide +kernel
theorem dX13_init_861 : decode cX13_init 861 = .ok (.sipush 1025, 3) := by decide +kernel
theorem dX13_init_864 : decode cX13_init 864 = .ok (.newarray .int, 2) := by decide +kernel
theorem dX13_init_866 : decode cX13_init 866 = .ok (.putfield 320, 3) := by decide +kernel
theorem dX13_init_869 : decode cX13_init 869 = .ok (.aload_n 0, 1) := by decide +kernel
theorem dX13_init_870 : decode cX13_init 870 = .ok (.sipush 1025, 3) := by decide +kernel
theorem dX13_init_873 : decode cX13_init 873 = .ok (.newarray .int, 2) := by decide +kernel
theorem dX13_init_875 : decode cX13_init 875 = .ok (.putfield 323, 3) := by decide +kernel
theorem dX13_init_878 : decode cX13_init 878 = .ok (.aload_n 0, 1) := by decide +kernel
theorem dX13_init_879 : decode cX13_init 879 = .ok (.ldc_w 301, 3) := by decide +kernel
theorem dX13_init_882 : decode cX13_init 882 = .ok (.newarray .byte, 2) := by decide +kernel
theorem dX13_init_884 : decode cX13_init 884 = .ok (.putfield 326, 3) := by decide +kernel
theorem dX13_init_887 : decode cX13_init 887 = .ok (.aload_n 0, 1) := by decide +kernel
theorem dX13_init_888 : decode cX13_init 888 = .ok (.ldc 9, 2) := by decide +kernel
theorem dX13_init_890 : decode cX13_init 890 = .ok (.newarray .byte, 2) := by decide +kernel
theorem dX13_init_892 : decode cX13_init 892 = .ok (.putfield 329, 3) := by decide +kernel
theorem dX13_init_895 : decode cX13_init 895 = .ok (.aload_n 0, 1) := by decide +kernel
theorem dX13_init_896 : decode cX13_init 896 = .ok (.ldc 9, 2) := by decide +kernel
theorem dX13_init_898 : decode cX13_init 898 = .ok (.newarray .byte, 2) := by decide +kernel
theorem dX13_init_900 : decode cX13_init 900 = .ok (.putfield 332, 3) := by decide +kernel
theorem dX13_init_903 : decode cX13_init 903 = .ok (.aload_n 0, 1) := by decide +kernel
theorem dX13_init_904 : decode cX13_init 904 = .ok (.ldc 9, 2) := by decide +kernel
theorem dX13_init_906 : decode cX13_init 906 = .ok (.newarray .byte, 2) := by decide +kernel
theorem dX13_init_908 : decode cX13_init 908 = .ok (.putfield 335, 3) := by decide +kernel
theorem dX13_init_911 : decode cX13_init 911 = .ok (.aload_n 0, 1) := by decide +kernel
theorem dX13_init_912 : decode cX13_init 912 = .ok (.ldc 9, 2) := by decide +kernel
theorem dX13_init_914 : decode cX13_init 914 = .ok (.newarray .byte, 2) := by decide +kernel
theorem dX13_init_916 : decode cX13_init 916 = .ok (.putfield 338, 3) := by decide +kernel
theorem dX13_init_919 : decode cX13_init 919 = .ok (.aload_n 0, 1) := by decide +kernel
theorem dX13_init_920 : decode cX13_init 920 = .ok (.bipush 16, 2) := by decide +kernel
theorem dX13_init_922 : decode cX13_init 922 = .ok (.newarray .long, 2) := by decide +kernel
theorem dX13_init_924 : decode cX13_init 924 = .ok (.putfield 341, 3) := by decide +kernel
theorem dX13_init_927 : decode cX13_init 927 = .ok (.aload_n 0, 1) := by decide +kernel
theorem dX13_init_928 : decode cX13_init 928 = .ok (.bipush 16, 2) := by decide +kernel
theorem dX13_init_930 : decode cX13_init 930 = .ok (.newarray .long, 2) := by decide +kernel
theorem dX13_init_932 : decode cX13_init 932 = .ok (.putfield 344, 3) := by decide +kernel
theorem dX13_init_935 : decode cX13_init 935 = .ok (.aload_n 0, 1) := by decide +kernel
theorem dX13_init_936 : decode cX13_init 936 = .ok (.bipush 16, 2) := by decide +kernel
theorem dX13_init_938 : decode cX13_init 938 = .ok (.newarray .long, 2) := by decide +kernel
theorem dX13_init_940 : decode cX13_init 940 = .ok (.putfield 347, 3) := by decide +kernel
theorem dX13_init_943 : decode cX13_init 943 = .ok (.aload_n 0, 1) := by decide +kernel
theorem dX13_init_944 : decode cX13_init 944 = .ok (.ldc_w 350, 3) := by decide +kernel
theorem dX13_init_947 : decode cX13_init 947 = .ok (.iconst 0, 1) := by decide +kernel
theorem dX13_init_948 : decode cX13_init 948 = .ok (.invokevirtual 352, 3) := by decide +kernel
theorem dX13_init_951 : decode cX13_init 951 = .ok (.aload_n 0, 1) := by decide +kernel
theorem dX13_init_952 : decode cX13_init 952 = .ok (.ldc_w 356, 3) := by decide +kernel
theorem dX13_init_955 : decode cX13_init 955 = .ok (.bipush 24, 2) := by decide +kernel
theorem dX13_init_957 : decode cX13_init 957 = .ok (.invokevirtual 352, 3) := by decide +kernel
theorem dX13_init_960 : decode cX13_init 960 = .ok (.aload_n 0, 1) := by decide +kernel
theorem dX13_init_961 : decode cX13_init 961 = .ok (.ldc_w 358, 3) := by decide +kernel
theorem dX13_init_964 : decode cX13_init 964 = .ok (.bipush 34, 2) := by decide +kernel
theorem dX13_init_966 : decode cX13_init 966 = .ok (.invokevirtual 360, 3) := by decide +kernel
theorem dX13_init_969 : decode cX13_init 969 = .ok (.aload_n 0, 1) := by decide +kernel
theorem dX13_init_970 : decode cX13_init 970 = .ok (.ldc_w 363, 3) := by decide +kernel
theorem dX13_init_973 : decode cX13_init 973 = .ok (.bipush 35, 2) := by decide +kernel
theorem dX13_init_975 : decode cX13_init 975 = .ok (.invokevirtual 360, 3) := by decide +kernel
theorem dX13_init_978 : decode cX13_init 978 = .ok (.aload_n 0, 1) := by decide +kernel
theorem dX13_init_979 : decode cX13_init 979 = .ok (.ldc_w 365, 3) := by decide +kernel
theorem dX13_init_982 : decode cX13_init 982 = .ok (.bipush 36, 2) := by decide +kernel
theorem dX13_init_984 : decode cX13_init 984 = .ok (.invokevirtual 360, 3) := by decide +kernel
theorem dX13_init_987 : decode cX13_init 987 = .ok (.aload_n 0, 1) := by decide +kernel
theorem dX13_init_988 : decode cX13_init 988 = .ok (.ldc_w 367, 3) := by decide +kernel
theorem dX13_init_991 : decode cX13_init 991 = .ok (.ldc_w 369, 3) := by decide +kernel
theorem dX13_init_994 : decode cX13_init 994 = .ok (.invokevirtual 370, 3) := by decide +kernel
theorem dX13_init_997 : decode cX13_init 997 = .ok (.aload_n 0, 1) := by decide +kernel
theorem dX13_init_998 : decode cX13_init 998 = .ok (.ldc_w 373, 3) := by decide +kernel
theorem dX13_init_1001 : decode cX13_init 1001 = .ok (.ldc_w 375, 3) := by decide +kernel
theorem dX13_init_1004 : decode cX13_init 1004 = .ok (.invokevirtual 370, 3) := by decide +kernel
theorem dX13_init_1007 : decode cX13_init 1007 = .ok (.aload_n 0, 1) := by decide +kernel
theorem dX13_init_1008 : decode cX13_init 1008 = .ok (.ldc_w 376, 3) := by decide +kernel
theorem dX13_init_1011 : decode cX13_init 1011 = .ok (.ldc_w 378, 3) := by decide +kernel
theorem dX13_init_1014 : decode cX13_init 1014 = .ok (.invokevirtual 370, 3) := by decide +kernel
theorem dX13_init_1017 : decode cX13_init 1017 = .ok (.aload_n 0, 1) := by decide +kernel
theorem dX13_init_1018 : decode cX13_init 1018 = .ok (.ldc_w 379, 3) := by decide +kernel
theorem dX13_init_1021 : decode cX13_init 1021 = .ok (.ldc_w 381, 3) := by decide +kernel
theorem dX13_init_1024 : decode cX13_init 1024 = .ok (.invokevirtual 370, 3) := by decide +kernel
theorem dX13_init_1027 : decode cX13_init 1027 = .ok (.aload_n 0, 1) := by decide +kernel
theorem dX13_init_1028 : decode cX13_init 1028 = .ok (.ldc_w 382, 3) := by decide +kernel
theorem dX13_init_1031 : decode cX13_init 1031 = .ok (.bipush 39, 2) := by decide +kernel
theorem dX13_init_1033 : decode cX13_init 1033 = .ok (.invokevirtual 352, 3) := by decide +kernel
theorem dX13_init_1036 : decode cX13_init 1036 = .ok (.aload_n 0, 1) := by decide +kernel
theorem dX13_init_1037 : decode cX13_init 1037 = .ok (.ldc_w 384, 3) := by decide +kernel
theorem dX13_init_1040 : decode cX13_init 1040 = .ok (.ldc_w 386, 3) := by decide +kernel
theorem dX13_init_1043 : decode cX13_init 1043 = .ok (.invokevirtual 370, 3) := by decide +kernel
theorem dX13_init_1046 : decode cX13_init 1046 = .ok (.aload_n 0, 1) := by decide +kernel
theorem dX13_init_1047 : decode cX13_init 1047 = .ok (.ldc_w 387, 3) := by decide +kernel
theorem dX13_init_1050 : decode cX13_init 1050 = .ok (.ldc_w 389, 3) := by decide +kernel
theorem dX13_init_1053 : decode cX13_init 1053 = .ok (.invokevirtual 370, 3) := by decide +kernel
theorem dX13_init_1056 : decode cX13_init 1056 = .ok (.aload_n 0, 1) := by decide +kernel
theorem dX13_init_1057 : decode cX13_init 1057 = .ok (.ldc_w 390, 3) := by decide +kernel
theorem dX13_init_1060 : decode cX13_init 1060 = .ok (.ldc_w 392, 3) := by decide +kernel
theorem dX13_init_1063 : decode cX13_init 1063 = .ok (.invokevirtual 370, 3) := by decide +kernel
theorem dX13_init_1066 : decode cX13_init 1066 = .ok (.aload_n 0, 1) := by decide +kernel
theorem dX13_init_1067 : decode cX13_init 1067 = .ok (.ldc_w 393, 3) := by decide +kernel
theorem dX13_init_1070 : decode cX13_init 1070 = .ok (.ldc_w 395, 3) := by decide +kernel
theorem dX13_init_1073 : decode cX13_init 1073 = .ok (.invokevirtual 370, 3) := by decide +kernel
theorem dX13_init_1076 : decode cX13_init 1076 = .ok (.aload_n 0, 1) := by decide +kernel
theorem dX13_init_1077 : decode cX13_init 1077 = .ok (.ldc_w 396, 3) := by decide +kernel
theorem dX13_init_1080 : decode cX13_init 1080 = .ok (.ldc_w 398, 3) := by decide +kernel
theorem dX13_init_1083 : decode cX13_init 1083 = .ok (.invokevirtual 370, 3) := by decide +kernel
theorem dX13_init_1086 : decode cX13_init 1086 = .ok (.aload_n 0, 1) := by decide +kernel
theorem dX13_init_1087 : decode cX13_init 1087 = .ok (.ldc_w 399, 3) := by decide +kernel
theorem dX13_init_1090 : decode cX13_init 1090 = .ok (.ldc_w 401, 3) := by decide +kernel
theorem dX13_init_1093 : decode cX13_init 1093 = .ok (.invokevirtual 370, 3) := by decide +kernel
theorem dX13_init_1096 : decode cX13_init 1096 = .ok (.aload_n 0, 1) := by decide +kernel
theorem dX13_init_1097 : decode cX13_init 1097 = .ok (.ldc_w 402, 3) := by decide +kernel
theorem dX13_init_1100 : decode cX13_init 1100 = .ok (.bipush 100, 2) := by decide +kernel
theorem dX13_init_1102 : decode cX13_init 1102 = .ok (.invokevirtual 352, 3) := by decide +kernel
theorem dX13_init_1105 : decode cX13_init 1105 = .ok (.iconst 0, 1) := by decide +kernel
theorem dX13_init_1106 : decode cX13_init 1106 = .ok (.istore_n 1, 1) := by decide +kernel
theorem dX13_init_1107 : decode cX13_init 1107 = .ok (.iload_n 1, 1) := by decide +kernel
theorem dX13_init_1108 : decode cX13_init 1108 = .ok (.iconst 5, 1) := by decide +kernel
theorem dX13_init_1109 : decode cX13_init 1109 = .ok (.if_icmp .ge 61, 3) := by decide +kernel
theorem dX13_init_1112 : decode cX13_init 1112 = .ok (.aload_n 0, 1) := by decide +kernel
theorem dX13_init_1113 : decode cX13_init 1113 = .ok (.iload_n 1, 1) := by decide +kernel
theorem dX13_init_1114 : decode cX13_init 1114 = .ok (.ifCond .ne 9, 3) := by decide +kernel
theorem dX13_init_1117 : decode cX13_init 1117 = .ok (.ldc_w 404, 3) := by decide +kernel
theorem dX13_init_1120 : decode cX13_init 1120 = .ok (.goto 39, 3) := by decide +kernel
theorem dX13_init_1123 : decode cX13_init 1123 = .ok (.iload_n 1, 1) := by decide +kernel
theorem dX13_init_1124 : decode cX13_init 1124 = .ok (.iconst 1, 1) := by decide +kernel
theorem dX13_init_1125 : decode cX13_init 1125 = .ok (.if_icmp .ne 9, 3) := by decide +kernel
theorem dX13_init_1128 : decode cX13_init 1128 = .ok (.ldc_w 406, 3) := by decide +kernel
theorem dX13_init_1131 : decode cX13_init 1131 = .ok (.goto 28, 3) := by decide +kernel
theorem dX13_init_1134 : decode cX13_init 1134 = .ok (.iload_n 1, 1) := by decide +kernel
theorem dX13_init_1135 : decode cX13_init 1135 = .ok (.iconst 2, 1) := by decide +kernel
theorem dX13_init_1136 : decode cX13_init 1136 = .ok (.if_icmp .ne 9, 3) := by decide +kernel
theorem dX13_init_1139 : decode cX13_init 1139 = .ok (.ldc_w 408, 3) := by decide +kernel
theorem dX13_init_1142 : decode cX13_init 1142 = .ok (.goto 17, 3) := by decide +kernel
theorem dX13_init_1145 : decode cX13_init 1145 = .ok (.iload_n 1, 1) := by decide +kernel
theorem dX13_init_1146 : decode cX13_init 1146 = .ok (.iconst 3, 1) := by decide +kernel
theorem dX13_init_1147 : decode cX13_init 1147 = .ok (.if_icmp .ne 9, 3) := by decide +kernel
theorem dX13_init_1150 : decode cX13_init 1150 = .ok (.ldc_w 410, 3) := by decide +kernel
theorem dX13_init_1153 : decode cX13_init 1153 = .ok (.goto 6, 3) := by decide +kernel
theorem dX13_init_1156 : decode cX13_init 1156 = .ok (.ldc_w 412, 3) := by decide +kernel
theorem dX13_init_1159 : decode cX13_init 1159 = .ok (.bipush 120, 2) := by decide +kernel
theorem dX13_init_1161 : decode cX13_init 1161 = .ok (.invokevirtual 370, 3) := by decide +kernel
theorem dX13_init_1164 : decode cX13_init 1164 = .ok (.iinc 1 1, 3) := by decide +kernel
theorem dX13_init_1167 : decode cX13_init 1167 = .ok (.goto (-60), 3) := by decide +kernel
theorem dX13_init_1170 : decode cX13_init 1170 = .ok (.aload_n 0, 1) := by decide +kernel
theorem dX13_init_1171 : decode cX13_init 1171 = .ok (.invokevirtual 414, 3) := by decide +kernel
theorem dX13_init_1174 : decode cX13_init 1174 = .ok (.aload_n 0, 1) := by decide +kernel
theorem dX13_init_1175 : decode cX13_init 1175 = .ok (.ldc_w 417, 3) := by decide +kernel
theorem dX13_init_1178 : decode cX13_init 1178 = .ok (.invokestatic 419, 3) := by decide +kernel
theorem dX13_init_1181 : decode cX13_init 1181 = .ok (.putfield 423, 3) := by decide +kernel
theorem dX13_init_1184 : decode cX13_init 1184 = .ok (.aload_n 0, 1) := by decide +kernel
theorem dX13_init_1185 : decode cX13_init 1185 = .ok (.ldc_w 427, 3) := by decide +kernel
theorem dX13_init_1188 : decode cX13_init 1188 = .ok (.invokestatic 419, 3) := by decide +kernel
theorem dX13_init_1191 : decode cX13_init 1191 = .ok (.putfield 429, 3) := by decide +kernel
theorem dX13_init_1194 : decode cX13_init 1194 = .ok (.aload_n 0, 1) := by decide +kernel
theorem dX13_init_1195 : decode cX13_init 1195 = .ok (.ldc_w 432, 3) := by decide +kernel
theorem dX13_init_1198 : decode cX13_init 1198 = .ok (.invokestatic 419, 3) := by decide +kernel
theorem dX13_init_1201 : decode cX13_init 1201 = .ok (.putfield 433, 3) := by decide +kernel
theorem dX13_init_1204 : decode cX13_init 1204 = .ok (.aload_n 0, 1) := by decide +kernel
theorem dX13_init_1205 : decode cX13_init 1205 = .ok (.ldc_w 436, 3) := by decide +kernel
theorem dX13_init_1208 : decode cX13_init 1208 = .ok (.invokestatic 419, 3) := by decide +kernel
theorem dX13_init_1211 : decode cX13_init 1211 = .ok (.putfield 438, 3) := by decide +kernel
theorem dX13_init_1214 : decode cX13_init 1214 = .ok (.aload_n 0, 1) := by decide +kernel
theorem dX13_init_1215 : decode cX13_init 1215 = .ok (.ldc_w 404, 3) := by decide +kernel
theorem dX13_init_1218 : decode cX13_init 1218 = .ok (.invokestatic 419, 3) := by decide +kernel
theorem dX13_init_1221 : decode cX13_init 1221 = .ok (.putfield 441, 3) := by decide +kernel
theorem dX13_init_1224 : decode cX13_init 1224 = .ok (.aload_n 0, 1) := by decide +kernel
theorem dX13_init_1225 : decode cX13_init 1225 = .ok (.ldc_w 406, 3) := by decide +kernel
theorem dX13_init_1228 : decode cX13_init 1228 = .ok (.invokestatic 419, 3) := by decide +kernel
theorem dX13_init_1231 : decode cX13_init 1231 = .ok (.putfield 444, 3) := by decide +kernel
theorem dX13_init_1234 : decode cX13_init 1234 = .ok (.aload_n 0, 1) := by decide +kernel
theorem dX13_init_1235 : decode cX13_init 1235 = .ok (.ldc_w 408, 3) := by decide +kernel
theorem dX13_init_1238 : decode cX13_init 1238 = .ok (.invokestatic 419, 3) := by decide +kernel
theorem dX13_init_1241 : decode cX13_init 1241 = .ok (.putfield 447, 3) := by decide +kernel
theorem dX13_init_1244 : decode cX13_init 1244 = .ok (.aload_n 0, 1) := by decide +kernel
theorem dX13_init_1245 : decode cX13_init 1245 = .ok (.ldc_w 410, 3) := by decide +kernel
theorem dX13_init_1248 : decode cX13_init 1248 = .ok (.invokestatic 419, 3) := by decide +kernel
theorem dX13_init_1251 : decode cX13_init 1251 = .ok (.putfield 450, 3) := by decide +kernel
theorem dX13_init_1254 : decode cX13_init 1254 = .ok (.aload_n 0, 1) := by decide +kernel
theorem dX13_init_1255 : decode cX13_init 1255 = .ok (.ldc_w 412, 3) := by decide +kernel
theorem dX13_init_1258 : decode cX13_init 1258 = .ok (.invokestatic 419, 3) := by decide +kernel
theorem dX13_init_1261 : decode cX13_init 1261 = .ok (.putfield 453, 3) := by decide +kernel
theorem dX13_init_1264 : decode cX13_init 1264 = .ok (.aload_n 0, 1) := by decide +kernel
theorem dX13_init_1265 : decode cX13_init 1265 = .ok (.ldc_w 456, 3) := by decide +kernel
theorem dX13_init_1268 : decode cX13_init 1268 = .ok (.invokestatic 419, 3) := by decide +kernel
theorem dX13_init_1271 : decode cX13_init 1271 = .ok (.putfield 458, 3) := by decide +kernel
theorem dX13_init_1274 : decode cX13_init 1274 = .ok (.aload_n 0, 1) := by decide +kernel
theorem dX13_init_1275 : decode cX13_init 1275 = .ok (.ldc_w 461, 3) := by decide +kernel
theorem dX13_init_1278 : decode cX13_init 1278 = .ok (.invokestatic 419, 3) := by decide +kernel
theorem dX13_init_1281 : decode cX13_init 1281 = .ok (.putfield 463, 3) := by decide +kernel
theorem dX13_init_1284 : decode cX13_init 1284 = .ok (.aload_n 0, 1) := by decide +kernel
theorem dX13_init_1285 : decode cX13_init 1285 = .ok (.invokevirtual 466, 3) := by decide +kernel
theorem dX13_init_1288 : decode cX13_init 1288 = .ok (.return_, 1) := by decide +kernel
theorem dX13_pack_0 : decode cX13_pack 0 = .ok (.lconst 0, 1) := by decide +kernel
theorem dX13_pack_1 : decode cX13_pack 1 = .ok (.lstore_n 1, 1) := by decide +kernel
theorem dX13_pack_2 : decode cX13_pack 2 = .ok (.iconst 0, 1) := by decide +kernel
theorem dX13_pack_3 : decode cX13_pack 3 = .ok (.istore_n 3, 1) := by decide +kernel
theorem dX13_pack_4 : decode cX13_pack 4 = .ok (.iload_n 3, 1) := by decide +kernel
theorem dX13_pack_5 : decode cX13_pack 5 = .ok (.aload_n 0, 1) := by decide +kernel
theorem dX13_pack_6 : decode cX13_pack 6 = .ok (.invokevirtual 469, 3) := by decide +kernel
theorem dX13_pack_9 : decode cX13_pack 9 = .ok (.if_icmp .ge 21, 3) := by decide +kernel
theorem dX13_pack_12 : decode cX13_pack 12 = .ok (.lload_n 1, 1) := by decide +kernel
theorem dX13_pack_13 : decode cX13_pack 13 = .ok (.bipush 8, 2) := by decide +kernel
theorem dX13_pack_15 : decode cX13_pack 15 = .ok (.lshl, 1) := by decide +kernel
theorem dX13_pack_16 : decode cX13_pack 16 = .ok (.aload_n 0, 1) := by decide +kernel
theorem dX13_pack_17 : decode cX13_pack 17 = .ok (.iload_n 3, 1) := by decide +kernel
theorem dX13_pack_18 : decode cX13_pack 18 = .ok (.invokevirtual 475, 3) := by decide +kernel
theorem dX13_pack_21 : decode cX13_pack 21 = .ok (.i2l, 1) := by decide +kernel
theorem dX13_pack_22 : decode cX13_pack 22 = .ok (.lor, 1) := by decide +kernel
theorem dX13_pack_23 : decode cX13_pack 23 = .ok (.lstore_n 1, 1) := by decide +kernel
theorem dX13_pack_24 : decode cX13_pack 24 = .ok (.iinc 3 1, 3) := by decide +kernel
theorem dX13_pack_27 : decode cX13_pack 27 = .ok (.goto (-23), 3) := by decide +kernel
theorem dX13_pack_30 : decode cX13_pack 30 = .ok (.lload_n 1, 1) := by decide +kernel
theorem dX13_pack_31 : decode cX13_pack 31 = .ok (.lreturn, 1) := by decide +kernel
theorem dX13_wordsOf_0 : decode cX13_wordsOf 0 = .ok (.iload_n 2, 1) := by decide +kernel
theorem dX13_wordsOf_1 : decode cX13_wordsOf 1 = .ok (.istore_n 3, 1) := by decide +kernel
theorem dX13_wordsOf_2 : decode cX13_wordsOf 2 = .ok (.iconst 0, 1) := by decide +kernel
theorem dX13_wordsOf_3 : decode cX13_wordsOf 3 = .ok (.istore 4, 2) := by decide +kernel
theorem dX13_wordsOf_5 : decode cX13_wordsOf 5 = .ok (.iconst 0, 1) := by decide +kernel
theorem dX13_wordsOf_6 : decode cX13_wordsOf 6 = .ok (.istore 5, 2) := by decide +kernel
theorem dX13_wordsOf_8 : decode cX13_wordsOf 8 = .ok (.iload 5, 2) := by decide +kernel
theorem dX13_wordsOf_10 : decode cX13_wordsOf 10 = .ok (.aload_n 1, 1) := by decide +kernel
theorem dX13_wordsOf_11 : decode cX13_wordsOf 11 = .ok (.invokevirtual 469, 3) := by decide +kernel
theorem dX13_wordsOf_14 : decode cX13_wordsOf 14 = .ok (.if_icmp .gt 54, 3) := by decide +kernel
theorem dX13_wordsOf_17 : decode cX13_wordsOf 17 = .ok (.iload 5, 2) := by decide +kernel
theorem dX13_wordsOf_19 : decode cX13_wordsOf 19 = .ok (.aload_n 1, 1) := by decide +kernel
theorem dX13_wordsOf_20 : decode cX13_wordsOf 20 = .ok (.invokevirtual 469, 3) := by decide +kernel
theorem dX13_wordsOf_23 : decode cX13_wordsOf 23 = .ok (.if_icmp .ge 17, 3) := by decide +kernel
theorem dX13_wordsOf_26 : decode cX13_wordsOf 26 = .ok (.aload_n 1, 1) := by decide +kernel
theorem dX13_wordsOf_27 : decode cX13_wordsOf 27 = .ok (.iload 5, 2) := by decide +kernel
theorem dX13_wordsOf_29 : decode cX13_wordsOf 29 = .ok (.invokevirtual 475, 3) := by decide +kernel
theorem dX13_wordsOf_32 : decode cX13_wordsOf 32 = .ok (.bipush 32, 2) := by decide +kernel
theorem dX13_wordsOf_34 : decode cX13_wordsOf 34 = .ok (.if_icmp .eq 6, 3) := by decide +kernel
theorem dX13_wordsOf_37 : decode cX13_wordsOf 37 = .ok (.goto 25, 3) := by decide +kernel
theorem dX13_wordsOf_40 : decode cX13_wordsOf 40 = .ok (.aload_n 0, 1) := by decide +kernel
theorem dX13_wordsOf_41 : decode cX13_wordsOf 41 = .ok (.aload_n 1, 1) := by decide +kernel
theorem dX13_wordsOf_42 : decode cX13_wordsOf 42 = .ok (.iload 4, 2) := by decide +kernel
theorem dX13_wordsOf_44 : decode cX13_wordsOf 44 = .ok (.iload 5, 2) := by decide +kernel
theorem dX13_wordsOf_46 : decode cX13_wordsOf 46 = .ok (.invokevirtual 479, 3) := by decide +kernel
theorem dX13_wordsOf_49 : decode cX13_wordsOf 49 = .ok (.iload_n 3, 1) := by decide +kernel
theorem dX13_wordsOf_50 : decode cX13_wordsOf 50 = .ok (.invokevirtual 370, 3) := by decide +kernel
theorem dX13_wordsOf_53 : decode cX13_wordsOf 53 = .ok (.iinc 3 1, 3) := by decide +kernel
theorem dX13_wordsOf_56 : decode cX13_wordsOf 56 = .ok (.iload 5, 2) := by decide +kernel
theorem dX13_wordsOf_58 : decode cX13_wordsOf 58 = .ok (.iconst 1, 1) := by decide +kernel
theorem dX13_wordsOf_59 : decode cX13_wordsOf 59 = .ok (.iadd, 1) := by decide +kernel
theorem dX13_wordsOf_60 : decode cX13_wordsOf 60 = .ok (.istore 4, 2) := by decide +kernel
theorem dX13_wordsOf_62 : decode cX13_wordsOf 62 = .ok (.iinc 5 1, 3) := by decide +kernel
theorem dX13_wordsOf_65 : decode cX13_wordsOf 65 = .ok (.goto (-57), 3) := by decide +kernel
theorem dX13_wordsOf_68 : decode cX13_wordsOf 68 = .ok (.return_, 1) := by decide +kernel
theorem dX13_word_0 : decode cX13_word 0 = .ok (.aload_n 0, 1) := by decide +kernel
theorem dX13_word_1 : decode cX13_word 1 = .ok (.getfield 14, 3) := by decide +kernel
theorem dX13_word_4 : decode cX13_word 4 = .ok (.aload_n 0, 1) := by decide +kernel
theorem dX13_word_5 : decode cX13_word 5 = .ok (.getfield 483, 3) := by decide +kernel
theorem dX13_word_8 : decode cX13_word 8 = .ok (.aload_n 1, 1) := by decide +kernel
theorem dX13_word_9 : decode cX13_word 9 = .ok (.invokestatic 419, 3) := by decide +kernel
theorem dX13_word_12 : decode cX13_word 12 = .ok (.lastore, 1) := by decide +kernel
theorem dX13_word_13 : decode cX13_word 13 = .ok (.aload_n 0, 1) := by decide +kernel
theorem dX13_word_14 : decode cX13_word 14 = .ok (.getfield 21, 3) := by decide +kernel
theorem dX13_word_17 : decode cX13_word 17 = .ok (.aload_n 0, 1) := by decide +kernel
theorem dX13_word_18 : decode cX13_word 18 = .ok (.getfield 483, 3) := by decide +kernel
theorem dX13_word_21 : decode cX13_word 21 = .ok (.iload_n 2, 1) := by decide +kernel
theorem dX13_word_22 : decode cX13_word 22 = .ok (.iastore, 1) := by decide +kernel
theorem dX13_word_23 : decode cX13_word 23 = .ok (.aload_n 0, 1) := by decide +kernel
theorem dX13_word_24 : decode cX13_word 24 = .ok (.dup, 1) := by decide +kernel
theorem dX13_word_25 : decode cX13_word 25 = .ok (.getfield 483, 3) := by decide +kernel
theorem dX13_word_28 : decode cX13_word 28 = .ok (.iconst 1, 1) := by decide +kernel
theorem dX13_word_29 : decode cX13_word 29 = .ok (.iadd, 1) := by decide +kernel
theorem dX13_word_30 : decode cX13_word 30 = .ok (.putfield 483, 3) := by decide +kernel
theorem dX13_word_33 : decode cX13_word 33 = .ok (.return_, 1) := by decide +kernel
theorem dX13_conditions_0 : decode cX13_conditions 0 = .ok (.bipush 20, 2) := by decide +kernel
theorem dX13_conditions_2 : decode cX13_conditions 2 = .ok (.anewarray 470, 3) := by decide +kernel
theorem dX13_conditions_5 : decode cX13_conditions 5 = .ok (.dup, 1) := by decide +kernel
theorem dX13_conditions_6 : decode cX13_conditions 6 = .ok (.iconst 0, 1) := by decide +kernel
theorem dX13_conditions_7 : decode cX13_conditions 7 = .ok (.ldc_w 486, 3) := by decide +kernel
theorem dX13_conditions_10 : decode cX13_conditions 10 = .ok (.aastore, 1) := by decide +kernel
theorem dX13_conditions_11 : decode cX13_conditions 11 = .ok (.dup, 1) := by decide +kernel
theorem dX13_conditions_12 : decode cX13_conditions 12 = .ok (.iconst 1, 1) := by decide +kernel
theorem dX13_conditions_13 : decode cX13_conditions 13 = .ok (.ldc_w 488, 3) := by decide +kernel
theorem dX13_conditions_16 : decode cX13_conditions 16 = .ok (.aastore, 1) := by decide +kernel
theorem dX13_conditions_17 : decode cX13_conditions 17 = .ok (.dup, 1) := by decide +kernel
theorem dX13_conditions_18 : decode cX13_conditions 18 = .ok (.iconst 2, 1) := by decide +kernel
theorem dX13_conditions_19 : decode cX13_conditions 19 = .ok (.ldc_w 490, 3) := by decide +kernel
theorem dX13_conditions_22 : decode cX13_conditions 22 = .ok (.aastore, 1) := by decide +kernel
theorem dX13_conditions_23 : decode cX13_conditions 23 = .ok (.dup, 1) := by decide +kernel
theorem dX13_conditions_24 : decode cX13_conditions 24 = .ok (.iconst 3, 1) := by decide +kernel
theorem dX13_conditions_25 : decode cX13_conditions 25 = .ok (.ldc_w 492, 3) := by decide +kernel
theorem dX13_conditions_28 : decode cX13_conditions 28 = .ok (.aastore, 1) := by decide +kernel
theorem dX13_conditions_29 : decode cX13_conditions 29 = .ok (.dup, 1) := by decide +kernel
theorem dX13_conditions_30 : decode cX13_conditions 30 = .ok (.iconst 4, 1) := by decide +kernel
theorem dX13_conditions_31 : decode cX13_conditions 31 = .ok (.ldc_w 494, 3) := by decide +kernel
theorem dX13_conditions_34 : decode cX13_conditions 34 = .ok (.aastore, 1) := by decide +kernel
theorem dX13_conditions_35 : decode cX13_conditions 35 = .ok (.dup, 1) := by decide +kernel
theorem dX13_conditions_36 : decode cX13_conditions 36 = .ok (.iconst 5, 1) := by decide +kernel
theorem dX13_conditions_37 : decode cX13_conditions 37 = .ok (.ldc_w 496, 3) := by decide +kernel
theorem dX13_conditions_40 : decode cX13_conditions 40 = .ok (.aastore, 1) := by decide +kernel
theorem dX13_conditions_41 : decode cX13_conditions 41 = .ok (.dup, 1) := by decide +kernel
theorem dX13_conditions_42 : decode cX13_conditions 42 = .ok (.bipush 6, 2) := by decide +kernel
theorem dX13_conditions_44 : decode cX13_conditions 44 = .ok (.ldc_w 498, 3) := by decide +kernel
theorem dX13_conditions_47 : decode cX13_conditions 47 = .ok (.aastore, 1) := by decide +kernel
theorem dX13_conditions_48 : decode cX13_conditions 48 = .ok (.dup, 1) := by decide +kernel
theorem dX13_conditions_49 : decode cX13_conditions 49 = .ok (.bipush 7, 2) := by decide +kernel
theorem dX13_conditions_51 : decode cX13_conditions 51 = .ok (.ldc_w 500, 3) := by decide +kernel
theorem dX13_conditions_54 : decode cX13_conditions 54 = .ok (.aastore, 1) := by decide +kernel
theorem dX13_conditions_55 : decode cX13_conditions 55 = .ok (.dup, 1) := by decide +kernel
theorem dX13_conditions_56 : decode cX13_conditions 56 = .ok (.bipush 8, 2) := by decide +kernel
theorem dX13_conditions_58 : decode cX13_conditions 58 = .ok (.ldc_w 502, 3) := by decide +kernel
theorem dX13_conditions_61 : decode cX13_conditions 61 = .ok (.aastore, 1) := by decide +kernel
theorem dX13_conditions_62 : decode cX13_conditions 62 = .ok (.dup, 1) := by decide +kernel
theorem dX13_conditions_63 : decode cX13_conditions 63 = .ok (.bipush 9, 2) := by decide +kernel
theorem dX13_conditions_65 : decode cX13_conditions 65 = .ok (.ldc_w 504, 3) := by decide +kernel
theorem dX13_conditions_68 : decode cX13_conditions 68 = .ok (.aastore, 1) := by decide +kernel
theorem dX13_conditions_69 : decode cX13_conditions 69 = .ok (.dup, 1) := by decide +kernel
theorem dX13_conditions_70 : decode cX13_conditions 70 = .ok (.bipush 10, 2) := by decide +kernel
theorem dX13_conditions_72 : decode cX13_conditions 72 = .ok (.ldc_w 506, 3) := by decide +kernel
theorem dX13_conditions_75 : decode cX13_conditions 75 = .ok (.aastore, 1) := by decide +kernel
theorem dX13_conditions_76 : decode cX13_conditions 76 = .ok (.dup, 1) := by decide +kernel
theorem dX13_conditions_77 : decode cX13_conditions 77 = .ok (.bipush 11, 2) := by decide +kernel
theorem dX13_conditions_79 : decode cX13_conditions 79 = .ok (.ldc_w 508, 3) := by decide +kernel
theorem dX13_conditions_82 : decode cX13_conditions 82 = .ok (.aastore, 1) := by decide +kernel
theorem dX13_conditions_83 : decode cX13_conditions 83 = .ok (.dup, 1) := by decide +kernel
theorem dX13_conditions_84 : decode cX13_conditions 84 = .ok (.bipush 12, 2) := by decide +kernel
theorem dX13_conditions_86 : decode cX13_conditions 86 = .ok (.ldc_w 510, 3) := by decide +kernel
theorem dX13_conditions_89 : decode cX13_conditions 89 = .ok (.aastore, 1) := by decide +kernel
theorem dX13_conditions_90 : decode cX13_conditions 90 = .ok (.dup, 1) := by decide +kernel
theorem dX13_conditions_91 : decode cX13_conditions 91 = .ok (.bipush 13, 2) := by decide +kernel
theorem dX13_conditions_93 : decode cX13_conditions 93 = .ok (.ldc_w 512, 3) := by decide +kernel
theorem dX13_conditions_96 : decode cX13_conditions 96 = .ok (.aastore, 1) := by decide +kernel
theorem dX13_conditions_97 : decode cX13_conditions 97 = .ok (.dup, 1) := by decide +kernel
theorem dX13_conditions_98 : decode cX13_conditions 98 = .ok (.bipush 14, 2) := by decide +kernel
theorem dX13_conditions_100 : decode cX13_conditions 100 = .ok (.ldc_w 514, 3) := by decide +kernel
theorem dX13_conditions_103 : decode cX13_conditions 103 = .ok (.aastore, 1) := by decide +kernel
theorem dX13_conditions_104 : decode cX13_conditions 104 = .ok (.dup, 1) := by decide +kernel
theorem dX13_conditions_105 : decode cX13_conditions 105 = .ok (.bipush 15, 2) := by decide +kernel
theorem dX13_conditions_107 : decode cX13_conditions 107 = .ok (.ldc_w 516, 3) := by decide +kernel
theorem dX13_conditions_110 : decode cX13_conditions 110 = .ok (.aastore, 1) := by decide +kernel
theorem dX13_conditions_111 : decode cX13_conditions 111 = .ok (.dup, 1) := by decide +kernel
theorem dX13_conditions_112 : decode cX13_conditions 112 = .ok (.bipush 16, 2) := by decide +kernel
theorem dX13_conditions_114 : decode cX13_conditions 114 = .ok (.ldc_w 518, 3) := by decide +kernel
theorem dX13_conditions_117 : decode cX13_conditions 117 = .ok (.aastore, 1) := by decide +kernel
theorem dX13_conditions_118 : decode cX13_conditions 118 = .ok (.dup, 1) := by decide +kernel
theorem dX13_conditions_119 : decode cX13_conditions 119 = .ok (.bipush 17, 2) := by decide +kernel
theorem dX13_conditions_121 : decode cX13_conditions 121 = .ok (.ldc_w 520, 3) := by decide +kernel
theorem dX13_conditions_124 : decode cX13_conditions 124 = .ok (.aastore, 1) := by decide +kernel
theorem dX13_conditions_125 : decode cX13_conditions 125 = .ok (.dup, 1) := by decide +kernel
theorem dX13_conditions_126 : decode cX13_conditions 126 = .ok (.bipush 18, 2) := by decide +kernel
theorem dX13_conditions_128 : decode cX13_conditions 128 = .ok (.ldc_w 522, 3) := by decide +kernel
theorem dX13_conditions_131 : decode cX13_conditions 131 = .ok (.aastore, 1) := by decide +kernel
theorem dX13_conditions_132 : decode cX13_conditions 132 = .ok (.dup, 1) := by decide +kernel
theorem dX13_conditions_133 : decode cX13_conditions 133 = .ok (.bipush 19, 2) := by decide +kernel
theorem dX13_conditions_135 : decode cX13_conditions 135 = .ok (.ldc_w 524, 3) := by decide +kernel
theorem dX13_conditions_138 : decode cX13_conditions 138 = .ok (.aastore, 1) := by decide +kernel
theorem dX13_conditions_139 : decode cX13_conditions 139 = .ok (.astore_n 3, 1) := by decide +kernel
theorem dX13_conditions_140 : decode cX13_conditions 140 = .ok (.iconst 0, 1) := by decide +kernel
theorem dX13_conditions_141 : decode cX13_conditions 141 = .ok (.istore 4, 2) := by decide +kernel
theorem dX13_conditions_143 : decode cX13_conditions 143 = .ok (.iload 4, 2) := by decide +kernel
theorem dX13_conditions_145 : decode cX13_conditions 145 = .ok (.bipush 20, 2) := by decide +kernel
theorem dX13_conditions_147 : decode cX13_conditions 147 = .ok (.if_icmp .ge 43, 3) := by decide +kernel
theorem dX13_conditions_150 : decode cX13_conditions 150 = .ok (.aload_n 0, 1) := by decide +kernel
theorem dX13_conditions_151 : decode cX13_conditions 151 = .ok (.aload_n 1, 1) := by decide +kernel
theorem dX13_conditions_152 : decode cX13_conditions 152 = .ok (.aload_n 3, 1) := by decide +kernel
theorem dX13_conditions_153 : decode cX13_conditions 153 = .ok (.iload 4, 2) := by decide +kernel
theorem dX13_conditions_155 : decode cX13_conditions 155 = .ok (.aaload, 1) := by decide +kernel
theorem dX13_conditions_156 : decode cX13_conditions 156 = .ok (.invokestatic 526, 3) := by decide +kernel
theorem dX13_conditions_159 : decode cX13_conditions 159 = .ok (.iload_n 2, 1) := by decide +kernel
theorem dX13_conditions_160 : decode cX13_conditions 160 = .ok (.iload 4, 2) := by decide +kernel
theorem dX13_conditions_162 : decode cX13_conditions 162 = .ok (.bipush 16, 2) := by decide +kernel
theorem dX13_conditions_164 : decode cX13_conditions 164 = .ok (.if_icmp .ge 8, 3) := by decide +kernel
theorem dX13_conditions_167 : decode cX13_conditions 167 = .ok (.iload 4, 2) := by decide +kernel
theorem dX13_conditions_169 : decode cX13_conditions 169 = .ok (.goto 8, 3) := by decide +kernel
theorem dX13_conditions_172 : decode cX13_conditions 172 = .ok (.iload 4, 2) := by decide +kernel
theorem dX13_conditions_174 : decode cX13_conditions 174 = .ok (.bipush 14, 2) := by decide +kernel
theorem dX13_conditions_176 : decode cX13_conditions 176 = .ok (.isub, 1) := by decide +kernel
theorem dX13_conditions_177 : decode cX13_conditions 177 = .ok (.bipush 24, 2) := by decide +kernel
theorem dX13_conditions_179 : decode cX13_conditions 179 = .ok (.ishl, 1) := by decide +kernel
theorem dX13_conditions_180 : decode cX13_conditions 180 = .ok (.ior, 1) := by decide +kernel
theorem dX13_conditions_181 : decode cX13_conditions 181 = .ok (.invokevirtual 370, 3) := by decide +kernel
theorem dX13_conditions_184 : decode cX13_conditions 184 = .ok (.iinc 4 1, 3) := by decide +kernel
theorem dX13_conditions_187 : decode cX13_conditions 187 = .ok (.goto (-44), 3) := by decide +kernel
theorem dX13_conditions_190 : decode cX13_conditions 190 = .ok (.return_, 1) := by decide +kernel
theorem dX13_joined_0 : decode cX13_joined 0 = .ok (.new 530, 3) := by decide +kernel
theorem dX13_joined_3 : decode cX13_joined 3 = .ok (.dup, 1) := by decide +kernel
theorem dX13_joined_4 : decode cX13_joined 4 = .ok (.invokespecial 532, 3) := by decide +kernel
theorem dX13_joined_7 : decode cX13_joined 7 = .ok (.aload_n 0, 1) := by decide +kernel
theorem dX13_joined_8 : decode cX13_joined 8 = .ok (.invokevirtual 533, 3) := by decide +kernel
theorem dX13_joined_11 : decode cX13_joined 11 = .ok (.aload_n 1, 1) := by decide +kernel
theorem dX13_joined_12 : decode cX13_joined 12 = .ok (.invokevirtual 533, 3) := by decide +kernel
theorem dX13_joined_15 : decode cX13_joined 15 = .ok (.invokevirtual 537, 3) := by decide +kernel
theorem dX13_joined_18 : decode cX13_joined 18 = .ok (.areturn, 1) := by decide +kernel
theorem dX13_numbered_0 : decode cX13_numbered 0 = .ok (.new 530, 3) := by decide +kernel
theorem dX13_numbered_3 : decode cX13_numbered 3 = .ok (.dup, 1) := by decide +kernel
theorem dX13_numbered_4 : decode cX13_numbered 4 = .ok (.invokespecial 532, 3) := by decide +kernel
theorem dX13_numbered_7 : decode cX13_numbered 7 = .ok (.ldc_w 541, 3) := by decide +kernel
theorem dX13_numbered_10 : decode cX13_numbered 10 = .ok (.invokevirtual 533, 3) := by decide +kernel
theorem dX13_numbered_13 : decode cX13_numbered 13 = .ok (.iload_n 0, 1) := by decide +kernel
theorem dX13_numbered_14 : decode cX13_numbered 14 = .ok (.invokevirtual 543, 3) := by decide +kernel
theorem dX13_numbered_17 : decode cX13_numbered 17 = .ok (.aload_n 1, 1) := by decide +kernel
theorem dX13_numbered_18 : decode cX13_numbered 18 = .ok (.invokevirtual 533, 3) := by decide +kernel
theorem dX13_numbered_21 : decode cX13_numbered 21 = .ok (.invokevirtual 537, 3) := by decide +kernel
theorem dX13_numbered_24 : decode cX13_numbered 24 = .ok (.areturn, 1) := by decide +kernel
theorem dX13_registerNames_0 : decode cX13_registerNames 0 = .ok (.bipush 8, 2) := by decide +kernel
theorem dX13_registerNames_2 : decode cX13_registerNames 2 = .ok (.anewarray 470, 3) := by decide +kernel
theorem dX13_registerNames_5 : decode cX13_registerNames 5 = .ok (.dup, 1) := by decide +kernel
theorem dX13_registerNames_6 : decode cX13_registerNames 6 = .ok (.iconst 0, 1) := by decide +kernel
theorem dX13_registerNames_7 : decode cX13_registerNames 7 = .ok (.ldc_w 546, 3) := by decide +kernel
theorem dX13_registerNames_10 : decode cX13_registerNames 10 = .ok (.aastore, 1) := by decide +kernel
theorem dX13_registerNames_11 : decode cX13_registerNames 11 = .ok (.dup, 1) := by decide +kernel
theorem dX13_registerNames_12 : decode cX13_registerNames 12 = .ok (.iconst 1, 1) := by decide +kernel
theorem dX13_registerNames_13 : decode cX13_registerNames 13 = .ok (.ldc_w 548, 3) := by decide +kernel
theorem dX13_registerNames_16 : decode cX13_registerNames 16 = .ok (.aastore, 1) := by decide +kernel
theorem dX13_registerNames_17 : decode cX13_registerNames 17 = .ok (.dup, 1) := by decide +kernel
theorem dX13_registerNames_18 : decode cX13_registerNames 18 = .ok (.iconst 2, 1) := by decide +kernel
theorem dX13_registerNames_19 : decode cX13_registerNames 19 = .ok (.ldc_w 550, 3) := by decide +kernel
theorem dX13_registerNames_22 : decode cX13_registerNames 22 = .ok (.aastore, 1) := by decide +kernel
theorem dX13_registerNames_23 : decode cX13_registerNames 23 = .ok (.dup, 1) := by decide +kernel
theorem dX13_registerNames_24 : decode cX13_registerNames 24 = .ok (.iconst 3, 1) := by decide +kernel
theorem dX13_registerNames_25 : decode cX13_registerNames 25 = .ok (.ldc_w 552, 3) := by decide +kernel
theorem dX13_registerNames_28 : decode cX13_registerNames 28 = .ok (.aastore, 1) := by decide +kernel
theorem dX13_registerNames_29 : decode cX13_registerNames 29 = .ok (.dup, 1) := by decide +kernel
theorem dX13_registerNames_30 : decode cX13_registerNames 30 = .ok (.iconst 4, 1) := by decide +kernel
theorem dX13_registerNames_31 : decode cX13_registerNames 31 = .ok (.ldc_w 554, 3) := by decide +kernel
theorem dX13_registerNames_34 : decode cX13_registerNames 34 = .ok (.aastore, 1) := by decide +kernel
theorem dX13_registerNames_35 : decode cX13_registerNames 35 = .ok (.dup, 1) := by decide +kernel
theorem dX13_registerNames_36 : decode cX13_registerNames 36 = .ok (.iconst 5, 1) := by decide +kernel
theorem dX13_registerNames_37 : decode cX13_registerNames 37 = .ok (.ldc_w 556, 3) := by decide +kernel
theorem dX13_registerNames_40 : decode cX13_registerNames 40 = .ok (.aastore, 1) := by decide +kernel
theorem dX13_registerNames_41 : decode cX13_registerNames 41 = .ok (.dup, 1) := by decide +kernel
theorem dX13_registerNames_42 : decode cX13_registerNames 42 = .ok (.bipush 6, 2) := by decide +kernel
theorem dX13_registerNames_44 : decode cX13_registerNames 44 = .ok (.ldc_w 558, 3) := by decide +kernel
theorem dX13_registerNames_47 : decode cX13_registerNames 47 = .ok (.aastore, 1) := by decide +kernel
theorem dX13_registerNames_48 : decode cX13_registerNames 48 = .ok (.dup, 1) := by decide +kernel
theorem dX13_registerNames_49 : decode cX13_registerNames 49 = .ok (.bipush 7, 2) := by decide +kernel
theorem dX13_registerNames_51 : decode cX13_registerNames 51 = .ok (.ldc_w 560, 3) := by decide +kernel
theorem dX13_registerNames_54 : decode cX13_registerNames 54 = .ok (.aastore, 1) := by decide +kernel
theorem dX13_registerNames_55 : decode cX13_registerNames 55 = .ok (.astore_n 1, 1) := by decide +kernel
theorem dX13_registerNames_56 : decode cX13_registerNames 56 = .ok (.bipush 8, 2) := by decide +kernel
theorem dX13_registerNames_58 : decode cX13_registerNames 58 = .ok (.anewarray 470, 3) := by decide +kernel
theorem dX13_registerNames_61 : decode cX13_registerNames 61 = .ok (.dup, 1) := by decide +kernel
theorem dX13_registerNames_62 : decode cX13_registerNames 62 = .ok (.iconst 0, 1) := by decide +kernel
theorem dX13_registerNames_63 : decode cX13_registerNames 63 = .ok (.ldc_w 562, 3) := by decide +kernel
theorem dX13_registerNames_66 : decode cX13_registerNames 66 = .ok (.aastore, 1) := by decide +kernel
theorem dX13_registerNames_67 : decode cX13_registerNames 67 = .ok (.dup, 1) := by decide +kernel
theorem dX13_registerNames_68 : decode cX13_registerNames 68 = .ok (.iconst 1, 1) := by decide +kernel
theorem dX13_registerNames_69 : decode cX13_registerNames 69 = .ok (.ldc_w 564, 3) := by decide +kernel
theorem dX13_registerNames_72 : decode cX13_registerNames 72 = .ok (.aastore, 1) := by decide +kernel
theorem dX13_registerNames_73 : decode cX13_registerNames 73 = .ok (.dup, 1) := by decide +kernel
theorem dX13_registerNames_74 : decode cX13_registerNames 74 = .ok (.iconst 2, 1) := by decide +kernel
theorem dX13_registerNames_75 : decode cX13_registerNames 75 = .ok (.ldc_w 566, 3) := by decide +kernel
theorem dX13_registerNames_78 : decode cX13_registerNames 78 = .ok (.aastore, 1) := by decide +kernel
theorem dX13_registerNames_79 : decode cX13_registerNames 79 = .ok (.dup, 1) := by decide +kernel
theorem dX13_registerNames_80 : decode cX13_registerNames 80 = .ok (.iconst 3, 1) := by decide +kernel
theorem dX13_registerNames_81 : decode cX13_registerNames 81 = .ok (.ldc_w 568, 3) := by decide +kernel
theorem dX13_registerNames_84 : decode cX13_registerNames 84 = .ok (.aastore, 1) := by decide +kernel
theorem dX13_registerNames_85 : decode cX13_registerNames 85 = .ok (.dup, 1) := by decide +kernel
theorem dX13_registerNames_86 : decode cX13_registerNames 86 = .ok (.iconst 4, 1) := by decide +kernel
theorem dX13_registerNames_87 : decode cX13_registerNames 87 = .ok (.ldc_w 570, 3) := by decide +kernel
theorem dX13_registerNames_90 : decode cX13_registerNames 90 = .ok (.aastore, 1) := by decide +kernel
theorem dX13_registerNames_91 : decode cX13_registerNames 91 = .ok (.dup, 1) := by decide +kernel
theorem dX13_registerNames_92 : decode cX13_registerNames 92 = .ok (.iconst 5, 1) := by decide +kernel
theorem dX13_registerNames_93 : decode cX13_registerNames 93 = .ok (.ldc_w 572, 3) := by decide +kernel
theorem dX13_registerNames_96 : decode cX13_registerNames 96 = .ok (.aastore, 1) := by decide +kernel
theorem dX13_registerNames_97 : decode cX13_registerNames 97 = .ok (.dup, 1) := by decide +kernel
theorem dX13_registerNames_98 : decode cX13_registerNames 98 = .ok (.bipush 6, 2) := by decide +kernel
theorem dX13_registerNames_100 : decode cX13_registerNames 100 = .ok (.ldc_w 574, 3) := by decide +kernel
theorem dX13_registerNames_103 : decode cX13_registerNames 103 = .ok (.aastore, 1) := by decide +kernel
theorem dX13_registerNames_104 : decode cX13_registerNames 104 = .ok (.dup, 1) := by decide +kernel
theorem dX13_registerNames_105 : decode cX13_registerNames 105 = .ok (.bipush 7, 2) := by decide +kernel
theorem dX13_registerNames_107 : decode cX13_registerNames 107 = .ok (.ldc_w 576, 3) := by decide +kernel
theorem dX13_registerNames_110 : decode cX13_registerNames 110 = .ok (.aastore, 1) := by decide +kernel
theorem dX13_registerNames_111 : decode cX13_registerNames 111 = .ok (.astore_n 2, 1) := by decide +kernel
theorem dX13_registerNames_112 : decode cX13_registerNames 112 = .ok (.bipush 8, 2) := by decide +kernel
theorem dX13_registerNames_114 : decode cX13_registerNames 114 = .ok (.anewarray 470, 3) := by decide +kernel
theorem dX13_registerNames_117 : decode cX13_registerNames 117 = .ok (.dup, 1) := by decide +kernel
theorem dX13_registerNames_118 : decode cX13_registerNames 118 = .ok (.iconst 0, 1) := by decide +kernel
theorem dX13_registerNames_119 : decode cX13_registerNames 119 = .ok (.ldc_w 578, 3) := by decide +kernel
theorem dX13_registerNames_122 : decode cX13_registerNames 122 = .ok (.aastore, 1) := by decide +kernel
theorem dX13_registerNames_123 : decode cX13_registerNames 123 = .ok (.dup, 1) := by decide +kernel
theorem dX13_registerNames_124 : decode cX13_registerNames 124 = .ok (.iconst 1, 1) := by decide +kernel
theorem dX13_registerNames_125 : decode cX13_registerNames 125 = .ok (.ldc_w 580, 3) := by decide +kernel
theorem dX13_registerNames_128 : decode cX13_registerNames 128 = .ok (.aastore, 1) := by decide +kernel
theorem dX13_registerNames_129 : decode cX13_registerNames 129 = .ok (.dup, 1) := by decide +kernel
theorem dX13_registerNames_130 : decode cX13_registerNames 130 = .ok (.iconst 2, 1) := by decide +kernel
theorem dX13_registerNames_131 : decode cX13_registerNames 131 = .ok (.ldc_w 582, 3) := by decide +kernel
theorem dX13_registerNames_134 : decode cX13_registerNames 134 = .ok (.aastore, 1) := by decide +kernel
theorem dX13_registerNames_135 : decode cX13_registerNames 135 = .ok (.dup, 1) := by decide +kernel
theorem dX13_registerNames_136 : decode cX13_registerNames 136 = .ok (.iconst 3, 1) := by decide +kernel
theorem dX13_registerNames_137 : decode cX13_registerNames 137 = .ok (.ldc_w 584, 3) := by decide +kernel
theorem dX13_registerNames_140 : decode cX13_registerNames 140 = .ok (.aastore, 1) := by decide +kernel
theorem dX13_registerNames_141 : decode cX13_registerNames 141 = .ok (.dup, 1) := by decide +kernel
theorem dX13_registerNames_142 : decode cX13_registerNames 142 = .ok (.iconst 4, 1) := by decide +kernel
theorem dX13_registerNames_143 : decode cX13_registerNames 143 = .ok (.ldc_w 586, 3) := by decide +kernel
theorem dX13_registerNames_146 : decode cX13_registerNames 146 = .ok (.aastore, 1) := by decide +kernel
theorem dX13_registerNames_147 : decode cX13_registerNames 147 = .ok (.dup, 1) := by decide +kernel
theorem dX13_registerNames_148 : decode cX13_registerNames 148 = .ok (.iconst 5, 1) := by decide +kernel
theorem dX13_registerNames_149 : decode cX13_registerNames 149 = .ok (.ldc_w 588, 3) := by decide +kernel
theorem dX13_registerNames_152 : decode cX13_registerNames 152 = .ok (.aastore, 1) := by decide +kernel
theorem dX13_registerNames_153 : decode cX13_registerNames 153 = .ok (.dup, 1) := by decide +kernel
theorem dX13_registerNames_154 : decode cX13_registerNames 154 = .ok (.bipush 6, 2) := by decide +kernel
theorem dX13_registerNames_156 : decode cX13_registerNames 156 = .ok (.ldc_w 590, 3) := by decide +kernel
theorem dX13_registerNames_159 : decode cX13_registerNames 159 = .ok (.aastore, 1) := by decide +kernel
theorem dX13_registerNames_160 : decode cX13_registerNames 160 = .ok (.dup, 1) := by decide +kernel
theorem dX13_registerNames_161 : decode cX13_registerNames 161 = .ok (.bipush 7, 2) := by decide +kernel
theorem dX13_registerNames_163 : decode cX13_registerNames 163 = .ok (.ldc_w 592, 3) := by decide +kernel
theorem dX13_registerNames_166 : decode cX13_registerNames 166 = .ok (.aastore, 1) := by decide +kernel
theorem dX13_registerNames_167 : decode cX13_registerNames 167 = .ok (.astore_n 3, 1) := by decide +kernel
theorem dX13_registerNames_168 : decode cX13_registerNames 168 = .ok (.iconst 0, 1) := by decide +kernel
theorem dX13_registerNames_169 : decode cX13_registerNames 169 = .ok (.istore 4, 2) := by decide +kernel
theorem dX13_registerNames_171 : decode cX13_registerNames 171 = .ok (.iload 4, 2) := by decide +kernel
theorem dX13_registerNames_173 : decode cX13_registerNames 173 = .ok (.bipush 8, 2) := by decide +kernel
theorem dX13_registerNames_175 : decode cX13_registerNames 175 = .ok (.if_icmp .ge 123, 3) := by decide +kernel
theorem dX13_registerNames_178 : decode cX13_registerNames 178 = .ok (.aload_n 0, 1) := by decide +kernel
theorem dX13_registerNames_179 : decode cX13_registerNames 179 = .ok (.aload_n 1, 1) := by decide +kernel
theorem dX13_registerNames_180 : decode cX13_registerNames 180 = .ok (.iload 4, 2) := by decide +kernel
theorem dX13_registerNames_182 : decode cX13_registerNames 182 = .ok (.aaload, 1) := by decide +kernel
theorem dX13_registerNames_183 : decode cX13_registerNames 183 = .ok (.iload 4, 2) := by decide +kernel
theorem dX13_registerNames_185 : decode cX13_registerNames 185 = .ok (.sipush 2048, 3) := by decide +kernel
theorem dX13_registerNames_188 : decode cX13_registerNames 188 = .ok (.ior, 1) := by decide +kernel
theorem dX13_registerNames_189 : decode cX13_registerNames 189 = .ok (.invokevirtual 594, 3) := by decide +kernel
theorem dX13_registerNames_192 : decode cX13_registerNames 192 = .ok (.aload_n 0, 1) := by decide +kernel
theorem dX13_registerNames_193 : decode cX13_registerNames 193 = .ok (.aload_n 2, 1) := by decide +kernel
theorem dX13_registerNames_194 : decode cX13_registerNames 194 = .ok (.iload 4, 2) := by decide +kernel
theorem dX13_registerNames_196 : decode cX13_registerNames 196 = .ok (.aaload, 1) := by decide +kernel
theorem dX13_registerNames_197 : decode cX13_registerNames 197 = .ok (.iload 4, 2) := by decide +kernel
theorem dX13_registerNames_199 : decode cX13_registerNames 199 = .ok (.sipush 1024, 3) := by decide +kernel
theorem dX13_registerNames_202 : decode cX13_registerNames 202 = .ok (.ior, 1) := by decide +kernel
theorem dX13_registerNames_203 : decode cX13_registerNames 203 = .ok (.invokevirtual 594, 3) := by decide +kernel
theorem dX13_registerNames_206 : decode cX13_registerNames 206 = .ok (.aload_n 0, 1) := by decide +kernel
theorem dX13_registerNames_207 : decode cX13_registerNames 207 = .ok (.aload_n 3, 1) := by decide +kernel
theorem dX13_registerNames_208 : decode cX13_registerNames 208 = .ok (.iload 4, 2) := by decide +kernel
theorem dX13_registerNames_210 : decode cX13_registerNames 210 = .ok (.aaload, 1) := by decide +kernel
theorem dX13_registerNames_211 : decode cX13_registerNames 211 = .ok (.iload 4, 2) := by decide +kernel
theorem dX13_registerNames_213 : decode cX13_registerNames 213 = .ok (.sipush 256, 3) := by decide +kernel
theorem dX13_registerNames_216 : decode cX13_registerNames 216 = .ok (.ior, 1) := by decide +kernel
theorem dX13_registerNames_217 : decode cX13_registerNames 217 = .ok (.invokevirtual 594, 3) := by decide +kernel
theorem dX13_registerNames_220 : decode cX13_registerNames 220 = .ok (.aload_n 0, 1) := by decide +kernel
theorem dX13_registerNames_221 : decode cX13_registerNames 221 = .ok (.bipush 8, 2) := by decide +kernel
theorem dX13_registerNames_223 : decode cX13_registerNames 223 = .ok (.iload 4, 2) := by decide +kernel
theorem dX13_registerNames_225 : decode cX13_registerNames 225 = .ok (.iadd, 1) := by decide +kernel
theorem dX13_registerNames_226 : decode cX13_registerNames 226 = .ok (.ldc_w 597, 3) := by decide +kernel
theorem dX13_registerNames_229 : decode cX13_registerNames 229 = .ok (.invokestatic 599, 3) := by decide +kernel
theorem dX13_registerNames_232 : decode cX13_registerNames 232 = .ok (.bipush 8, 2) := by decide +kernel
theorem dX13_registerNames_234 : decode cX13_registerNames 234 = .ok (.iload 4, 2) := by decide +kernel
theorem dX13_registerNames_236 : decode cX13_registerNames 236 = .ok (.iadd, 1) := by decide +kernel
theorem dX13_registerNames_237 : decode cX13_registerNames 237 = .ok (.sipush 2048, 3) := by decide +kernel
theorem dX13_registerNames_240 : decode cX13_registerNames 240 = .ok (.ior, 1) := by decide +kernel
theorem dX13_registerNames_241 : decode cX13_registerNames 241 = .ok (.invokevirtual 594, 3) := by decide +kernel
theorem dX13_registerNames_244 : decode cX13_registerNames 244 = .ok (.aload_n 0, 1) := by decide +kernel
theorem dX13_registerNames_245 : decode cX13_registerNames 245 = .ok (.bipush 8, 2) := by decide +kernel
theorem dX13_registerNames_247 : decode cX13_registerNames 247 = .ok (.iload 4, 2) := by decide +kernel
theorem dX13_registerNames_249 : decode cX13_registerNames 249 = .ok (.iadd, 1) := by decide +kernel
theorem dX13_registerNames_250 : decode cX13_registerNames 250 = .ok (.ldc_w 603, 3) := by decide +kernel
theorem dX13_registerNames_253 : decode cX13_registerNames 253 = .ok (.invokestatic 599, 3) := by decide +kernel
theorem dX13_registerNames_256 : decode cX13_registerNames 256 = .ok (.bipush 8, 2) := by decide +kernel
theorem dX13_registerNames_258 : decode cX13_registerNames 258 = .ok (.iload 4, 2) := by decide +kernel
theorem dX13_registerNames_260 : decode cX13_registerNames 260 = .ok (.iadd, 1) := by decide +kernel
theorem dX13_registerNames_261 : decode cX13_registerNames 261 = .ok (.sipush 1024, 3) := by decide +kernel
theorem dX13_registerNames_264 : decode cX13_registerNames 264 = .ok (.ior, 1) := by decide +kernel
theorem dX13_registerNames_265 : decode cX13_registerNames 265 = .ok (.invokevirtual 594, 3) := by decide +kernel
theorem dX13_registerNames_268 : decode cX13_registerNames 268 = .ok (.aload_n 0, 1) := by decide +kernel
theorem dX13_registerNames_269 : decode cX13_registerNames 269 = .ok (.bipush 8, 2) := by decide +kernel
theorem dX13_registerNames_271 : decode cX13_registerNames 271 = .ok (.iload 4, 2) := by decide +kernel
theorem dX13_registerNames_273 : decode cX13_registerNames 273 = .ok (.iadd, 1) := by decide +kernel
theorem dX13_registerNames_274 : decode cX13_registerNames 274 = .ok (.ldc_w 490, 3) := by decide +kernel
theorem dX13_registerNames_277 : decode cX13_registerNames 277 = .ok (.invokestatic 599, 3) := by decide +kernel
theorem dX13_registerNames_280 : decode cX13_registerNames 280 = .ok (.bipush 8, 2) := by decide +kernel
theorem dX13_registerNames_282 : decode cX13_registerNames 282 = .ok (.iload 4, 2) := by decide +kernel
theorem dX13_registerNames_284 : decode cX13_registerNames 284 = .ok (.iadd, 1) := by decide +kernel
theorem dX13_registerNames_285 : decode cX13_registerNames 285 = .ok (.sipush 256, 3) := by decide +kernel
theorem dX13_registerNames_288 : decode cX13_registerNames 288 = .ok (.ior, 1) := by decide +kernel
theorem dX13_registerNames_289 : decode cX13_registerNames 289 = .ok (.invokevirtual 594, 3) := by decide +kernel
theorem dX13_registerNames_292 : decode cX13_registerNames 292 = .ok (.iinc 4 1, 3) := by decide +kernel
theorem dX13_registerNames_295 : decode cX13_registerNames 295 = .ok (.goto (-124), 3) := by decide +kernel
theorem dX13_registerNames_298 : decode cX13_registerNames 298 = .ok (.return_, 1) := by decide +kernel
theorem dX13_registerNamed_0 : decode cX13_registerNamed 0 = .ok (.aload_n 0, 1) := by decide +kernel
theorem dX13_registerNamed_1 : decode cX13_registerNamed 1 = .ok (.getfield 18, 3) := by decide +kernel
theorem dX13_registerNamed_4 : decode cX13_registerNamed 4 = .ok (.aload_n 0, 1) := by decide +kernel
theorem dX13_registerNamed_5 : decode cX13_registerNamed 5 = .ok (.getfield 605, 3) := by decide +kernel
theorem dX13_registerNamed_8 : decode cX13_registerNamed 8 = .ok (.aload_n 1, 1) := by decide +kernel
theorem dX13_registerNamed_9 : decode cX13_registerNamed 9 = .ok (.invokestatic 419, 3) := by decide +kernel
theorem dX13_registerNamed_12 : decode cX13_registerNamed 12 = .ok (.lastore, 1) := by decide +kernel
theorem dX13_registerNamed_13 : decode cX13_registerNamed 13 = .ok (.aload_n 0, 1) := by decide +kernel
theorem dX13_registerNamed_14 : decode cX13_registerNamed 14 = .ok (.getfield 25, 3) := by decide +kernel
theorem dX13_registerNamed_17 : decode cX13_registerNamed 17 = .ok (.aload_n 0, 1) := by decide +kernel
theorem dX13_registerNamed_18 : decode cX13_registerNamed 18 = .ok (.getfield 605, 3) := by decide +kernel
theorem dX13_registerNamed_21 : decode cX13_registerNamed 21 = .ok (.iload_n 2, 1) := by decide +kernel
theorem dX13_registerNamed_22 : decode cX13_registerNamed 22 = .ok (.iastore, 1) := by decide +kernel
theorem dX13_registerNamed_23 : decode cX13_registerNamed 23 = .ok (.aload_n 0, 1) := by decide +kernel
theorem dX13_registerNamed_24 : decode cX13_registerNamed 24 = .ok (.dup, 1) := by decide +kernel
theorem dX13_registerNamed_25 : decode cX13_registerNamed 25 = .ok (.getfield 605, 3) := by decide +kernel
theorem dX13_registerNamed_28 : decode cX13_registerNamed 28 = .ok (.iconst 1, 1) := by decide +kernel
theorem dX13_registerNamed_29 : decode cX13_registerNamed 29 = .ok (.iadd, 1) := by decide +kernel
theorem dX13_registerNamed_30 : decode cX13_registerNamed 30 = .ok (.putfield 605, 3) := by decide +kernel
theorem dX13_registerNamed_33 : decode cX13_registerNamed 33 = .ok (.return_, 1) := by decide +kernel
theorem dX13_row_0 : decode cX13_row 0 = .ok (.aload_n 0, 1) := by decide +kernel
theorem dX13_row_1 : decode cX13_row 1 = .ok (.getfield 258, 3) := by decide +kernel
theorem dX13_row_4 : decode cX13_row 4 = .ok (.aload_n 0, 1) := by decide +kernel
theorem dX13_row_5 : decode cX13_row 5 = .ok (.getfield 1075, 3) := by decide +kernel
theorem dX13_row_8 : decode cX13_row 8 = .ok (.iload_n 1, 1) := by decide +kernel
theorem dX13_row_9 : decode cX13_row 9 = .ok (.iastore, 1) := by decide +kernel
theorem dX13_row_10 : decode cX13_row 10 = .ok (.aload_n 0, 1) := by decide +kernel
theorem dX13_row_11 : decode cX13_row 11 = .ok (.getfield 261, 3) := by decide +kernel
theorem dX13_row_14 : decode cX13_row 14 = .ok (.aload_n 0, 1) := by decide +kernel
theorem dX13_row_15 : decode cX13_row 15 = .ok (.getfield 1075, 3) := by decide +kernel
theorem dX13_row_18 : decode cX13_row 18 = .ok (.iload_n 2, 1) := by decide +kernel
theorem dX13_row_19 : decode cX13_row 19 = .ok (.iastore, 1) := by decide +kernel
theorem dX13_row_20 : decode cX13_row 20 = .ok (.aload_n 0, 1) := by decide +kernel
theorem dX13_row_21 : decode cX13_row 21 = .ok (.getfield 264, 3) := by decide +kernel
theorem dX13_row_24 : decode cX13_row 24 = .ok (.aload_n 0, 1) := by decide +kernel
theorem dX13_row_25 : decode cX13_row 25 = .ok (.getfield 1075, 3) := by decide +kernel
theorem dX13_row_28 : decode cX13_row 28 = .ok (.iload_n 3, 1) := by decide +kernel
theorem dX13_row_29 : decode cX13_row 29 = .ok (.iastore, 1) := by decide +kernel
theorem dX13_row_30 : decode cX13_row 30 = .ok (.aload_n 0, 1) := by decide +kernel
theorem dX13_row_31 : decode cX13_row 31 = .ok (.getfield 267, 3) := by decide +kernel
theorem dX13_row_34 : decode cX13_row 34 = .ok (.aload_n 0, 1) := by decide +kernel
theorem dX13_row_35 : decode cX13_row 35 = .ok (.getfield 1075, 3) := by decide +kernel
theorem dX13_row_38 : decode cX13_row 38 = .ok (.iload 4, 2) := by decide +kernel
theorem dX13_row_40 : decode cX13_row 40 = .ok (.iastore, 1) := by decide +kernel
theorem dX13_row_41 : decode cX13_row 41 = .ok (.aload_n 0, 1) := by decide +kernel
theorem dX13_row_42 : decode cX13_row 42 = .ok (.getfield 270, 3) := by decide +kernel
theorem dX13_row_45 : decode cX13_row 45 = .ok (.aload_n 0, 1) := by decide +kernel
theorem dX13_row_46 : decode cX13_row 46 = .ok (.getfield 1075, 3) := by decide +kernel
theorem dX13_row_49 : decode cX13_row 49 = .ok (.iload 5, 2) := by decide +kernel
theorem dX13_row_51 : decode cX13_row 51 = .ok (.iastore, 1) := by decide +kernel
theorem dX13_row_52 : decode cX13_row 52 = .ok (.aload_n 0, 1) := by decide +kernel
theorem dX13_row_53 : decode cX13_row 53 = .ok (.getfield 273, 3) := by decide +kernel
theorem dX13_row_56 : decode cX13_row 56 = .ok (.aload_n 0, 1) := by decide +kernel
theorem dX13_row_57 : decode cX13_row 57 = .ok (.getfield 1075, 3) := by decide +kernel
theorem dX13_row_60 : decode cX13_row 60 = .ok (.iload 6, 2) := by decide +kernel
theorem dX13_row_62 : decode cX13_row 62 = .ok (.iastore, 1) := by decide +kernel
theorem dX13_row_63 : decode cX13_row 63 = .ok (.aload_n 0, 1) := by decide +kernel
theorem dX13_row_64 : decode cX13_row 64 = .ok (.getfield 276, 3) := by decide +kernel
theorem dX13_row_67 : decode cX13_row 67 = .ok (.aload_n 0, 1) := by decide +kernel
theorem dX13_row_68 : decode cX13_row 68 = .ok (.getfield 1075, 3) := by decide +kernel
theorem dX13_row_71 : decode cX13_row 71 = .ok (.iload 7, 2) := by decide +kernel
theorem dX13_row_73 : decode cX13_row 73 = .ok (.iastore, 1) := by decide +kernel
theorem dX13_row_74 : decode cX13_row 74 = .ok (.aload_n 0, 1) := by decide +kernel
theorem dX13_row_75 : decode cX13_row 75 = .ok (.dup, 1) := by decide +kernel
theorem dX13_row_76 : decode cX13_row 76 = .ok (.getfield 1075, 3) := by decide +kernel
theorem dX13_row_79 : decode cX13_row 79 = .ok (.iconst 1, 1) := by decide +kernel
theorem dX13_row_80 : decode cX13_row 80 = .ok (.iadd, 1) := by decide +kernel
theorem dX13_row_81 : decode cX13_row 81 = .ok (.putfield 1075, 3) := by decide +kernel
theorem dX13_row_84 : decode cX13_row 84 = .ok (.return_, 1) := by decide +kernel
theorem dX13_fillTable_0 : decode cX13_fillTable 0 = .ok (.iconst 0, 1) := by decide +kernel
theorem dX13_fillTable_1 : decode cX13_fillTable 1 = .ok (.istore_n 1, 1) := by decide +kernel
theorem dX13_fillTable_2 : decode cX13_fillTable 2 = .ok (.iload_n 1, 1) := by decide +kernel
theorem dX13_fillTable_3 : decode cX13_fillTable 3 = .ok (.bipush 8, 2) := by decide +kernel
theorem dX13_fillTable_5 : decode cX13_fillTable 5 = .ok (.if_icmp .ge 84, 3) := by decide +kernel
theorem dX13_fillTable_8 : decode cX13_fillTable 8 = .ok (.aload_n 0, 1) := by decide +kernel
theorem dX13_fillTable_9 : decode cX13_fillTable 9 = .ok (.iload_n 1, 1) := by decide +kernel
theorem dX13_fillTable_10 : decode cX13_fillTable 10 = .ok (.iconst 0, 1) := by decide +kernel
theorem dX13_fillTable_11 : decode cX13_fillTable 11 = .ok (.iconst 1, 1) := by decide +kernel
theorem dX13_fillTable_12 : decode cX13_fillTable 12 = .ok (.iconst 0, 1) := by decide +kernel
theorem dX13_fillTable_13 : decode cX13_fillTable 13 = .ok (.bipush 8, 2) := by decide +kernel
theorem dX13_fillTable_15 : decode cX13_fillTable 15 = .ok (.iload_n 1, 1) := by decide +kernel
theorem dX13_fillTable_16 : decode cX13_fillTable 16 = .ok (.imul, 1) := by decide +kernel
theorem dX13_fillTable_17 : decode cX13_fillTable 17 = .ok (.bipush 9, 2) := by decide +kernel
theorem dX13_fillTable_19 : decode cX13_fillTable 19 = .ok (.iconst 0, 1) := by decide +kernel
theorem dX13_fillTable_20 : decode cX13_fillTable 20 = .ok (.invokevirtual 1103, 3) := by decide +kernel
theorem dX13_fillTable_23 : decode cX13_fillTable 23 = .ok (.aload_n 0, 1) := by decide +kernel
theorem dX13_fillTable_24 : decode cX13_fillTable 24 = .ok (.iload_n 1, 1) := by decide +kernel
theorem dX13_fillTable_25 : decode cX13_fillTable 25 = .ok (.iconst 0, 1) := by decide +kernel
theorem dX13_fillTable_26 : decode cX13_fillTable 26 = .ok (.iconst 2, 1) := by decide +kernel
theorem dX13_fillTable_27 : decode cX13_fillTable 27 = .ok (.iconst 0, 1) := by decide +kernel
theorem dX13_fillTable_28 : decode cX13_fillTable 28 = .ok (.bipush 8, 2) := by decide +kernel
theorem dX13_fillTable_30 : decode cX13_fillTable 30 = .ok (.iload_n 1, 1) := by decide +kernel
theorem dX13_fillTable_31 : decode cX13_fillTable 31 = .ok (.imul, 1) := by decide +kernel
theorem dX13_fillTable_32 : decode cX13_fillTable 32 = .ok (.iconst 2, 1) := by decide +kernel
theorem dX13_fillTable_33 : decode cX13_fillTable 33 = .ok (.iadd, 1) := by decide +kernel
theorem dX13_fillTable_34 : decode cX13_fillTable 34 = .ok (.bipush 9, 2) := by decide +kernel
theorem dX13_fillTable_36 : decode cX13_fillTable 36 = .ok (.iconst 0, 1) := by decide +kernel
theorem dX13_fillTable_37 : decode cX13_fillTable 37 = .ok (.invokevirtual 1103, 3) := by decide +kernel
theorem dX13_fillTable_40 : decode cX13_fillTable 40 = .ok (.aload_n 0, 1) := by decide +kernel
theorem dX13_fillTable_41 : decode cX13_fillTable 41 = .ok (.iload_n 1, 1) := by decide +kernel
theorem dX13_fillTable_42 : decode cX13_fillTable 42 = .ok (.iconst 0, 1) := by decide +kernel
theorem dX13_fillTable_43 : decode cX13_fillTable 43 = .ok (.iconst 3, 1) := by decide +kernel
theorem dX13_fillTable_44 : decode cX13_fillTable 44 = .ok (.iconst 0, 1) := by decide +kernel
theorem dX13_fillTable_45 : decode cX13_fillTable 45 = .ok (.bipush 8, 2) := by decide +kernel
theorem dX13_fillTable_47 : decode cX13_fillTable 47 = .ok (.iload_n 1, 1) := by decide +kernel
theorem dX13_fillTable_48 : decode cX13_fillTable 48 = .ok (.imul, 1) := by decide +kernel
theorem dX13_fillTable_49 : decode cX13_fillTable 49 = .ok (.iconst 4, 1) := by decide +kernel
theorem dX13_fillTable_50 : decode cX13_fillTable 50 = .ok (.iadd, 1) := by decide +kernel
theorem dX13_fillTable_51 : decode cX13_fillTable 51 = .ok (.bipush 9, 2) := by decide +kernel
theorem dX13_fillTable_53 : decode cX13_fillTable 53 = .ok (.iconst 1, 1) := by decide +kernel
theorem dX13_fillTable_54 : decode cX13_fillTable 54 = .ok (.invokevirtual 1103, 3) := by decide +kernel
theorem dX13_fillTable_57 : decode cX13_fillTable 57 = .ok (.aload_n 0, 1) := by decide +kernel
theorem dX13_fillTable_58 : decode cX13_fillTable 58 = .ok (.iload_n 1, 1) := by decide +kernel
theorem dX13_fillTable_59 : decode cX13_fillTable 59 = .ok (.iconst 0, 1) := by decide +kernel
theorem dX13_fillTable_60 : decode cX13_fillTable 60 = .ok (.iconst 4, 1) := by decide +kernel
theorem dX13_fillTable_61 : decode cX13_fillTable 61 = .ok (.iconst 0, 1) := by decide +kernel
theorem dX13_fillTable_62 : decode cX13_fillTable 62 = .ok (.sipush 128, 3) := by decide +kernel
theorem dX13_fillTable_65 : decode cX13_fillTable 65 = .ok (.iload_n 1, 1) := by decide +kernel
theorem dX13_fillTable_66 : decode cX13_fillTable 66 = .ok (.iconst 1, 1) := by decide +kernel
theorem dX13_fillTable_67 : decode cX13_fillTable 67 = .ok (.invokevirtual 1103, 3) := by decide +kernel
theorem dX13_fillTable_70 : decode cX13_fillTable 70 = .ok (.aload_n 0, 1) := by decide +kernel
theorem dX13_fillTable_71 : decode cX13_fillTable 71 = .ok (.iload_n 1, 1) := by decide +kernel
theorem dX13_fillTable_72 : decode cX13_fillTable 72 = .ok (.iconst 1, 1) := by decide +kernel
theorem dX13_fillTable_73 : decode cX13_fillTable 73 = .ok (.iconst 4, 1) := by decide +kernel
theorem dX13_fillTable_74 : decode cX13_fillTable 74 = .ok (.iconst 0, 1) := by decide +kernel
theorem dX13_fillTable_75 : decode cX13_fillTable 75 = .ok (.sipush 131, 3) := by decide +kernel
theorem dX13_fillTable_78 : decode cX13_fillTable 78 = .ok (.iload_n 1, 1) := by decide +kernel
theorem dX13_fillTable_79 : decode cX13_fillTable 79 = .ok (.iconst 2, 1) := by decide +kernel
theorem dX13_fillTable_80 : decode cX13_fillTable 80 = .ok (.invokevirtual 1103, 3) := by decide +kernel
theorem dX13_fillTable_83 : decode cX13_fillTable 83 = .ok (.iinc 1 1, 3) := by decide +kernel
theorem dX13_fillTable_86 : decode cX13_fillTable 86 = .ok (.goto (-84), 3) := by decide +kernel
theorem dX13_fillTable_89 : decode cX13_fillTable 89 = .ok (.aload_n 0, 1) := by decide +kernel
theorem dX13_fillTable_90 : decode cX13_fillTable 90 = .ok (.bipush 8, 2) := by decide +kernel
theorem dX13_fillTable_92 : decode cX13_fillTable 92 = .ok (.iconst 0, 1) := by decide +kernel
theorem dX13_fillTable_93 : decode cX13_fillTable 93 = .ok (.iconst 1, 1) := by decide +kernel
theorem dX13_fillTable_94 : decode cX13_fillTable 94 = .ok (.iconst 0, 1) := by decide +kernel
theorem dX13_fillTable_95 : decode cX13_fillTable 95 = .ok (.sipush 136, 3) := by decide +kernel
theorem dX13_fillTable_98 : decode cX13_fillTable 98 = .ok (.bipush 9, 2) := by decide +kernel
theorem dX13_fillTable_100 : decode cX13_fillTable 100 = .ok (.iconst 0, 1) := by decide +kernel
theorem dX13_fillTable_101 : decode cX13_fillTable 101 = .ok (.invokevirtual 1103, 3) := by decide +kernel
theorem dX13_fillTable_104 : decode cX13_fillTable 104 = .ok (.aload_n 0, 1) := by decide +kernel
theorem dX13_fillTable_105 : decode cX13_fillTable 105 = .ok (.bipush 8, 2) := by decide +kernel
theorem dX13_fillTable_107 : decode cX13_fillTable 107 = .ok (.iconst 0, 1) := by decide +kernel
theorem dX13_fillTable_108 : decode cX13_fillTable 108 = .ok (.iconst 2, 1) := by decide +kernel
theorem dX13_fillTable_109 : decode cX13_fillTable 109 = .ok (.iconst 0, 1) := by decide +kernel
theorem dX13_fillTable_110 : decode cX13_fillTable 110 = .ok (.sipush 138, 3) := by decide +kernel
theorem dX13_fillTable_113 : decode cX13_fillTable 113 = .ok (.bipush 9, 2) := by decide +kernel
theorem dX13_fillTable_115 : decode cX13_fillTable 115 = .ok (.iconst 0, 1) := by decide +kernel
theorem dX13_fillTable_116 : decode cX13_fillTable 116 = .ok (.invokevirtual 1103, 3) := by decide +kernel
theorem dX13_fillTable_119 : decode cX13_fillTable 119 = .ok (.aload_n 0, 1) := by decide +kernel
theorem dX13_fillTable_120 : decode cX13_fillTable 120 = .ok (.bipush 8, 2) := by decide +kernel
theorem dX13_fillTable_122 : decode cX13_fillTable 122 = .ok (.iconst 0, 1) := by decide +kernel
theorem dX13_fillTable_123 : decode cX13_fillTable 123 = .ok (.iconst 4, 1) := by decide +kernel
theorem dX13_fillTable_124 : decode cX13_fillTable 124 = .ok (.iconst 0, 1) := by decide +kernel
theorem dX13_fillTable_125 : decode cX13_fillTable 125 = .ok (.sipush 198, 3) := by decide +kernel
theorem dX13_fillTable_128 : decode cX13_fillTable 128 = .ok (.iconst 0, 1) := by decide +kernel
theorem dX13_fillTable_129 : decode cX13_fillTable 129 = .ok (.iconst 1, 1) := by decide +kernel
theorem dX13_fillTable_130 : decode cX13_fillTable 130 = .ok (.invokevirtual 1103, 3) := by decide +kernel
theorem dX13_fillTable_133 : decode cX13_fillTable 133 = .ok (.aload_n 0, 1) := by decide +kernel
theorem dX13_fillTable_134 : decode cX13_fillTable 134 = .ok (.bipush 8, 2) := by decide +kernel
theorem dX13_fillTable_136 : decode cX13_fillTable 136 = .ok (.iconst 5, 1) := by decide +kernel
theorem dX13_fillTable_137 : decode cX13_fillTable 137 = .ok (.bipush 6, 2) := by decide +kernel
theorem dX13_fillTable_139 : decode cX13_fillTable 139 = .ok (.iconst 0, 1) := by decide +kernel
theorem dX13_fillTable_140 : decode cX13_fillTable 140 = .ok (.sipush 176, 3) := by decide +kernel
theorem dX13_fillTable_143 : decode cX13_fillTable 143 = .ok (.bipush 9, 2) := by decide +kernel
theorem dX13_fillTable_145 : decode cX13_fillTable 145 = .ok (.iconst 2, 1) := by decide +kernel
theorem dX13_fillTable_146 : decode cX13_fillTable 146 = .ok (.invokevirtual 1103, 3) := by decide +kernel
theorem dX13_fillTable_149 : decode cX13_fillTable 149 = .ok (.aload_n 0, 1) := by decide +kernel
theorem dX13_fillTable_150 : decode cX13_fillTable 150 = .ok (.bipush 8, 2) := by decide +kernel
theorem dX13_fillTable_152 : decode cX13_fillTable 152 = .ok (.bipush 6, 2) := by decide +kernel
theorem dX13_fillTable_154 : decode cX13_fillTable 154 = .ok (.bipush 6, 2) := by decide +kernel
theorem dX13_fillTable_156 : decode cX13_fillTable 156 = .ok (.iconst 0, 1) := by decide +kernel
theorem dX13_fillTable_157 : decode cX13_fillTable 157 = .ok (.sipush 184, 3) := by decide +kernel
theorem dX13_fillTable_160 : decode cX13_fillTable 160 = .ok (.bipush 9, 2) := by decide +kernel
theorem dX13_fillTable_162 : decode cX13_fillTable 162 = .ok (.iconst 3, 1) := by decide +kernel
theorem dX13_fillTable_163 : decode cX13_fillTable 163 = .ok (.invokevirtual 1103, 3) := by decide +kernel
theorem dX13_fillTable_166 : decode cX13_fillTable 166 = .ok (.aload_n 0, 1) := by decide +kernel
theorem dX13_fillTable_167 : decode cX13_fillTable 167 = .ok (.bipush 8, 2) := by decide +kernel
theorem dX13_fillTable_169 : decode cX13_fillTable 169 = .ok (.bipush 7, 2) := by decide +kernel
theorem dX13_fillTable_171 : decode cX13_fillTable 171 = .ok (.bipush 6, 2) := by decide +kernel
theorem dX13_fillTable_173 : decode cX13_fillTable 173 = .ok (.iconst 0, 1) := by decide +kernel
theorem dX13_fillTable_174 : decode cX13_fillTable 174 = .ok (.sipush 184, 3) := by decide +kernel
theorem dX13_fillTable_177 : decode cX13_fillTable 177 = .ok (.bipush 9, 2) := by decide +kernel
theorem dX13_fillTable_179 : decode cX13_fillTable 179 = .ok (.iconst 4, 1) := by decide +kernel
theorem dX13_fillTable_180 : decode cX13_fillTable 180 = .ok (.invokevirtual 1103, 3) := by decide +kernel
theorem dX13_fillTable_183 : decode cX13_fillTable 183 = .ok (.aload_n 0, 1) := by decide +kernel
theorem dX13_fillTable_184 : decode cX13_fillTable 184 = .ok (.bipush 9, 2) := by decide +kernel
theorem dX13_fillTable_186 : decode cX13_fillTable 186 = .ok (.iconst 0, 1) := by decide +kernel
theorem dX13_fillTable_187 : decode cX13_fillTable 187 = .ok (.iconst 1, 1) := by decide +kernel
theorem dX13_fillTable_188 : decode cX13_fillTable 188 = .ok (.iconst 0, 1) := by decide +kernel
theorem dX13_fillTable_189 : decode cX13_fillTable 189 = .ok (.sipush 132, 3) := by decide +kernel
theorem dX13_fillTable_192 : decode cX13_fillTable 192 = .ok (.bipush 9, 2) := by decide +kernel
theorem dX13_fillTable_194 : decode cX13_fillTable 194 = .ok (.iconst 0, 1) := by decide +kernel
theorem dX13_fillTable_195 : decode cX13_fillTable 195 = .ok (.invokevirtual 1103, 3) := by decide +kernel
theorem dX13_fillTable_198 : decode cX13_fillTable 198 = .ok (.aload_n 0, 1) := by decide +kernel
theorem dX13_fillTable_199 : decode cX13_fillTable 199 = .ok (.bipush 9, 2) := by decide +kernel
theorem dX13_fillTable_201 : decode cX13_fillTable 201 = .ok (.iconst 0, 1) := by decide +kernel
theorem dX13_fillTable_202 : decode cX13_fillTable 202 = .ok (.iconst 3, 1) := by decide +kernel
theorem dX13_fillTable_203 : decode cX13_fillTable 203 = .ok (.iconst 0, 1) := by decide +kernel
theorem dX13_fillTable_204 : decode cX13_fillTable 204 = .ok (.sipush 168, 3) := by decide +kernel
theorem dX13_fillTable_207 : decode cX13_fillTable 207 = .ok (.bipush 9, 2) := by decide +kernel
theorem dX13_fillTable_209 : decode cX13_fillTable 209 = .ok (.iconst 1, 1) := by decide +kernel
theorem dX13_fillTable_210 : decode cX13_fillTable 210 = .ok (.invokevirtual 1103, 3) := by decide +kernel
theorem dX13_fillTable_213 : decode cX13_fillTable 213 = .ok (.aload_n 0, 1) := by decide +kernel
theorem dX13_fillTable_214 : decode cX13_fillTable 214 = .ok (.bipush 9, 2) := by decide +kernel
theorem dX13_fillTable_216 : decode cX13_fillTable 216 = .ok (.iconst 0, 1) := by decide +kernel
theorem dX13_fillTable_217 : decode cX13_fillTable 217 = .ok (.iconst 4, 1) := by decide +kernel
theorem dX13_fillTable_218 : decode cX13_fillTable 218 = .ok (.iconst 0, 1) := by decide +kernel
theorem dX13_fillTable_219 : decode cX13_fillTable 219 = .ok (.sipush 246, 3) := by decide +kernel
theorem dX13_fillTable_222 : decode cX13_fillTable 222 = .ok (.iconst 0, 1) := by decide +kernel
theorem dX13_fillTable_223 : decode cX13_fillTable 223 = .ok (.iconst 1, 1) := by decide +kernel
theorem dX13_fillTable_224 : decode cX13_fillTable 224 = .ok (.invokevirtual 1103, 3) := by decide +kernel
theorem dX13_fillTable_227 : decode cX13_fillTable 227 = .ok (.aload_n 0, 1) := by decide +kernel
theorem dX13_fillTable_228 : decode cX13_fillTable 228 = .ok (.bipush 10, 2) := by decide +kernel
theorem dX13_fillTable_230 : decode cX13_fillTable 230 = .ok (.iconst 0, 1) := by decide +kernel
theorem dX13_fillTable_231 : decode cX13_fillTable 231 = .ok (.iconst 1, 1) := by decide +kernel
theorem dX13_fillTable_232 : decode cX13_fillTable 232 = .ok (.iconst 0, 1) := by decide +kernel
theorem dX13_fillTable_233 : decode cX13_fillTable 233 = .ok (.sipush 134, 3) := by decide +kernel
theorem dX13_fillTable_236 : decode cX13_fillTable 236 = .ok (.bipush 9, 2) := by decide +kernel
theorem dX13_fillTable_238 : decode cX13_fillTable 238 = .ok (.iconst 0, 1) := by decide +kernel
theorem dX13_fillTable_239 : decode cX13_fillTable 239 = .ok (.invokevirtual 1103, 3) := by decide +kernel
theorem dX13_fillTable_242 : decode cX13_fillTable 242 = .ok (.aload_n 0, 1) := by decide +kernel
theorem dX13_fillTable_243 : decode cX13_fillTable 243 = .ok (.bipush 11, 2) := by decide +kernel
theorem dX13_fillTable_245 : decode cX13_fillTable 245 = .ok (.iconst 1, 1) := by decide +kernel
theorem dX13_fillTable_246 : decode cX13_fillTable 246 = .ok (.bipush 7, 2) := by decide +kernel
theorem dX13_fillTable_248 : decode cX13_fillTable 248 = .ok (.iconst 0, 1) := by decide +kernel
theorem dX13_fillTable_249 : decode cX13_fillTable 249 = .ok (.sipush 141, 3) := by decide +kernel
theorem dX13_fillTable_252 : decode cX13_fillTable 252 = .ok (.bipush 9, 2) := by decide +kernel
theorem dX13_fillTable_254 : decode cX13_fillTable 254 = .ok (.iconst 0, 1) := by decide +kernel
theorem dX13_fillTable_255 : decode cX13_fillTable 255 = .ok (.invokevirtual 1103, 3) := by decide +kernel
theorem dX13_fillTable_258 : decode cX13_fillTable 258 = .ok (.aload_n 0, 1) := by decide +kernel
theorem dX13_fillTable_259 : decode cX13_fillTable 259 = .ok (.bipush 12, 2) := by decide +kernel
theorem dX13_fillTable_261 : decode cX13_fillTable 261 = .ok (.iconst 1, 1) := by decide +kernel
theorem dX13_fillTable_262 : decode cX13_fillTable 262 = .ok (.iconst 2, 1) := by decide +kernel
theorem dX13_fillTable_263 : decode cX13_fillTable 263 = .ok (.bipush 15, 2) := by decide +kernel
theorem dX13_fillTable_265 : decode cX13_fillTable 265 = .ok (.sipush 182, 3) := by decide +kernel
theorem dX13_fillTable_268 : decode cX13_fillTable 268 = .ok (.bipush 9, 2) := by decide +kernel
theorem dX13_fillTable_270 : decode cX13_fillTable 270 = .ok (.iconst 0, 1) := by decide +kernel
theorem dX13_fillTable_271 : decode cX13_fillTable 271 = .ok (.invokevirtual 1103, 3) := by decide +kernel
theorem dX13_fillTable_274 : decode cX13_fillTable 274 = .ok (.aload_n 0, 1) := by decide +kernel
theorem dX13_fillTable_275 : decode cX13_fillTable 275 = .ok (.bipush 13, 2) := by decide +kernel
theorem dX13_fillTable_277 : decode cX13_fillTable 277 = .ok (.iconst 1, 1) := by decide +kernel
theorem dX13_fillTable_278 : decode cX13_fillTable 278 = .ok (.iconst 2, 1) := by decide +kernel
theorem dX13_fillTable_279 : decode cX13_fillTable 279 = .ok (.bipush 15, 2) := by decide +kernel
theorem dX13_fillTable_281 : decode cX13_fillTable 281 = .ok (.sipush 190, 3) := by decide +kernel
theorem dX13_fillTable_284 : decode cX13_fillTable 284 = .ok (.bipush 9, 2) := by decide +kernel
theorem dX13_fillTable_286 : decode cX13_fillTable 286 = .ok (.iconst 0, 1) := by decide +kernel
theorem dX13_fillTable_287 : decode cX13_fillTable 287 = .ok (.invokevirtual 1103, 3) := by decide +kernel
theorem dX13_fillTable_290 : decode cX13_fillTable 290 = .ok (.aload_n 0, 1) := by decide +kernel
theorem dX13_fillTable_291 : decode cX13_fillTable 291 = .ok (.bipush 14, 2) := by decide +kernel
theorem dX13_fillTable_293 : decode cX13_fillTable 293 = .ok (.iconst 3, 1) := by decide +kernel
theorem dX13_fillTable_294 : decode cX13_fillTable 294 = .ok (.iconst 2, 1) := by decide +kernel
theorem dX13_fillTable_295 : decode cX13_fillTable 295 = .ok (.iconst 0, 1) := by decide +kernel
theorem dX13_fillTable_296 : decode cX13_fillTable 296 = .ok (.bipush 99, 2) := by decide +kernel
theorem dX13_fillTable_298 : decode cX13_fillTable 298 = .ok (.bipush 9, 2) := by decide +kernel
theorem dX13_fillTable_300 : decode cX13_fillTable 300 = .ok (.iconst 0, 1) := by decide +kernel
theorem dX13_fillTable_301 : decode cX13_fillTable 301 = .ok (.invokevirtual 1103, 3) := by decide +kernel
theorem dX13_fillTable_304 : decode cX13_fillTable 304 = .ok (.iconst 2, 1) := by decide +kernel
theorem dX13_fillTable_305 : decode cX13_fillTable 305 = .ok (.istore_n 1, 1) := by decide +kernel
theorem dX13_fillTable_306 : decode cX13_fillTable 306 = .ok (.iload_n 1, 1) := by decide +kernel
theorem dX13_fillTable_307 : decode cX13_fillTable 307 = .ok (.bipush 8, 2) := by decide +kernel
theorem dX13_fillTable_309 : decode cX13_fillTable 309 = .ok (.if_icmp .ge 26, 3) := by decide +kernel
theorem dX13_fillTable_312 : decode cX13_fillTable 312 = .ok (.aload_n 0, 1) := by decide +kernel
theorem dX13_fillTable_313 : decode cX13_fillTable 313 = .ok (.bipush 13, 2) := by decide +kernel
theorem dX13_fillTable_315 : decode cX13_fillTable 315 = .ok (.iload_n 1, 1) := by decide +kernel
theorem dX13_fillTable_316 : decode cX13_fillTable 316 = .ok (.iadd, 1) := by decide +kernel
theorem dX13_fillTable_317 : decode cX13_fillTable 317 = .ok (.iconst 0, 1) := by decide +kernel
theorem dX13_fillTable_318 : decode cX13_fillTable 318 = .ok (.bipush 8, 2) := by decide +kernel
theorem dX13_fillTable_320 : decode cX13_fillTable 320 = .ok (.iconst 0, 1) := by decide +kernel
theorem dX13_fillTable_321 : decode cX13_fillTable 321 = .ok (.sipush 246, 3) := by decide +kernel
theorem dX13_fillTable_324 : decode cX13_fillTable 324 = .ok (.iload_n 1, 1) := by decide +kernel
theorem dX13_fillTable_325 : decode cX13_fillTable 325 = .ok (.iconst 0, 1) := by decide +kernel
theorem dX13_fillTable_326 : decode cX13_fillTable 326 = .ok (.invokevirtual 1103, 3) := by decide +kernel
theorem dX13_fillTable_329 : decode cX13_fillTable 329 = .ok (.iinc 1 1, 3) := by decide +kernel
theorem dX13_fillTable_332 : decode cX13_fillTable 332 = .ok (.goto (-26), 3) := by decide +kernel
theorem dX13_fillTable_335 : decode cX13_fillTable 335 = .ok (.aload_n 0, 1) := by decide +kernel
theorem dX13_fillTable_336 : decode cX13_fillTable 336 = .ok (.bipush 21, 2) := by decide +kernel
theorem dX13_fillTable_338 : decode cX13_fillTable 338 = .ok (.iconst 0, 1) := by decide +kernel
theorem dX13_fillTable_339 : decode cX13_fillTable 339 = .ok (.bipush 8, 2) := by decide +kernel
theorem dX13_fillTable_341 : decode cX13_fillTable 341 = .ok (.iconst 0, 1) := by decide +kernel
theorem dX13_fillTable_342 : decode cX13_fillTable 342 = .ok (.sipush 254, 3) := by decide +kernel
theorem dX13_fillTable_345 : decode cX13_fillTable 345 = .ok (.iconst 0, 1) := by decide +kernel
theorem dX13_fillTable_346 : decode cX13_fillTable 346 = .ok (.iconst 0, 1) := by decide +kernel
theorem dX13_fillTable_347 : decode cX13_fillTable 347 = .ok (.invokevirtual 1103, 3) := by decide +kernel
theorem dX13_fillTable_350 : decode cX13_fillTable 350 = .ok (.aload_n 0, 1) := by decide +kernel
theorem dX13_fillTable_351 : decode cX13_fillTable 351 = .ok (.bipush 22, 2) := by decide +kernel
theorem dX13_fillTable_353 : decode cX13_fillTable 353 = .ok (.iconst 0, 1) := by decide +kernel
theorem dX13_fillTable_354 : decode cX13_fillTable 354 = .ok (.bipush 8, 2) := by decide +kernel
theorem dX13_fillTable_356 : decode cX13_fillTable 356 = .ok (.iconst 0, 1) := by decide +kernel
theorem dX13_fillTable_357 : decode cX13_fillTable 357 = .ok (.sipush 254, 3) := by decide +kernel
theorem dX13_fillTable_360 : decode cX13_fillTable 360 = .ok (.iconst 1, 1) := by decide +kernel
theorem dX13_fillTable_361 : decode cX13_fillTable 361 = .ok (.iconst 0, 1) := by decide +kernel
theorem dX13_fillTable_362 : decode cX13_fillTable 362 = .ok (.invokevirtual 1103, 3) := by decide +kernel
theorem dX13_fillTable_365 : decode cX13_fillTable 365 = .ok (.aload_n 0, 1) := by decide +kernel
theorem dX13_fillTable_366 : decode cX13_fillTable 366 = .ok (.bipush 23, 2) := by decide +kernel
theorem dX13_fillTable_368 : decode cX13_fillTable 368 = .ok (.iconst 1, 1) := by decide +kernel
theorem dX13_fillTable_369 : decode cX13_fillTable 369 = .ok (.iconst 2, 1) := by decide +kernel
theorem dX13_fillTable_370 : decode cX13_fillTable 370 = .ok (.bipush 15, 2) := by decide +kernel
theorem dX13_fillTable_372 : decode cX13_fillTable 372 = .ok (.sipush 175, 3) := by decide +kernel
theorem dX13_fillTable_375 : decode cX13_fillTable 375 = .ok (.bipush 9, 2) := by decide +kernel
theorem dX13_fillTable_377 : decode cX13_fillTable 377 = .ok (.iconst 0, 1) := by decide +kernel
theorem dX13_fillTable_378 : decode cX13_fillTable 378 = .ok (.invokevirtual 1103, 3) := by decide +kernel
theorem dX13_fillTable_381 : decode cX13_fillTable 381 = .ok (.aload_n 0, 1) := by decide +kernel
theorem dX13_fillTable_382 : decode cX13_fillTable 382 = .ok (.bipush 23, 2) := by decide +kernel
theorem dX13_fillTable_384 : decode cX13_fillTable 384 = .ok (.iconst 1, 1) := by decide +kernel
theorem dX13_fillTable_385 : decode cX13_fillTable 385 = .ok (.bipush 9, 2) := by decide +kernel
theorem dX13_fillTable_387 : decode cX13_fillTable 387 = .ok (.iconst 0, 1) := by decide +kernel
theorem dX13_fillTable_388 : decode cX13_fillTable 388 = .ok (.bipush 105, 2) := by decide +kernel
theorem dX13_fillTable_390 : decode cX13_fillTable 390 = .ok (.bipush 9, 2) := by decide +kernel
theorem dX13_fillTable_392 : decode cX13_fillTable 392 = .ok (.iconst 3, 1) := by decide +kernel
theorem dX13_fillTable_393 : decode cX13_fillTable 393 = .ok (.invokevirtual 1103, 3) := by decide +kernel
theorem dX13_fillTable_396 : decode cX13_fillTable 396 = .ok (.aload_n 0, 1) := by decide +kernel
theorem dX13_fillTable_397 : decode cX13_fillTable 397 = .ok (.bipush 23, 2) := by decide +kernel
theorem dX13_fillTable_399 : decode cX13_fillTable 399 = .ok (.iconst 1, 1) := by decide +kernel
theorem dX13_fillTable_400 : decode cX13_fillTable 400 = .ok (.bipush 9, 2) := by decide +kernel
theorem dX13_fillTable_402 : decode cX13_fillTable 402 = .ok (.iconst 0, 1) := by decide +kernel
theorem dX13_fillTable_403 : decode cX13_fillTable 403 = .ok (.bipush 107, 2) := by decide +kernel
theorem dX13_fillTable_405 : decode cX13_fillTable 405 = .ok (.bipush 9, 2) := by decide +kernel
theorem dX13_fillTable_407 : decode cX13_fillTable 407 = .ok (.iconst 2, 1) := by decide +kernel
theorem dX13_fillTable_408 : decode cX13_fillTable 408 = .ok (.invokevirtual 1103, 3) := by decide +kernel
theorem dX13_fillTable_411 : decode cX13_fillTable 411 = .ok (.iconst 0, 1) := by decide +kernel
theorem dX13_fillTable_412 : decode cX13_fillTable 412 = .ok (.istore_n 1, 1) := by decide +kernel
theorem dX13_fillTable_413 : decode cX13_fillTable 413 = .ok (.iload_n 1, 1) := by decide +kernel
theorem dX13_fillTable_414 : decode cX13_fillTable 414 = .ok (.iconst 5, 1) := by decide +kernel
theorem dX13_fillTable_415 : decode cX13_fillTable 415 = .ok (.if_icmp .ge 83, 3) := by decide +kernel
theorem dX13_fillTable_418 : decode cX13_fillTable 418 = .ok (.iload_n 1, 1) := by decide +kernel
theorem dX13_fillTable_419 : decode cX13_fillTable 419 = .ok (.iconst 2, 1) := by decide +kernel
theorem dX13_fillTable_420 : decode cX13_fillTable 420 = .ok (.if_icmp .ge 7, 3) := by decide +kernel
theorem dX13_fillTable_423 : decode cX13_fillTable 423 = .ok (.iload_n 1, 1) := by decide +kernel
theorem dX13_fillTable_424 : decode cX13_fillTable 424 = .ok (.goto 16, 3) := by decide +kernel
theorem dX13_fillTable_427 : decode cX13_fillTable 427 = .ok (.iload_n 1, 1) := by decide +kernel
theorem dX13_fillTable_428 : decode cX13_fillTable 428 = .ok (.iconst 4, 1) := by decide +kernel
theorem dX13_fillTable_429 : decode cX13_fillTable 429 = .ok (.if_icmp .ge 9, 3) := by decide +kernel
theorem dX13_fillTable_432 : decode cX13_fillTable 432 = .ok (.iload_n 1, 1) := by decide +kernel
theorem dX13_fillTable_433 : decode cX13_fillTable 433 = .ok (.iconst 2, 1) := by decide +kernel
theorem dX13_fillTable_434 : decode cX13_fillTable 434 = .ok (.iadd, 1) := by decide +kernel
theorem dX13_fillTable_435 : decode cX13_fillTable 435 = .ok (.goto 5, 3) := by decide +kernel
theorem dX13_fillTable_438 : decode cX13_fillTable 438 = .ok (.bipush 7, 2) := by decide +kernel
theorem dX13_fillTable_440 : decode cX13_fillTable 440 = .ok (.istore_n 2, 1) := by decide +kernel
theorem dX13_fillTable_441 : decode cX13_fillTable 441 = .ok (.aload_n 0, 1) := by decide +kernel
theorem dX13_fillTable_442 : decode cX13_fillTable 442 = .ok (.bipush 24, 2) := by decide +kernel
theorem dX13_fillTable_444 : decode cX13_fillTable 444 = .ok (.iload_n 1, 1) := by decide +kernel
theorem dX13_fillTable_445 : decode cX13_fillTable 445 = .ok (.iadd, 1) := by decide +kernel
theorem dX13_fillTable_446 : decode cX13_fillTable 446 = .ok (.iconst 0, 1) := by decide +kernel
theorem dX13_fillTable_447 : decode cX13_fillTable 447 = .ok (.iconst 4, 1) := by decide +kernel
theorem dX13_fillTable_448 : decode cX13_fillTable 448 = .ok (.iconst 0, 1) := by decide +kernel
theorem dX13_fillTable_449 : decode cX13_fillTable 449 = .ok (.sipush 192, 3) := by decide +kernel
theorem dX13_fillTable_452 : decode cX13_fillTable 452 = .ok (.iload_n 2, 1) := by decide +kernel
theorem dX13_fillTable_453 : decode cX13_fillTable 453 = .ok (.bipush 6, 2) := by decide +kernel
theorem dX13_fillTable_455 : decode cX13_fillTable 455 = .ok (.invokevirtual 1103, 3) := by decide +kernel
theorem dX13_fillTable_458 : decode cX13_fillTable 458 = .ok (.aload_n 0, 1) := by decide +kernel
theorem dX13_fillTable_459 : decode cX13_fillTable 459 = .ok (.bipush 24, 2) := by decide +kernel
theorem dX13_fillTable_461 : decode cX13_fillTable 461 = .ok (.iload_n 1, 1) := by decide +kernel
theorem dX13_fillTable_462 : decode cX13_fillTable 462 = .ok (.iadd, 1) := by decide +kernel
theorem dX13_fillTable_463 : decode cX13_fillTable 463 = .ok (.iconst 0, 1) := by decide +kernel
theorem dX13_fillTable_464 : decode cX13_fillTable 464 = .ok (.bipush 11, 2) := by decide +kernel
theorem dX13_fillTable_466 : decode cX13_fillTable 466 = .ok (.iconst 0, 1) := by decide +kernel
theorem dX13_fillTable_467 : decode cX13_fillTable 467 = .ok (.sipush 208, 3) := by decide +kernel
theorem dX13_fillTable_470 : decode cX13_fillTable 470 = .ok (.iload_n 2, 1) := by decide +kernel
theorem dX13_fillTable_471 : decode cX13_fillTable 471 = .ok (.iconst 0, 1) := by decide +kernel
theorem dX13_fillTable_472 : decode cX13_fillTable 472 = .ok (.invokevirtual 1103, 3) := by decide +kernel
theorem dX13_fillTable_475 : decode cX13_fillTable 475 = .ok (.aload_n 0, 1) := by decide +kernel
theorem dX13_fillTable_476 : decode cX13_fillTable 476 = .ok (.bipush 24, 2) := by decide +kernel
theorem dX13_fillTable_478 : decode cX13_fillTable 478 = .ok (.iload_n 1, 1) := by decide +kernel
theorem dX13_fillTable_479 : decode cX13_fillTable 479 = .ok (.iadd, 1) := by decide +kernel
theorem dX13_fillTable_480 : decode cX13_fillTable 480 = .ok (.iconst 0, 1) := by decide +kernel
theorem dX13_fillTable_481 : decode cX13_fillTable 481 = .ok (.bipush 12, 2) := by decide +kernel
theorem dX13_fillTable_483 : decode cX13_fillTable 483 = .ok (.iconst 0, 1) := by decide +kernel
theorem dX13_fillTable_484 : decode cX13_fillTable 484 = .ok (.sipush 210, 3) := by decide +kernel
theorem dX13_fillTable_487 : decode cX13_fillTable 487 = .ok (.iload_n 2, 1) := by decide +kernel
theorem dX13_fillTable_488 : decode cX13_fillTable 488 = .ok (.iconst 0, 1) := by decide +kernel
theorem dX13_fillTable_489 : decode cX13_fillTable 489 = .ok (.invokevirtual 1103, 3) := by decide +kernel
theorem dX13_fillTable_492 : decode cX13_fillTable 492 = .ok (.iinc 1 1, 3) := by decide +kernel
theorem dX13_fillTable_495 : decode cX13_fillTable 495 = .ok (.goto (-82), 3) := by decide +kernel
theorem dX13_fillTable_498 : decode cX13_fillTable 498 = .ok (.aload_n 0, 1) := by decide +kernel
theorem dX13_fillTable_499 : decode cX13_fillTable 499 = .ok (.invokevirtual 1107, 3) := by decide +kernel
theorem dX13_fillTable_502 : decode cX13_fillTable 502 = .ok (.return_, 1) := by decide +kernel
theorem dX13_fillRest_0 : decode cX13_fillRest 0 = .ok (.aload_n 0, 1) := by decide +kernel
theorem dX13_fillRest_1 : decode cX13_fillRest 1 = .ok (.bipush 29, 2) := by decide +kernel
theorem dX13_fillRest_3 : decode cX13_fillRest 3 = .ok (.iconst 2, 1) := by decide +kernel
theorem dX13_fillRest_4 : decode cX13_fillRest 4 = .ok (.iconst 5, 1) := by decide +kernel
theorem dX13_fillRest_5 : decode cX13_fillRest 5 = .ok (.iconst 0, 1) := by decide +kernel
theorem dX13_fillRest_6 : decode cX13_fillRest 6 = .ok (.bipush 80, 2) := by decide +kernel
theorem dX13_fillRest_8 : decode cX13_fillRest 8 = .ok (.bipush 9, 2) := by decide +kernel
theorem dX13_fillRest_10 : decode cX13_fillRest 10 = .ok (.iconst 0, 1) := by decide +kernel
theorem dX13_fillRest_11 : decode cX13_fillRest 11 = .ok (.invokevirtual 1103, 3) := by decide +kernel
theorem dX13_fillRest_14 : decode cX13_fillRest 14 = .ok (.aload_n 0, 1) := by decide +kernel
theorem dX13_fillRest_15 : decode cX13_fillRest 15 = .ok (.bipush 29, 2) := by decide +kernel
theorem dX13_fillRest_17 : decode cX13_fillRest 17 = .ok (.iconst 2, 1) := by decide +kernel
theorem dX13_fillRest_18 : decode cX13_fillRest 18 = .ok (.bipush 10, 2) := by decide +kernel
theorem dX13_fillRest_20 : decode cX13_fillRest 20 = .ok (.iconst 0, 1) := by decide +kernel
theorem dX13_fillRest_21 : decode cX13_fillRest 21 = .ok (.bipush 104, 2) := by decide +kernel
theorem dX13_fillRest_23 : decode cX13_fillRest 23 = .ok (.bipush 9, 2) := by decide +kernel
theorem dX13_fillRest_25 : decode cX13_fillRest 25 = .ok (.iconst 3, 1) := by decide +kernel
theorem dX13_fillRest_26 : decode cX13_fillRest 26 = .ok (.invokevirtual 1103, 3) := by decide +kernel
theorem dX13_fillRest_29 : decode cX13_fillRest 29 = .ok (.aload_n 0, 1) := by decide +kernel
theorem dX13_fillRest_30 : decode cX13_fillRest 30 = .ok (.bipush 29, 2) := by decide +kernel
theorem dX13_fillRest_32 : decode cX13_fillRest 32 = .ok (.iconst 2, 1) := by decide +kernel
theorem dX13_fillRest_33 : decode cX13_fillRest 33 = .ok (.bipush 10, 2) := by decide +kernel
theorem dX13_fillRest_35 : decode cX13_fillRest 35 = .ok (.iconst 0, 1) := by decide +kernel
theorem dX13_fillRest_36 : decode cX13_fillRest 36 = .ok (.bipush 106, 2) := by decide +kernel
theorem dX13_fillRest_38 : decode cX13_fillRest 38 = .ok (.bipush 9, 2) := by decide +kernel
theorem dX13_fillRest_40 : decode cX13_fillRest 40 = .ok (.iconst 2, 1) := by decide +kernel
theorem dX13_fillRest_41 : decode cX13_fillRest 41 = .ok (.invokevirtual 1103, 3) := by decide +kernel
theorem dX13_fillRest_44 : decode cX13_fillRest 44 = .ok (.aload_n 0, 1) := by decide +kernel
theorem dX13_fillRest_45 : decode cX13_fillRest 45 = .ok (.bipush 29, 2) := by decide +kernel
theorem dX13_fillRest_47 : decode cX13_fillRest 47 = .ok (.iconst 2, 1) := by decide +kernel
theorem dX13_fillRest_48 : decode cX13_fillRest 48 = .ok (.bipush 8, 2) := by decide +kernel
theorem dX13_fillRest_50 : decode cX13_fillRest 50 = .ok (.iconst 0, 1) := by decide +kernel
theorem dX13_fillRest_51 : decode cX13_fillRest 51 = .ok (.sipush 255, 3) := by decide +kernel
theorem dX13_fillRest_54 : decode cX13_fillRest 54 = .ok (.bipush 6, 2) := by decide +kernel
theorem dX13_fillRest_56 : decode cX13_fillRest 56 = .ok (.iconst 0, 1) := by decide +kernel
theorem dX13_fillRest_57 : decode cX13_fillRest 57 = .ok (.invokevirtual 1103, 3) := by decide +kernel
theorem dX13_fillRest_60 : decode cX13_fillRest 60 = .ok (.aload_n 0, 1) := by decide +kernel
theorem dX13_fillRest_61 : decode cX13_fillRest 61 = .ok (.bipush 30, 2) := by decide +kernel
theorem dX13_fillRest_63 : decode cX13_fillRest 63 = .ok (.iconst 2, 1) := by decide +kernel
theorem dX13_fillRest_64 : decode cX13_fillRest 64 = .ok (.iconst 5, 1) := by decide +kernel
theorem dX13_fillRest_65 : decode cX13_fillRest 65 = .ok (.iconst 0, 1) := by decide +kernel
theorem dX13_fillRest_66 : decode cX13_fillRest 66 = .ok (.bipush 88, 2) := by decide +kernel
theorem dX13_fillRest_68 : decode cX13_fillRest 68 = .ok (.bipush 9, 2) := by decide +kernel
theorem dX13_fillRest_70 : decode cX13_fillRest 70 = .ok (.iconst 0, 1) := by decide +kernel
theorem dX13_fillRest_71 : decode cX13_fillRest 71 = .ok (.invokevirtual 1103, 3) := by decide +kernel
theorem dX13_fillRest_74 : decode cX13_fillRest 74 = .ok (.aload_n 0, 1) := by decide +kernel
theorem dX13_fillRest_75 : decode cX13_fillRest 75 = .ok (.bipush 30, 2) := by decide +kernel
theorem dX13_fillRest_77 : decode cX13_fillRest 77 = .ok (.iconst 2, 1) := by decide +kernel
theorem dX13_fillRest_78 : decode cX13_fillRest 78 = .ok (.bipush 8, 2) := by decide +kernel
theorem dX13_fillRest_80 : decode cX13_fillRest 80 = .ok (.iconst 0, 1) := by decide +kernel
theorem dX13_fillRest_81 : decode cX13_fillRest 81 = .ok (.sipush 143, 3) := by decide +kernel
theorem dX13_fillRest_84 : decode cX13_fillRest 84 = .ok (.iconst 0, 1) := by decide +kernel
theorem dX13_fillRest_85 : decode cX13_fillRest 85 = .ok (.iconst 0, 1) := by decide +kernel
theorem dX13_fillRest_86 : decode cX13_fillRest 86 = .ok (.invokevirtual 1103, 3) := by decide +kernel
theorem dX13_fillRest_89 : decode cX13_fillRest 89 = .ok (.aload_n 0, 1) := by decide +kernel
theorem dX13_fillRest_90 : decode cX13_fillRest 90 = .ok (.bipush 31, 2) := by decide +kernel
theorem dX13_fillRest_92 : decode cX13_fillRest 92 = .ok (.iconst 4, 1) := by decide +kernel
theorem dX13_fillRest_93 : decode cX13_fillRest 93 = .ok (.bipush 8, 2) := by decide +kernel
theorem dX13_fillRest_95 : decode cX13_fillRest 95 = .ok (.iconst 0, 1) := by decide +kernel
theorem dX13_fillRest_96 : decode cX13_fillRest 96 = .ok (.sipush 255, 3) := by decide +kernel
theorem dX13_fillRest_99 : decode cX13_fillRest 99 = .ok (.iconst 4, 1) := by decide +kernel
theorem dX13_fillRest_100 : decode cX13_fillRest 100 = .ok (.iconst 0, 1) := by decide +kernel
theorem dX13_fillRest_101 : decode cX13_fillRest 101 = .ok (.invokevirtual 1103, 3) := by decide +kernel
theorem dX13_fillRest_104 : decode cX13_fillRest 104 = .ok (.aload_n 0, 1) := by decide +kernel
theorem dX13_fillRest_105 : decode cX13_fillRest 105 = .ok (.bipush 32, 2) := by decide +kernel
theorem dX13_fillRest_107 : decode cX13_fillRest 107 = .ok (.iconst 4, 1) := by decide +kernel
theorem dX13_fillRest_108 : decode cX13_fillRest 108 = .ok (.bipush 8, 2) := by decide +kernel
theorem dX13_fillRest_110 : decode cX13_fillRest 110 = .ok (.iconst 0, 1) := by decide +kernel
theorem dX13_fillRest_111 : decode cX13_fillRest 111 = .ok (.sipush 255, 3) := by decide +kernel
theorem dX13_fillRest_114 : decode cX13_fillRest 114 = .ok (.iconst 2, 1) := by decide +kernel
theorem dX13_fillRest_115 : decode cX13_fillRest 115 = .ok (.iconst 0, 1) := by decide +kernel
theorem dX13_fillRest_116 : decode cX13_fillRest 116 = .ok (.invokevirtual 1103, 3) := by decide +kernel
theorem dX13_fillRest_119 : decode cX13_fillRest 119 = .ok (.aload_n 0, 1) := by decide +kernel
theorem dX13_fillRest_120 : decode cX13_fillRest 120 = .ok (.bipush 33, 2) := by decide +kernel
theorem dX13_fillRest_122 : decode cX13_fillRest 122 = .ok (.iconst 4, 1) := by decide +kernel
theorem dX13_fillRest_123 : decode cX13_fillRest 123 = .ok (.iconst 0, 1) := by decide +kernel
theorem dX13_fillRest_124 : decode cX13_fillRest 124 = .ok (.iconst 0, 1) := by decide +kernel
theorem dX13_fillRest_125 : decode cX13_fillRest 125 = .ok (.sipush 195, 3) := by decide +kernel
theorem dX13_fillRest_128 : decode cX13_fillRest 128 = .ok (.bipush 9, 2) := by decide +kernel
theorem dX13_fillRest_130 : decode cX13_fillRest 130 = .ok (.iconst 0, 1) := by decide +kernel
theorem dX13_fillRest_131 : decode cX13_fillRest 131 = .ok (.invokevirtual 1103, 3) := by decide +kernel
theorem dX13_fillRest_134 : decode cX13_fillRest 134 = .ok (.aload_n 0, 1) := by decide +kernel
theorem dX13_fillRest_135 : decode cX13_fillRest 135 = .ok (.bipush 33, 2) := by decide +kernel
theorem dX13_fillRest_137 : decode cX13_fillRest 137 = .ok (.iconst 4, 1) := by decide +kernel
theorem dX13_fillRest_138 : decode cX13_fillRest 138 = .ok (.bipush 10, 2) := by decide +kernel
theorem dX13_fillRest_140 : decode cX13_fillRest 140 = .ok (.iconst 0, 1) := by decide +kernel
theorem dX13_fillRest_141 : decode cX13_fillRest 141 = .ok (.sipush 194, 3) := by decide +kernel
theorem dX13_fillRest_144 : decode cX13_fillRest 144 = .ok (.bipush 9, 2) := by decide +kernel
theorem dX13_fillRest_146 : decode cX13_fillRest 146 = .ok (.iconst 5, 1) := by decide +kernel
theorem dX13_fillRest_147 : decode cX13_fillRest 147 = .ok (.invokevirtual 1103, 3) := by decide +kernel
theorem dX13_fillRest_150 : decode cX13_fillRest 150 = .ok (.aload_n 0, 1) := by decide +kernel
theorem dX13_fillRest_151 : decode cX13_fillRest 151 = .ok (.bipush 35, 2) := by decide +kernel
theorem dX13_fillRest_153 : decode cX13_fillRest 153 = .ok (.iconst 5, 1) := by decide +kernel
theorem dX13_fillRest_154 : decode cX13_fillRest 154 = .ok (.bipush 8, 2) := by decide +kernel
theorem dX13_fillRest_156 : decode cX13_fillRest 156 = .ok (.bipush 15, 2) := by decide +kernel
theorem dX13_fillRest_158 : decode cX13_fillRest 158 = .ok (.sipush 144, 3) := by decide +kernel
theorem dX13_fillRest_161 : decode cX13_fillRest 161 = .ok (.bipush 8, 2) := by decide +kernel
theorem dX13_fillRest_163 : decode cX13_fillRest 163 = .ok (.iconst 0, 1) := by decide +kernel
theorem dX13_fillRest_164 : decode cX13_fillRest 164 = .ok (.invokevirtual 1103, 3) := by decide +kernel
theorem dX13_fillRest_167 : decode cX13_fillRest 167 = .ok (.aload_n 0, 1) := by decide +kernel
theorem dX13_fillRest_168 : decode cX13_fillRest 168 = .ok (.bipush 36, 2) := by decide +kernel
theorem dX13_fillRest_170 : decode cX13_fillRest 170 = .ok (.iconst 1, 1) := by decide +kernel
theorem dX13_fillRest_171 : decode cX13_fillRest 171 = .ok (.iconst 2, 1) := by decide +kernel
theorem dX13_fillRest_172 : decode cX13_fillRest 172 = .ok (.bipush 15, 2) := by decide +kernel
theorem dX13_fillRest_174 : decode cX13_fillRest 174 = .ok (.bipush 64, 2) := by decide +kernel
theorem dX13_fillRest_176 : decode cX13_fillRest 176 = .ok (.bipush 9, 2) := by decide +kernel
theorem dX13_fillRest_178 : decode cX13_fillRest 178 = .ok (.iconst 0, 1) := by decide +kernel
theorem dX13_fillRest_179 : decode cX13_fillRest 179 = .ok (.invokevirtual 1103, 3) := by decide +kernel
theorem dX13_fillRest_182 : decode cX13_fillRest 182 = .ok (.aload_n 0, 1) := by decide +kernel
theorem dX13_fillRest_183 : decode cX13_fillRest 183 = .ok (.bipush 37, 2) := by decide +kernel
theorem dX13_fillRest_185 : decode cX13_fillRest 185 = .ok (.iconst 1, 1) := by decide +kernel
theorem dX13_fillRest_186 : decode cX13_fillRest 186 = .ok (.iconst 0, 1) := by decide +kernel
theorem dX13_fillRest_187 : decode cX13_fillRest 187 = .ok (.iconst 0, 1) := by decide +kernel
theorem dX13_fillRest_188 : decode cX13_fillRest 188 = .ok (.sipush 153, 3) := by decide +kernel
theorem dX13_fillRest_191 : decode cX13_fillRest 191 = .ok (.bipush 9, 2) := by decide +kernel
theorem dX13_fillRest_193 : decode cX13_fillRest 193 = .ok (.iconst 0, 1) := by decide +kernel
theorem dX13_fillRest_194 : decode cX13_fillRest 194 = .ok (.invokevirtual 1103, 3) := by decide +kernel
theorem dX13_fillRest_197 : decode cX13_fillRest 197 = .ok (.aload_n 0, 1) := by decide +kernel
theorem dX13_fillRest_198 : decode cX13_fillRest 198 = .ok (.bipush 38, 2) := by decide +kernel
theorem dX13_fillRest_200 : decode cX13_fillRest 200 = .ok (.iconst 1, 1) := by decide +kernel
theorem dX13_fillRest_201 : decode cX13_fillRest 201 = .ok (.iconst 0, 1) := by decide +kernel
theorem dX13_fillRest_202 : decode cX13_fillRest 202 = .ok (.iconst 0, 1) := by decide +kernel
theorem dX13_fillRest_203 : decode cX13_fillRest 203 = .ok (.sipush 152, 3) := by decide +kernel
theorem dX13_fillRest_206 : decode cX13_fillRest 206 = .ok (.bipush 9, 2) := by decide +kernel
theorem dX13_fillRest_208 : decode cX13_fillRest 208 = .ok (.iconst 0, 1) := by decide +kernel
theorem dX13_fillRest_209 : decode cX13_fillRest 209 = .ok (.invokevirtual 1103, 3) := by decide +kernel
theorem dX13_fillRest_212 : decode cX13_fillRest 212 = .ok (.aload_n 0, 1) := by decide +kernel
theorem dX13_fillRest_213 : decode cX13_fillRest 213 = .ok (.bipush 39, 2) := by decide +kernel
theorem dX13_fillRest_215 : decode cX13_fillRest 215 = .ok (.iconst 4, 1) := by decide +kernel
theorem dX13_fillRest_216 : decode cX13_fillRest 216 = .ok (.iconst 0, 1) := by decide +kernel
theorem dX13_fillRest_217 : decode cX13_fillRest 217 = .ok (.iconst 0, 1) := by decide +kernel
theorem dX13_fillRest_218 : decode cX13_fillRest 218 = .ok (.sipush 144, 3) := by decide +kernel
theorem dX13_fillRest_221 : decode cX13_fillRest 221 = .ok (.bipush 9, 2) := by decide +kernel
theorem dX13_fillRest_223 : decode cX13_fillRest 223 = .ok (.iconst 0, 1) := by decide +kernel
theorem dX13_fillRest_224 : decode cX13_fillRest 224 = .ok (.invokevirtual 1103, 3) := by decide +kernel
theorem dX13_fillRest_227 : decode cX13_fillRest 227 = .ok (.aload_n 0, 1) := by decide +kernel
theorem dX13_fillRest_228 : decode cX13_fillRest 228 = .ok (.bipush 40, 2) := by decide +kernel
theorem dX13_fillRest_230 : decode cX13_fillRest 230 = .ok (.iconst 4, 1) := by decide +kernel
theorem dX13_fillRest_231 : decode cX13_fillRest 231 = .ok (.iconst 0, 1) := by decide +kernel
theorem dX13_fillRest_232 : decode cX13_fillRest 232 = .ok (.iconst 0, 1) := by decide +kernel
theorem dX13_fillRest_233 : decode cX13_fillRest 233 = .ok (.sipush 204, 3) := by decide +kernel
theorem dX13_fillRest_236 : decode cX13_fillRest 236 = .ok (.bipush 9, 2) := by decide +kernel
theorem dX13_fillRest_238 : decode cX13_fillRest 238 = .ok (.iconst 0, 1) := by decide +kernel
theorem dX13_fillRest_239 : decode cX13_fillRest 239 = .ok (.invokevirtual 1103, 3) := by decide +kernel
theorem dX13_fillRest_242 : decode cX13_fillRest 242 = .ok (.aload_n 0, 1) := by decide +kernel
theorem dX13_fillRest_243 : decode cX13_fillRest 243 = .ok (.bipush 41, 2) := by decide +kernel
theorem dX13_fillRest_245 : decode cX13_fillRest 245 = .ok (.iconst 4, 1) := by decide +kernel
theorem dX13_fillRest_246 : decode cX13_fillRest 246 = .ok (.iconst 0, 1) := by decide +kernel
theorem dX13_fillRest_247 : decode cX13_fillRest 247 = .ok (.bipush 15, 2) := by decide +kernel
theorem dX13_fillRest_249 : decode cX13_fillRest 249 = .ok (.bipush 11, 2) := by decide +kernel
theorem dX13_fillRest_251 : decode cX13_fillRest 251 = .ok (.bipush 9, 2) := by decide +kernel
theorem dX13_fillRest_253 : decode cX13_fillRest 253 = .ok (.iconst 0, 1) := by decide +kernel
theorem dX13_fillRest_254 : decode cX13_fillRest 254 = .ok (.invokevirtual 1103, 3) := by decide +kernel
theorem dX13_fillRest_257 : decode cX13_fillRest 257 = .ok (.aload_n 0, 1) := by decide +kernel
theorem dX13_fillRest_258 : decode cX13_fillRest 258 = .ok (.bipush 42, 2) := by decide +kernel
theorem dX13_fillRest_260 : decode cX13_fillRest 260 = .ok (.iconst 4, 1) := by decide +kernel
theorem dX13_fillRest_261 : decode cX13_fillRest 261 = .ok (.iconst 0, 1) := by decide +kernel
theorem dX13_fillRest_262 : decode cX13_fillRest 262 = .ok (.bipush 15, 2) := by decide +kernel
theorem dX13_fillRest_264 : decode cX13_fillRest 264 = .ok (.iconst 5, 1) := by decide +kernel
theorem dX13_fillRest_265 : decode cX13_fillRest 265 = .ok (.bipush 9, 2) := by decide +kernel
theorem dX13_fillRest_267 : decode cX13_fillRest 267 = .ok (.iconst 0, 1) := by decide +kernel
theorem dX13_fillRest_268 : decode cX13_fillRest 268 = .ok (.invokevirtual 1103, 3) := by decide +kernel
theorem dX13_fillRest_271 : decode cX13_fillRest 271 = .ok (.aload_n 0, 1) := by decide +kernel
theorem dX13_fillRest_272 : decode cX13_fillRest 272 = .ok (.bipush 43, 2) := by decide +kernel
theorem dX13_fillRest_274 : decode cX13_fillRest 274 = .ok (.iconst 4, 1) := by decide +kernel
theorem dX13_fillRest_275 : decode cX13_fillRest 275 = .ok (.iconst 0, 1) := by decide +kernel
theorem dX13_fillRest_276 : decode cX13_fillRest 276 = .ok (.iconst 0, 1) := by decide +kernel
theorem dX13_fillRest_277 : decode cX13_fillRest 277 = .ok (.sipush 201, 3) := by decide +kernel
theorem dX13_fillRest_280 : decode cX13_fillRest 280 = .ok (.bipush 9, 2) := by decide +kernel
theorem dX13_fillRest_282 : decode cX13_fillRest 282 = .ok (.iconst 0, 1) := by decide +kernel
theorem dX13_fillRest_283 : decode cX13_fillRest 283 = .ok (.invokevirtual 1103, 3) := by decide +kernel
theorem dX13_fillRest_286 : decode cX13_fillRest 286 = .ok (.aload_n 0, 1) := by decide +kernel
theorem dX13_fillRest_287 : decode cX13_fillRest 287 = .ok (.bipush 44, 2) := by decide +kernel
theorem dX13_fillRest_289 : decode cX13_fillRest 289 = .ok (.iconst 1, 1) := by decide +kernel
theorem dX13_fillRest_290 : decode cX13_fillRest 290 = .ok (.iconst 2, 1) := by decide +kernel
theorem dX13_fillRest_291 : decode cX13_fillRest 291 = .ok (.bipush 15, 2) := by decide +kernel
theorem dX13_fillRest_293 : decode cX13_fillRest 293 = .ok (.sipush 188, 3) := by decide +kernel
theorem dX13_fillRest_296 : decode cX13_fillRest 296 = .ok (.bipush 9, 2) := by decide +kernel
theorem dX13_fillRest_298 : decode cX13_fillRest 298 = .ok (.iconst 0, 1) := by decide +kernel
theorem dX13_fillRest_299 : decode cX13_fillRest 299 = .ok (.invokevirtual 1103, 3) := by decide +kernel
theorem dX13_fillRest_302 : decode cX13_fillRest 302 = .ok (.aload_n 0, 1) := by decide +kernel
theorem dX13_fillRest_303 : decode cX13_fillRest 303 = .ok (.bipush 45, 2) := by decide +kernel
theorem dX13_fillRest_305 : decode cX13_fillRest 305 = .ok (.iconst 1, 1) := by decide +kernel
theorem dX13_fillRest_306 : decode cX13_fillRest 306 = .ok (.iconst 2, 1) := by decide +kernel
theorem dX13_fillRest_307 : decode cX13_fillRest 307 = .ok (.bipush 15, 2) := by decide +kernel
theorem dX13_fillRest_309 : decode cX13_fillRest 309 = .ok (.sipush 189, 3) := by decide +kernel
theorem dX13_fillRest_312 : decode cX13_fillRest 312 = .ok (.bipush 9, 2) := by decide +kernel
theorem dX13_fillRest_314 : decode cX13_fillRest 314 = .ok (.iconst 0, 1) := by decide +kernel
theorem dX13_fillRest_315 : decode cX13_fillRest 315 = .ok (.invokevirtual 1103, 3) := by decide +kernel
theorem dX13_fillRest_318 : decode cX13_fillRest 318 = .ok (.aload_n 0, 1) := by decide +kernel
theorem dX13_fillRest_319 : decode cX13_fillRest 319 = .ok (.bipush 46, 2) := by decide +kernel
theorem dX13_fillRest_321 : decode cX13_fillRest 321 = .ok (.iconst 1, 1) := by decide +kernel
theorem dX13_fillRest_322 : decode cX13_fillRest 322 = .ok (.iconst 5, 1) := by decide +kernel
theorem dX13_fillRest_323 : decode cX13_fillRest 323 = .ok (.bipush 15, 2) := by decide +kernel
theorem dX13_fillRest_325 : decode cX13_fillRest 325 = .ok (.sipush 200, 3) := by decide +kernel
theorem dX13_fillRest_328 : decode cX13_fillRest 328 = .ok (.bipush 9, 2) := by decide +kernel
theorem dX13_fillRest_330 : decode cX13_fillRest 330 = .ok (.iconst 0, 1) := by decide +kernel
theorem dX13_fillRest_331 : decode cX13_fillRest 331 = .ok (.invokevirtual 1103, 3) := by decide +kernel
theorem dX13_fillRest_334 : decode cX13_fillRest 334 = .ok (.aload_n 0, 1) := by decide +kernel
theorem dX13_fillRest_335 : decode cX13_fillRest 335 = .ok (.bipush 47, 2) := by decide +kernel
theorem dX13_fillRest_337 : decode cX13_fillRest 337 = .ok (.iconst 1, 1) := by decide +kernel
theorem dX13_fillRest_338 : decode cX13_fillRest 338 = .ok (.iconst 1, 1) := by decide +kernel
theorem dX13_fillRest_339 : decode cX13_fillRest 339 = .ok (.bipush 15, 2) := by decide +kernel
theorem dX13_fillRest_341 : decode cX13_fillRest 341 = .ok (.sipush 163, 3) := by decide +kernel
theorem dX13_fillRest_344 : decode cX13_fillRest 344 = .ok (.bipush 9, 2) := by decide +kernel
theorem dX13_fillRest_346 : decode cX13_fillRest 346 = .ok (.iconst 0, 1) := by decide +kernel
theorem dX13_fillRest_347 : decode cX13_fillRest 347 = .ok (.invokevirtual 1103, 3) := by decide +kernel
theorem dX13_fillRest_350 : decode cX13_fillRest 350 = .ok (.aload_n 0, 1) := by decide +kernel
theorem dX13_fillRest_351 : decode cX13_fillRest 351 = .ok (.bipush 47, 2) := by decide +kernel
theorem dX13_fillRest_353 : decode cX13_fillRest 353 = .ok (.iconst 1, 1) := by decide +kernel
theorem dX13_fillRest_354 : decode cX13_fillRest 354 = .ok (.iconst 4, 1) := by decide +kernel
theorem dX13_fillRest_355 : decode cX13_fillRest 355 = .ok (.bipush 15, 2) := by decide +kernel
theorem dX13_fillRest_357 : decode cX13_fillRest 357 = .ok (.sipush 186, 3) := by decide +kernel
theorem dX13_fillRest_360 : decode cX13_fillRest 360 = .ok (.iconst 4, 1) := by decide +kernel
theorem dX13_fillRest_361 : decode cX13_fillRest 361 = .ok (.bipush 6, 2) := by decide +kernel
theorem dX13_fillRest_363 : decode cX13_fillRest 363 = .ok (.invokevirtual 1103, 3) := by decide +kernel
theorem dX13_fillRest_366 : decode cX13_fillRest 366 = .ok (.aload_n 0, 1) := by decide +kernel
theorem dX13_fillRest_367 : decode cX13_fillRest 367 = .ok (.bipush 48, 2) := by decide +kernel
theorem dX13_fillRest_369 : decode cX13_fillRest 369 = .ok (.iconst 0, 1) := by decide +kernel
theorem dX13_fillRest_370 : decode cX13_fillRest 370 = .ok (.iconst 1, 1) := by decide +kernel
theorem dX13_fillRest_371 : decode cX13_fillRest 371 = .ok (.bipush 15, 2) := by decide +kernel
theorem dX13_fillRest_373 : decode cX13_fillRest 373 = .ok (.sipush 192, 3) := by decide +kernel
theorem dX13_fillRest_376 : decode cX13_fillRest 376 = .ok (.bipush 9, 2) := by decide +kernel
theorem dX13_fillRest_378 : decode cX13_fillRest 378 = .ok (.iconst 0, 1) := by decide +kernel
theorem dX13_fillRest_379 : decode cX13_fillRest 379 = .ok (.invokevirtual 1103, 3) := by decide +kernel
theorem dX13_fillRest_382 : decode cX13_fillRest 382 = .ok (.aload_n 0, 1) := by decide +kernel
theorem dX13_fillRest_383 : decode cX13_fillRest 383 = .ok (.bipush 49, 2) := by decide +kernel
theorem dX13_fillRest_385 : decode cX13_fillRest 385 = .ok (.iconst 0, 1) := by decide +kernel
theorem dX13_fillRest_386 : decode cX13_fillRest 386 = .ok (.iconst 1, 1) := by decide +kernel
theorem dX13_fillRest_387 : decode cX13_fillRest 387 = .ok (.bipush 15, 2) := by decide +kernel
theorem dX13_fillRest_389 : decode cX13_fillRest 389 = .ok (.sipush 176, 3) := by decide +kernel
theorem dX13_fillRest_392 : decode cX13_fillRest 392 = .ok (.bipush 9, 2) := by decide +kernel
theorem dX13_fillRest_394 : decode cX13_fillRest 394 = .ok (.iconst 0, 1) := by decide +kernel
theorem dX13_fillRest_395 : decode cX13_fillRest 395 = .ok (.invokevirtual 1103, 3) := by decide +kernel
theorem dX13_fillRest_398 : decode cX13_fillRest 398 = .ok (.iconst 0, 1) := by decide +kernel
theorem dX13_fillRest_399 : decode cX13_fillRest 399 = .ok (.istore_n 1, 1) := by decide +kernel
theorem dX13_fillRest_400 : decode cX13_fillRest 400 = .ok (.iload_n 1, 1) := by decide +kernel
theorem dX13_fillRest_401 : decode cX13_fillRest 401 = .ok (.iconst 4, 1) := by decide +kernel
theorem dX13_fillRest_402 : decode cX13_fillRest 402 = .ok (.if_icmp .ge 49, 3) := by decide +kernel
theorem dX13_fillRest_405 : decode cX13_fillRest 405 = .ok (.aload_n 0, 1) := by decide +kernel
theorem dX13_fillRest_406 : decode cX13_fillRest 406 = .ok (.bipush 50, 2) := by decide +kernel
theorem dX13_fillRest_408 : decode cX13_fillRest 408 = .ok (.iload_n 1, 1) := by decide +kernel
theorem dX13_fillRest_409 : decode cX13_fillRest 409 = .ok (.iadd, 1) := by decide +kernel
theorem dX13_fillRest_410 : decode cX13_fillRest 410 = .ok (.iconst 0, 1) := by decide +kernel
theorem dX13_fillRest_411 : decode cX13_fillRest 411 = .ok (.iconst 0, 1) := by decide +kernel
theorem dX13_fillRest_412 : decode cX13_fillRest 412 = .ok (.iload_n 1, 1) := by decide +kernel
theorem dX13_fillRest_413 : decode cX13_fillRest 413 = .ok (.iconst 2, 1) := by decide +kernel
theorem dX13_fillRest_414 : decode cX13_fillRest 414 = .ok (.if_icmp .ge 7, 3) := by decide +kernel
theorem dX13_fillRest_417 : decode cX13_fillRest 417 = .ok (.iconst 0, 1) := by decide +kernel
theorem dX13_fillRest_418 : decode cX13_fillRest 418 = .ok (.goto 6, 3) := by decide +kernel
theorem dX13_fillRest_421 : decode cX13_fillRest 421 = .ok (.sipush 243, 3) := by decide +kernel
theorem dX13_fillRest_424 : decode cX13_fillRest 424 = .ok (.iload_n 1, 1) := by decide +kernel
theorem dX13_fillRest_425 : decode cX13_fillRest 425 = .ok (.iconst 2, 1) := by decide +kernel
theorem dX13_fillRest_426 : decode cX13_fillRest 426 = .ok (.irem, 1) := by decide +kernel
theorem dX13_fillRest_427 : decode cX13_fillRest 427 = .ok (.ifCond .ne 9, 3) := by decide +kernel
theorem dX13_fillRest_430 : decode cX13_fillRest 430 = .ok (.sipush 164, 3) := by decide +kernel
theorem dX13_fillRest_433 : decode cX13_fillRest 433 = .ok (.goto 6, 3) := by decide +kernel
theorem dX13_fillRest_436 : decode cX13_fillRest 436 = .ok (.sipush 170, 3) := by decide +kernel
theorem dX13_fillRest_439 : decode cX13_fillRest 439 = .ok (.bipush 9, 2) := by decide +kernel
theorem dX13_fillRest_441 : decode cX13_fillRest 441 = .ok (.iconst 0, 1) := by decide +kernel
theorem dX13_fillRest_442 : decode cX13_fillRest 442 = .ok (.invokevirtual 1103, 3) := by decide +kernel
theorem dX13_fillRest_445 : decode cX13_fillRest 445 = .ok (.iinc 1 1, 3) := by decide +kernel
theorem dX13_fillRest_448 : decode cX13_fillRest 448 = .ok (.goto (-48), 3) := by decide +kernel
theorem dX13_fillRest_451 : decode cX13_fillRest 451 = .ok (.return_, 1) := by decide +kernel
theorem dJ5_init_d00df_0 : decode cJ5_init_d00df 0 = .ok (.aload_n 0, 1) := by decide +kernel
theorem dJ5_init_d00df_1 : decode cJ5_init_d00df 1 = .ok (.invokespecial 3, 3) := by decide +kernel
theorem dJ5_init_d00df_4 : decode cJ5_init_d00df 4 = .ok (.getstatic 18, 3) := by decide +kernel
theorem dJ5_init_d00df_7 : decode cJ5_init_d00df 7 = .ok (.ifCond .eq 18, 3) := by decide +kernel
theorem dJ5_init_d00df_10 : decode cJ5_init_d00df 10 = .ok (.aload_n 0, 1) := by decide +kernel
theorem dJ5_init_d00df_11 : decode cJ5_init_d00df 11 = .ok (.iload_n 1, 1) := by decide +kernel
theorem dJ5_init_d00df_12 : decode cJ5_init_d00df 12 = .ok (.newarray .byte, 2) := by decide +kernel
theorem dJ5_init_d00df_14 : decode cJ5_init_d00df 14 = .ok (.putfield 15, 3) := by decide +kernel
theorem dJ5_init_d00df_17 : decode cJ5_init_d00df 17 = .ok (.aload_n 0, 1) := by decide +kernel
theorem dJ5_init_d00df_18 : decode cJ5_init_d00df 18 = .ok (.iconst 0, 1) := by decide +kernel
theorem dJ5_init_d00df_19 : decode cJ5_init_d00df 19 = .ok (.putfield 22, 3) := by decide +kernel
theorem dJ5_init_d00df_22 : decode cJ5_init_d00df 22 = .ok (.goto 16, 3) := by decide +kernel
theorem dJ5_init_d00df_38 : decode cJ5_init_d00df 38 = .ok (.return_, 1) := by decide +kernel
theorem dJ5_length_8abf5_0 : decode cJ5_length_8abf5 0 = .ok (.aload_n 0, 1) := by decide +kernel
theorem dJ5_length_8abf5_1 : decode cJ5_length_8abf5 1 = .ok (.getfield 79, 3) := by decide +kernel
theorem dJ5_length_8abf5_4 : decode cJ5_length_8abf5 4 = .ok (.ireturn, 1) := by decide +kernel
theorem dJ5_ensureCapacityInternal_d00df_0 : decode cJ5_ensureCapacityInternal_d00df 0 = .ok (.aload_n 0, 1) := by decide +kernel
theorem dJ5_ensureCapacityInternal_d00df_1 : decode cJ5_ensureCapacityInternal_d00df 1 = .ok (.getfield 15, 3) := by decide +kernel
theorem dJ5_ensureCapacityInternal_d00df_4 : decode cJ5_ensureCapacityInternal_d00df 4 = .ok (.arraylength, 1) := by decide +kernel
theorem dJ5_ensureCapacityInternal_d00df_5 : decode cJ5_ensureCapacityInternal_d00df 5 = .ok (.aload_n 0, 1) := by decide +kernel
theorem dJ5_ensureCapacityInternal_d00df_6 : decode cJ5_ensureCapacityInternal_d00df 6 = .ok (.getfield 22, 3) := by decide +kernel
theorem dJ5_ensureCapacityInternal_d00df_9 : decode cJ5_ensureCapacityInternal_d00df 9 = .ok (.ishr, 1) := by decide +kernel
theorem dJ5_ensureCapacityInternal_d00df_10 : decode cJ5_ensureCapacityInternal_d00df 10 = .ok (.istore_n 2, 1) := by decide +kernel
theorem dJ5_ensureCapacityInternal_d00df_11 : decode cJ5_ensureCapacityInternal_d00df 11 = .ok (.iload_n 1, 1) := by decide +kernel
theorem dJ5_ensureCapacityInternal_d00df_12 : decode cJ5_ensureCapacityInternal_d00df 12 = .ok (.iload_n 2, 1) := by decide +kernel
theorem dJ5_ensureCapacityInternal_d00df_13 : decode cJ5_ensureCapacityInternal_d00df 13 = .ok (.isub, 1) := by decide +kernel
theorem dJ5_ensureCapacityInternal_d00df_14 : decode cJ5_ensureCapacityInternal_d00df 14 = .ok (.ifCond .le 24, 3) := by decide +kernel
theorem dJ5_ensureCapacityInternal_d00df_38 : decode cJ5_ensureCapacityInternal_d00df 38 = .ok (.return_, 1) := by decide +kernel
theorem dJ5_append_cf1ce_0 : decode cJ5_append_cf1ce 0 = .ok (.aload_n 1, 1) := by decide +kernel
theorem dJ5_append_cf1ce_1 : decode cJ5_append_cf1ce 1 = .ok (.ifnonnull 8, 3) := by decide +kernel
theorem dJ5_append_cf1ce_9 : decode cJ5_append_cf1ce 9 = .ok (.aload_n 1, 1) := by decide +kernel
theorem dJ5_append_cf1ce_10 : decode cJ5_append_cf1ce 10 = .ok (.invokevirtual 32, 3) := by decide +kernel
theorem dJ5_append_cf1ce_13 : decode cJ5_append_cf1ce 13 = .ok (.istore_n 2, 1) := by decide +kernel
theorem dJ5_append_cf1ce_14 : decode cJ5_append_cf1ce 14 = .ok (.aload_n 0, 1) := by decide +kernel
theorem dJ5_append_cf1ce_15 : decode cJ5_append_cf1ce 15 = .ok (.aload_n 0, 1) := by decide +kernel
theorem dJ5_append_cf1ce_16 : decode cJ5_append_cf1ce 16 = .ok (.getfield 79, 3) := by decide +kernel
theorem dJ5_append_cf1ce_19 : decode cJ5_append_cf1ce 19 = .ok (.iload_n 2, 1) := by decide +kernel
theorem dJ5_append_cf1ce_20 : decode cJ5_append_cf1ce 20 = .ok (.iadd, 1) := by decide +kernel
theorem dJ5_append_cf1ce_21 : decode cJ5_append_cf1ce 21 = .ok (.invokevirtual 100, 3) := by decide +kernel
theorem dJ5_append_cf1ce_24 : decode cJ5_append_cf1ce 24 = .ok (.aload_n 0, 1) := by decide +kernel
theorem dJ5_append_cf1ce_25 : decode cJ5_append_cf1ce 25 = .ok (.aload_n 0, 1) := by decide +kernel
theorem dJ5_append_cf1ce_26 : decode cJ5_append_cf1ce 26 = .ok (.getfield 79, 3) := by decide +kernel
theorem dJ5_append_cf1ce_29 : decode cJ5_append_cf1ce 29 = .ok (.aload_n 1, 1) := by decide +kernel
theorem dJ5_append_cf1ce_30 : decode cJ5_append_cf1ce 30 = .ok (.invokevirtual 208, 3) := by decide +kernel
theorem dJ5_append_cf1ce_33 : decode cJ5_append_cf1ce 33 = .ok (.aload_n 0, 1) := by decide +kernel
theorem dJ5_append_cf1ce_34 : decode cJ5_append_cf1ce 34 = .ok (.dup, 1) := by decide +kernel
theorem dJ5_append_cf1ce_35 : decode cJ5_append_cf1ce 35 = .ok (.getfield 79, 3) := by decide +kernel
theorem dJ5_append_cf1ce_38 : decode cJ5_append_cf1ce 38 = .ok (.iload_n 2, 1) := by decide +kernel
theorem dJ5_append_cf1ce_39 : decode cJ5_append_cf1ce 39 = .ok (.iadd, 1) := by decide +kernel
theorem dJ5_append_cf1ce_40 : decode cJ5_append_cf1ce 40 = .ok (.putfield 79, 3) := by decide +kernel
theorem dJ5_append_cf1ce_43 : decode cJ5_append_cf1ce 43 = .ok (.aload_n 0, 1) := by decide +kernel
theorem dJ5_append_cf1ce_44 : decode cJ5_append_cf1ce 44 = .ok (.areturn, 1) := by decide +kernel
theorem dJ5_append_c97b9_0 : decode cJ5_append_c97b9 0 = .ok (.aload_n 0, 1) := by decide +kernel
theorem dJ5_append_c97b9_1 : decode cJ5_append_c97b9 1 = .ok (.getfield 79, 3) := by decide +kernel
theorem dJ5_append_c97b9_4 : decode cJ5_append_c97b9 4 = .ok (.istore_n 2, 1) := by decide +kernel
theorem dJ5_append_c97b9_5 : decode cJ5_append_c97b9 5 = .ok (.iload_n 2, 1) := by decide +kernel
theorem dJ5_append_c97b9_6 : decode cJ5_append_c97b9 6 = .ok (.iload_n 1, 1) := by decide +kernel
theorem dJ5_append_c97b9_7 : decode cJ5_append_c97b9 7 = .ok (.invokestatic 245, 3) := by decide +kernel
theorem dJ5_append_c97b9_10 : decode cJ5_append_c97b9 10 = .ok (.iadd, 1) := by decide +kernel
theorem dJ5_append_c97b9_11 : decode cJ5_append_c97b9 11 = .ok (.istore_n 3, 1) := by decide +kernel
theorem dJ5_append_c97b9_12 : decode cJ5_append_c97b9 12 = .ok (.aload_n 0, 1) := by decide +kernel
theorem dJ5_append_c97b9_13 : decode cJ5_append_c97b9 13 = .ok (.iload_n 3, 1) := by decide +kernel
theorem dJ5_append_c97b9_14 : decode cJ5_append_c97b9 14 = .ok (.invokevirtual 100, 3) := by decide +kernel
theorem dJ5_append_c97b9_17 : decode cJ5_append_c97b9 17 = .ok (.aload_n 0, 1) := by decide +kernel
theorem dJ5_append_c97b9_18 : decode cJ5_append_c97b9 18 = .ok (.invokevirtual 83, 3) := by decide +kernel
theorem dJ5_append_c97b9_21 : decode cJ5_append_c97b9 21 = .ok (.ifCond .eq 16, 3) := by decide +kernel
theorem dJ5_append_c97b9_24 : decode cJ5_append_c97b9 24 = .ok (.iload_n 1, 1) := by decide +kernel
theorem dJ5_append_c97b9_25 : decode cJ5_append_c97b9 25 = .ok (.iload_n 3, 1) := by decide +kernel
theorem dJ5_append_c97b9_26 : decode cJ5_append_c97b9 26 = .ok (.aload_n 0, 1) := by decide +kernel
theorem dJ5_append_c97b9_27 : decode cJ5_append_c97b9 27 = .ok (.getfield 15, 3) := by decide +kernel
theorem dJ5_append_c97b9_30 : decode cJ5_append_c97b9 30 = .ok (.invokestatic 248, 3) := by decide +kernel
theorem dJ5_append_c97b9_33 : decode cJ5_append_c97b9 33 = .ok (.pop, 1) := by decide +kernel
theorem dJ5_append_c97b9_34 : decode cJ5_append_c97b9 34 = .ok (.goto 14, 3) := by decide +kernel
theorem dJ5_append_c97b9_48 : decode cJ5_append_c97b9 48 = .ok (.aload_n 0, 1) := by decide +kernel
theorem dJ5_append_c97b9_49 : decode cJ5_append_c97b9 49 = .ok (.iload_n 3, 1) := by decide +kernel
theorem dJ5_append_c97b9_50 : decode cJ5_append_c97b9 50 = .ok (.putfield 79, 3) := by decide +kernel
theorem dJ5_append_c97b9_53 : decode cJ5_append_c97b9 53 = .ok (.aload_n 0, 1) := by decide +kernel
theorem dJ5_append_c97b9_54 : decode cJ5_append_c97b9 54 = .ok (.areturn, 1) := by decide +kernel
theorem dJ5_getValue_6d5f1_0 : decode cJ5_getValue_6d5f1 0 = .ok (.aload_n 0, 1) := by decide +kernel
theorem dJ5_getValue_6d5f1_1 : decode cJ5_getValue_6d5f1 1 = .ok (.getfield 15, 3) := by decide +kernel
theorem dJ5_getValue_6d5f1_4 : decode cJ5_getValue_6d5f1 4 = .ok (.areturn, 1) := by decide +kernel
theorem dJ5_isLatin1_aae02_0 : decode cJ5_isLatin1_aae02 0 = .ok (.getstatic 18, 3) := by decide +kernel
theorem dJ5_isLatin1_aae02_3 : decode cJ5_isLatin1_aae02 3 = .ok (.ifCond .eq 14, 3) := by decide +kernel
theorem dJ5_isLatin1_aae02_6 : decode cJ5_isLatin1_aae02 6 = .ok (.aload_n 0, 1) := by decide +kernel
theorem dJ5_isLatin1_aae02_7 : decode cJ5_isLatin1_aae02 7 = .ok (.getfield 22, 3) := by decide +kernel
theorem dJ5_isLatin1_aae02_10 : decode cJ5_isLatin1_aae02 10 = .ok (.ifCond .ne 7, 3) := by decide +kernel
theorem dJ5_isLatin1_aae02_13 : decode cJ5_isLatin1_aae02 13 = .ok (.iconst 1, 1) := by decide +kernel
theorem dJ5_isLatin1_aae02_14 : decode cJ5_isLatin1_aae02 14 = .ok (.goto 4, 3) := by decide +kernel
theorem dJ5_isLatin1_aae02_18 : decode cJ5_isLatin1_aae02 18 = .ok (.ireturn, 1) := by decide +kernel
theorem dJ5_inflateIfNeededFor_a7421_0 : decode cJ5_inflateIfNeededFor_a7421 0 = .ok (.getstatic 18, 3) := by decide +kernel
theorem dJ5_inflateIfNeededFor_a7421_3 : decode cJ5_inflateIfNeededFor_a7421 3 = .ok (.ifCond .eq 18, 3) := by decide +kernel
theorem dJ5_inflateIfNeededFor_a7421_6 : decode cJ5_inflateIfNeededFor_a7421 6 = .ok (.aload_n 0, 1) := by decide +kernel
theorem dJ5_inflateIfNeededFor_a7421_7 : decode cJ5_inflateIfNeededFor_a7421 7 = .ok (.getfield 22, 3) := by decide +kernel
theorem dJ5_inflateIfNeededFor_a7421_10 : decode cJ5_inflateIfNeededFor_a7421 10 = .ok (.aload_n 1, 1) := by decide +kernel
theorem dJ5_inflateIfNeededFor_a7421_11 : decode cJ5_inflateIfNeededFor_a7421 11 = .ok (.invokevirtual 40, 3) := by decide +kernel
theorem dJ5_inflateIfNeededFor_a7421_14 : decode cJ5_inflateIfNeededFor_a7421 14 = .ok (.if_icmp .eq 7, 3) := by decide +kernel
theorem dJ5_inflateIfNeededFor_a7421_21 : decode cJ5_inflateIfNeededFor_a7421 21 = .ok (.return_, 1) := by decide +kernel
theorem dJ5_putStringAt_47b60_0 : decode cJ5_putStringAt_47b60 0 = .ok (.aload_n 0, 1) := by decide +kernel
theorem dJ5_putStringAt_47b60_1 : decode cJ5_putStringAt_47b60 1 = .ok (.aload_n 2, 1) := by decide +kernel
theorem dJ5_putStringAt_47b60_2 : decode cJ5_putStringAt_47b60 2 = .ok (.invokevirtual 397, 3) := by decide +kernel
theorem dJ5_putStringAt_47b60_5 : decode cJ5_putStringAt_47b60 5 = .ok (.aload_n 2, 1) := by decide +kernel
theorem dJ5_putStringAt_47b60_6 : decode cJ5_putStringAt_47b60 6 = .ok (.aload_n 0, 1) := by decide +kernel
theorem dJ5_putStringAt_47b60_7 : decode cJ5_putStringAt_47b60 7 = .ok (.getfield 15, 3) := by decide +kernel
theorem dJ5_putStringAt_47b60_10 : decode cJ5_putStringAt_47b60 10 = .ok (.iload_n 1, 1) := by decide +kernel
theorem dJ5_putStringAt_47b60_11 : decode cJ5_putStringAt_47b60 11 = .ok (.aload_n 0, 1) := by decide +kernel
theorem dJ5_putStringAt_47b60_12 : decode cJ5_putStringAt_47b60 12 = .ok (.getfield 22, 3) := by decide +kernel
theorem dJ5_putStringAt_47b60_15 : decode cJ5_putStringAt_47b60 15 = .ok (.invokevirtual 399, 3) := by decide +kernel
theorem dJ5_putStringAt_47b60_18 : decode cJ5_putStringAt_47b60 18 = .ok (.return_, 1) := by decide +kernel
theorem dJ6_getChars_ba4f3_0 : decode cJ6_getChars_ba4f3 0 = .ok (.iload_n 1, 1) := by decide +kernel
theorem dJ6_getChars_ba4f3_1 : decode cJ6_getChars_ba4f3 1 = .ok (.istore 5, 2) := by decide +kernel
theorem dJ6_getChars_ba4f3_3 : decode cJ6_getChars_ba4f3 3 = .ok (.iload_n 0, 1) := by decide +kernel
theorem dJ6_getChars_ba4f3_4 : decode cJ6_getChars_ba4f3 4 = .ok (.ifCond .ge 7, 3) := by decide +kernel
theorem dJ6_getChars_ba4f3_11 : decode cJ6_getChars_ba4f3 11 = .ok (.iconst 0, 1) := by decide +kernel
theorem dJ6_getChars_ba4f3_12 : decode cJ6_getChars_ba4f3 12 = .ok (.istore 6, 2) := by decide +kernel
theorem dJ6_getChars_ba4f3_14 : decode cJ6_getChars_ba4f3 14 = .ok (.iload 6, 2) := by decide +kernel
theorem dJ6_getChars_ba4f3_16 : decode cJ6_getChars_ba4f3 16 = .ok (.ifCond .ne 6, 3) := by decide +kernel
theorem dJ6_getChars_ba4f3_19 : decode cJ6_getChars_ba4f3 19 = .ok (.iload_n 0, 1) := by decide +kernel
theorem dJ6_getChars_ba4f3_20 : decode cJ6_getChars_ba4f3 20 = .ok (.ineg, 1) := by decide +kernel
theorem dJ6_getChars_ba4f3_21 : decode cJ6_getChars_ba4f3 21 = .ok (.istore_n 0, 1) := by decide +kernel
theorem dJ6_getChars_ba4f3_22 : decode cJ6_getChars_ba4f3 22 = .ok (.iload_n 0, 1) := by decide +kernel
theorem dJ6_getChars_ba4f3_23 : decode cJ6_getChars_ba4f3 23 = .ok (.bipush (-100), 2) := by decide +kernel
theorem dJ6_getChars_ba4f3_25 : decode cJ6_getChars_ba4f3 25 = .ok (.if_icmp .gt 47, 3) := by decide +kernel
theorem dJ6_getChars_ba4f3_72 : decode cJ6_getChars_ba4f3 72 = .ok (.aload_n 2, 1) := by decide +kernel
theorem dJ6_getChars_ba4f3_73 : decode cJ6_getChars_ba4f3 73 = .ok (.iinc 5 (-1), 3) := by decide +kernel
theorem dJ6_getChars_ba4f3_76 : decode cJ6_getChars_ba4f3 76 = .ok (.iload 5, 2) := by decide +kernel
theorem dJ6_getChars_ba4f3_78 : decode cJ6_getChars_ba4f3 78 = .ok (.getstatic 83, 3) := by decide +kernel
theorem dJ6_getChars_ba4f3_81 : decode cJ6_getChars_ba4f3 81 = .ok (.iload_n 0, 1) := by decide +kernel
theorem dJ6_getChars_ba4f3_82 : decode cJ6_getChars_ba4f3 82 = .ok (.ineg, 1) := by decide +kernel
theorem dJ6_getChars_ba4f3_83 : decode cJ6_getChars_ba4f3 83 = .ok (.baload, 1) := by decide +kernel
theorem dJ6_getChars_ba4f3_84 : decode cJ6_getChars_ba4f3 84 = .ok (.bastore, 1) := by decide +kernel
theorem dJ6_getChars_ba4f3_85 : decode cJ6_getChars_ba4f3 85 = .ok (.iload_n 0, 1) := by decide +kernel
theorem dJ6_getChars_ba4f3_86 : decode cJ6_getChars_ba4f3 86 = .ok (.bipush (-9), 2) := by decide +kernel
theorem dJ6_getChars_ba4f3_88 : decode cJ6_getChars_ba4f3 88 = .ok (.if_icmp .ge 16, 3) := by decide +kernel
theorem dJ6_getChars_ba4f3_91 : decode cJ6_getChars_ba4f3 91 = .ok (.aload_n 2, 1) := by decide +kernel
theorem dJ6_getChars_ba4f3_92 : decode cJ6_getChars_ba4f3 92 = .ok (.iinc 5 (-1), 3) := by decide +kernel
theorem dJ6_getChars_ba4f3_95 : decode cJ6_getChars_ba4f3 95 = .ok (.iload 5, 2) := by decide +kernel
theorem dJ6_getChars_ba4f3_97 : decode cJ6_getChars_ba4f3 97 = .ok (.getstatic 87, 3) := by decide +kernel
theorem dJ6_getChars_ba4f3_100 : decode cJ6_getChars_ba4f3 100 = .ok (.iload_n 0, 1) := by decide +kernel
theorem dJ6_getChars_ba4f3_101 : decode cJ6_getChars_ba4f3 101 = .ok (.ineg, 1) := by decide +kernel
theorem dJ6_getChars_ba4f3_102 : decode cJ6_getChars_ba4f3 102 = .ok (.baload, 1) := by decide +kernel
theorem dJ6_getChars_ba4f3_103 : decode cJ6_getChars_ba4f3 103 = .ok (.bastore, 1) := by decide +kernel
theorem dJ6_getChars_ba4f3_104 : decode cJ6_getChars_ba4f3 104 = .ok (.iload 6, 2) := by decide +kernel
theorem dJ6_getChars_ba4f3_106 : decode cJ6_getChars_ba4f3 106 = .ok (.ifCond .eq 12, 3) := by decide +kernel
theorem dJ6_getChars_ba4f3_118 : decode cJ6_getChars_ba4f3 118 = .ok (.iload 5, 2) := by decide +kernel
theorem dJ6_getChars_ba4f3_120 : decode cJ6_getChars_ba4f3 120 = .ok (.ireturn, 1) := by decide +kernel
theorem dJ6_stringSize_0f7a4_0 : decode cJ6_stringSize_0f7a4 0 = .ok (.iconst 1, 1) := by decide +kernel
theorem dJ6_stringSize_0f7a4_1 : decode cJ6_stringSize_0f7a4 1 = .ok (.istore_n 1, 1) := by decide +kernel
theorem dJ6_stringSize_0f7a4_2 : decode cJ6_stringSize_0f7a4 2 = .ok (.iload_n 0, 1) := by decide +kernel
theorem dJ6_stringSize_0f7a4_3 : decode cJ6_stringSize_0f7a4 3 = .ok (.ifCond .lt 8, 3) := by decide +kernel
theorem dJ6_stringSize_0f7a4_6 : decode cJ6_stringSize_0f7a4 6 = .ok (.iconst 0, 1) := by decide +kernel
theorem dJ6_stringSize_0f7a4_7 : decode cJ6_stringSize_0f7a4 7 = .ok (.istore_n 1, 1) := by decide +kernel
theorem dJ6_stringSize_0f7a4_8 : decode cJ6_stringSize_0f7a4 8 = .ok (.iload_n 0, 1) := by decide +kernel
theorem dJ6_stringSize_0f7a4_9 : decode cJ6_stringSize_0f7a4 9 = .ok (.ineg, 1) := by decide +kernel
theorem dJ6_stringSize_0f7a4_10 : decode cJ6_stringSize_0f7a4 10 = .ok (.istore_n 0, 1) := by decide +kernel
theorem dJ6_stringSize_0f7a4_11 : decode cJ6_stringSize_0f7a4 11 = .ok (.bipush (-10), 2) := by decide +kernel
theorem dJ6_stringSize_0f7a4_13 : decode cJ6_stringSize_0f7a4 13 = .ok (.istore_n 2, 1) := by decide +kernel
theorem dJ6_stringSize_0f7a4_14 : decode cJ6_stringSize_0f7a4 14 = .ok (.iconst 1, 1) := by decide +kernel
theorem dJ6_stringSize_0f7a4_15 : decode cJ6_stringSize_0f7a4 15 = .ok (.istore_n 3, 1) := by decide +kernel
theorem dJ6_stringSize_0f7a4_16 : decode cJ6_stringSize_0f7a4 16 = .ok (.iload_n 3, 1) := by decide +kernel
theorem dJ6_stringSize_0f7a4_17 : decode cJ6_stringSize_0f7a4 17 = .ok (.bipush 10, 2) := by decide +kernel
theorem dJ6_stringSize_0f7a4_19 : decode cJ6_stringSize_0f7a4 19 = .ok (.if_icmp .ge 23, 3) := by decide +kernel
theorem dJ6_stringSize_0f7a4_22 : decode cJ6_stringSize_0f7a4 22 = .ok (.iload_n 0, 1) := by decide +kernel
theorem dJ6_stringSize_0f7a4_23 : decode cJ6_stringSize_0f7a4 23 = .ok (.iload_n 2, 1) := by decide +kernel
theorem dJ6_stringSize_0f7a4_24 : decode cJ6_stringSize_0f7a4 24 = .ok (.if_icmp .le 7, 3) := by decide +kernel
theorem dJ6_stringSize_0f7a4_27 : decode cJ6_stringSize_0f7a4 27 = .ok (.iload_n 3, 1) := by decide +kernel
theorem dJ6_stringSize_0f7a4_28 : decode cJ6_stringSize_0f7a4 28 = .ok (.iload_n 1, 1) := by decide +kernel
theorem dJ6_stringSize_0f7a4_29 : decode cJ6_stringSize_0f7a4 29 = .ok (.iadd, 1) := by decide +kernel
theorem dJ6_stringSize_0f7a4_30 : decode cJ6_stringSize_0f7a4 30 = .ok (.ireturn, 1) := by decide +kernel
theorem dJ6_stringSize_0f7a4_31 : decode cJ6_stringSize_0f7a4 31 = .ok (.bipush 10, 2) := by decide +kernel
theorem dJ6_stringSize_0f7a4_33 : decode cJ6_stringSize_0f7a4 33 = .ok (.iload_n 2, 1) := by decide +kernel
theorem dJ6_stringSize_0f7a4_34 : decode cJ6_stringSize_0f7a4 34 = .ok (.imul, 1) := by decide +kernel
theorem dJ6_stringSize_0f7a4_35 : decode cJ6_stringSize_0f7a4 35 = .ok (.istore_n 2, 1) := by decide +kernel
theorem dJ6_stringSize_0f7a4_36 : decode cJ6_stringSize_0f7a4 36 = .ok (.iinc 3 1, 3) := by decide +kernel
theorem dJ6_stringSize_0f7a4_39 : decode cJ6_stringSize_0f7a4 39 = .ok (.goto (-23), 3) := by decide +kernel
theorem dJ9_min_7cf53_0 : decode cJ9_min_7cf53 0 = .ok (.iload_n 0, 1) := by decide +kernel
theorem dJ9_min_7cf53_1 : decode cJ9_min_7cf53 1 = .ok (.iload_n 1, 1) := by decide +kernel
theorem dJ9_min_7cf53_2 : decode cJ9_min_7cf53 2 = .ok (.if_icmp .gt 7, 3) := by decide +kernel
theorem dJ9_min_7cf53_5 : decode cJ9_min_7cf53 5 = .ok (.iload_n 0, 1) := by decide +kernel
theorem dJ9_min_7cf53_6 : decode cJ9_min_7cf53 6 = .ok (.goto 4, 3) := by decide +kernel
theorem dJ9_min_7cf53_9 : decode cJ9_min_7cf53 9 = .ok (.iload_n 1, 1) := by decide +kernel
theorem dJ9_min_7cf53_10 : decode cJ9_min_7cf53 10 = .ok (.ireturn, 1) := by decide +kernel
theorem dJ0_init_81219_0 : decode cJ0_init_81219 0 = .ok (.aload_n 0, 1) := by decide +kernel
theorem dJ0_init_81219_1 : decode cJ0_init_81219 1 = .ok (.aload_n 1, 1) := by decide +kernel
theorem dJ0_init_81219_2 : decode cJ0_init_81219 2 = .ok (.aconst_null, 1) := by decide +kernel
theorem dJ0_init_81219_3 : decode cJ0_init_81219 3 = .ok (.invokespecial 489, 3) := by decide +kernel
theorem dJ0_init_81219_6 : decode cJ0_init_81219 6 = .ok (.return_, 1) := by decide +kernel
theorem dJ0_length_8abf5_0 : decode cJ0_length_8abf5 0 = .ok (.aload_n 0, 1) := by decide +kernel
theorem dJ0_length_8abf5_1 : decode cJ0_length_8abf5 1 = .ok (.getfield 9, 3) := by decide +kernel
theorem dJ0_length_8abf5_4 : decode cJ0_length_8abf5 4 = .ok (.arraylength, 1) := by decide +kernel
theorem dJ0_length_8abf5_5 : decode cJ0_length_8abf5 5 = .ok (.aload_n 0, 1) := by decide +kernel
theorem dJ0_length_8abf5_6 : decode cJ0_length_8abf5 6 = .ok (.invokevirtual 335, 3) := by decide +kernel
theorem dJ0_length_8abf5_9 : decode cJ0_length_8abf5 9 = .ok (.ishr, 1) := by decide +kernel
theorem dJ0_length_8abf5_10 : decode cJ0_length_8abf5 10 = .ok (.ireturn, 1) := by decide +kernel
theorem dJ0_charAt_5068e_0 : decode cJ0_charAt_5068e 0 = .ok (.aload_n 0, 1) := by decide +kernel
theorem dJ0_charAt_5068e_1 : decode cJ0_charAt_5068e 1 = .ok (.invokevirtual 492, 3) := by decide +kernel
theorem dJ0_charAt_5068e_4 : decode cJ0_charAt_5068e 4 = .ok (.ifCond .eq 12, 3) := by decide +kernel
theorem dJ0_charAt_5068e_7 : decode cJ0_charAt_5068e 7 = .ok (.aload_n 0, 1) := by decide +kernel
theorem dJ0_charAt_5068e_8 : decode cJ0_charAt_5068e 8 = .ok (.getfield 9, 3) := by decide +kernel
theorem dJ0_charAt_5068e_11 : decode cJ0_charAt_5068e 11 = .ok (.iload_n 1, 1) := by decide +kernel
theorem dJ0_charAt_5068e_12 : decode cJ0_charAt_5068e 12 = .ok (.invokestatic 495, 3) := by decide +kernel
theorem dJ0_charAt_5068e_15 : decode cJ0_charAt_5068e 15 = .ok (.ireturn, 1) := by decide +kernel
theorem dJ0_substring_37a41_0 : decode cJ0_substring_37a41 0 = .ok (.aload_n 0, 1) := by decide +kernel
theorem dJ0_substring_37a41_1 : decode cJ0_substring_37a41 1 = .ok (.invokevirtual 505, 3) := by decide +kernel
theorem dJ0_substring_37a41_4 : decode cJ0_substring_37a41 4 = .ok (.istore_n 3, 1) := by decide +kernel
theorem dJ0_substring_37a41_5 : decode cJ0_substring_37a41 5 = .ok (.iload_n 1, 1) := by decide +kernel
theorem dJ0_substring_37a41_6 : decode cJ0_substring_37a41 6 = .ok (.iload_n 2, 1) := by decide +kernel
theorem dJ0_substring_37a41_7 : decode cJ0_substring_37a41 7 = .ok (.iload_n 3, 1) := by decide +kernel
theorem dJ0_substring_37a41_8 : decode cJ0_substring_37a41 8 = .ok (.invokestatic 521, 3) := by decide +kernel
theorem dJ0_substring_37a41_11 : decode cJ0_substring_37a41 11 = .ok (.iload_n 1, 1) := by decide +kernel
theorem dJ0_substring_37a41_12 : decode cJ0_substring_37a41 12 = .ok (.ifCond .ne 10, 3) := by decide +kernel
theorem dJ0_substring_37a41_15 : decode cJ0_substring_37a41 15 = .ok (.iload_n 2, 1) := by decide +kernel
theorem dJ0_substring_37a41_16 : decode cJ0_substring_37a41 16 = .ok (.iload_n 3, 1) := by decide +kernel
theorem dJ0_substring_37a41_17 : decode cJ0_substring_37a41 17 = .ok (.if_icmp .ne 5, 3) := by decide +kernel
theorem dJ0_substring_37a41_22 : decode cJ0_substring_37a41 22 = .ok (.iload_n 2, 1) := by decide +kernel
theorem dJ0_substring_37a41_23 : decode cJ0_substring_37a41 23 = .ok (.iload_n 1, 1) := by decide +kernel
theorem dJ0_substring_37a41_24 : decode cJ0_substring_37a41 24 = .ok (.isub, 1) := by decide +kernel
theorem dJ0_substring_37a41_25 : decode cJ0_substring_37a41 25 = .ok (.istore 4, 2) := by decide +kernel
theorem dJ0_substring_37a41_27 : decode cJ0_substring_37a41 27 = .ok (.aload_n 0, 1) := by decide +kernel
theorem dJ0_substring_37a41_28 : decode cJ0_substring_37a41 28 = .ok (.invokevirtual 492, 3) := by decide +kernel
theorem dJ0_substring_37a41_31 : decode cJ0_substring_37a41 31 = .ok (.ifCond .eq 16, 3) := by decide +kernel
theorem dJ0_substring_37a41_34 : decode cJ0_substring_37a41 34 = .ok (.aload_n 0, 1) := by decide +kernel
theorem dJ0_substring_37a41_35 : decode cJ0_substring_37a41 35 = .ok (.getfield 9, 3) := by decide +kernel
theorem dJ0_substring_37a41_38 : decode cJ0_substring_37a41 38 = .ok (.iload_n 1, 1) := by decide +kernel
theorem dJ0_substring_37a41_39 : decode cJ0_substring_37a41 39 = .ok (.iload 4, 2) := by decide +kernel
theorem dJ0_substring_37a41_41 : decode cJ0_substring_37a41 41 = .ok (.invokestatic 685, 3) := by decide +kernel
theorem dJ0_substring_37a41_44 : decode cJ0_substring_37a41 44 = .ok (.goto 13, 3) := by decide +kernel
theorem dJ0_substring_37a41_57 : decode cJ0_substring_37a41 57 = .ok (.areturn, 1) := by decide +kernel
theorem dJ0_getBytes_840e7_0 : decode cJ0_getBytes_840e7 0 = .ok (.aload_n 0, 1) := by decide +kernel
theorem dJ0_getBytes_840e7_1 : decode cJ0_getBytes_840e7 1 = .ok (.invokevirtual 335, 3) := by decide +kernel
theorem dJ0_getBytes_840e7_4 : decode cJ0_getBytes_840e7 4 = .ok (.iload_n 3, 1) := by decide +kernel
theorem dJ0_getBytes_840e7_5 : decode cJ0_getBytes_840e7 5 = .ok (.if_icmp .ne 23, 3) := by decide +kernel
theorem dJ0_getBytes_840e7_8 : decode cJ0_getBytes_840e7 8 = .ok (.aload_n 0, 1) := by decide +kernel
theorem dJ0_getBytes_840e7_9 : decode cJ0_getBytes_840e7 9 = .ok (.getfield 9, 3) := by decide +kernel
theorem dJ0_getBytes_840e7_12 : decode cJ0_getBytes_840e7 12 = .ok (.iconst 0, 1) := by decide +kernel
theorem dJ0_getBytes_840e7_13 : decode cJ0_getBytes_840e7 13 = .ok (.aload_n 1, 1) := by decide +kernel
theorem dJ0_getBytes_840e7_14 : decode cJ0_getBytes_840e7 14 = .ok (.iload_n 2, 1) := by decide +kernel
theorem dJ0_getBytes_840e7_15 : decode cJ0_getBytes_840e7 15 = .ok (.iload_n 3, 1) := by decide +kernel
theorem dJ0_getBytes_840e7_16 : decode cJ0_getBytes_840e7 16 = .ok (.ishl, 1) := by decide +kernel
theorem dJ0_getBytes_840e7_17 : decode cJ0_getBytes_840e7 17 = .ok (.aload_n 0, 1) := by decide +kernel
theorem dJ0_getBytes_840e7_18 : decode cJ0_getBytes_840e7 18 = .ok (.getfield 9, 3) := by decide +kernel
theorem dJ0_getBytes_840e7_21 : decode cJ0_getBytes_840e7 21 = .ok (.arraylength, 1) := by decide +kernel
theorem dJ0_getBytes_840e7_22 : decode cJ0_getBytes_840e7 22 = .ok (.invokestatic 212, 3) := by decide +kernel
theorem dJ0_getBytes_840e7_25 : decode cJ0_getBytes_840e7 25 = .ok (.goto 18, 3) := by decide +kernel
theorem dJ0_getBytes_840e7_43 : decode cJ0_getBytes_840e7 43 = .ok (.return_, 1) := by decide +kernel
theorem dJ0_init_db425_0 : decode cJ0_init_db425 0 = .ok (.aload_n 0, 1) := by decide +kernel
theorem dJ0_init_db425_1 : decode cJ0_init_db425 1 = .ok (.invokespecial 1, 3) := by decide +kernel
theorem dJ0_init_db425_4 : decode cJ0_init_db425 4 = .ok (.aload_n 1, 1) := by decide +kernel
theorem dJ0_init_db425_5 : decode cJ0_init_db425 5 = .ok (.invokevirtual 552, 3) := by decide +kernel
theorem dJ0_init_db425_8 : decode cJ0_init_db425 8 = .ok (.astore_n 3, 1) := by decide +kernel
theorem dJ0_init_db425_9 : decode cJ0_init_db425 9 = .ok (.aload_n 1, 1) := by decide +kernel
theorem dJ0_init_db425_10 : decode cJ0_init_db425 10 = .ok (.invokevirtual 549, 3) := by decide +kernel
theorem dJ0_init_db425_13 : decode cJ0_init_db425 13 = .ok (.istore 4, 2) := by decide +kernel
theorem dJ0_init_db425_15 : decode cJ0_init_db425 15 = .ok (.aload_n 1, 1) := by decide +kernel
theorem dJ0_init_db425_16 : decode cJ0_init_db425 16 = .ok (.invokevirtual 1047, 3) := by decide +kernel
theorem dJ0_init_db425_19 : decode cJ0_init_db425 19 = .ok (.ifCond .eq 22, 3) := by decide +kernel
theorem dJ0_init_db425_22 : decode cJ0_init_db425 22 = .ok (.aload_n 0, 1) := by decide +kernel
theorem dJ0_init_db425_23 : decode cJ0_init_db425 23 = .ok (.iconst 0, 1) := by decide +kernel
theorem dJ0_init_db425_24 : decode cJ0_init_db425 24 = .ok (.putfield 15, 3) := by decide +kernel
theorem dJ0_init_db425_27 : decode cJ0_init_db425 27 = .ok (.aload_n 0, 1) := by decide +kernel
theorem dJ0_init_db425_28 : decode cJ0_init_db425 28 = .ok (.aload_n 3, 1) := by decide +kernel
theorem dJ0_init_db425_29 : decode cJ0_init_db425 29 = .ok (.iconst 0, 1) := by decide +kernel
theorem dJ0_init_db425_30 : decode cJ0_init_db425 30 = .ok (.iload 4, 2) := by decide +kernel
theorem dJ0_init_db425_32 : decode cJ0_init_db425 32 = .ok (.invokestatic 54, 3) := by decide +kernel
theorem dJ0_init_db425_35 : decode cJ0_init_db425 35 = .ok (.putfield 9, 3) := by decide +kernel
theorem dJ0_init_db425_38 : decode cJ0_init_db425 38 = .ok (.goto 59, 3) := by decide +kernel
theorem dJ0_init_db425_97 : decode cJ0_init_db425 97 = .ok (.return_, 1) := by decide +kernel
theorem dJ0_init_031fb_0 : decode cJ0_init_031fb 0 = .ok (.aload_n 0, 1) := by decide +kernel
theorem dJ0_init_031fb_1 : decode cJ0_init_031fb 1 = .ok (.invokespecial 1, 3) := by decide +kernel
theorem dJ0_init_031fb_4 : decode cJ0_init_031fb 4 = .ok (.aload_n 0, 1) := by decide +kernel
theorem dJ0_init_031fb_5 : decode cJ0_init_031fb 5 = .ok (.aload_n 1, 1) := by decide +kernel
theorem dJ0_init_031fb_6 : decode cJ0_init_031fb 6 = .ok (.putfield 9, 3) := by decide +kernel
theorem dJ0_init_031fb_9 : decode cJ0_init_031fb 9 = .ok (.aload_n 0, 1) := by decide +kernel
theorem dJ0_init_031fb_10 : decode cJ0_init_031fb 10 = .ok (.iload_n 2, 1) := by decide +kernel
theorem dJ0_init_031fb_11 : decode cJ0_init_031fb 11 = .ok (.putfield 15, 3) := by decide +kernel
theorem dJ0_init_031fb_14 : decode cJ0_init_031fb 14 = .ok (.return_, 1) := by decide +kernel
theorem dJ0_coder_7d493_0 : decode cJ0_coder_7d493 0 = .ok (.getstatic 38, 3) := by decide +kernel
theorem dJ0_coder_7d493_3 : decode cJ0_coder_7d493 3 = .ok (.ifCond .eq 10, 3) := by decide +kernel
theorem dJ0_coder_7d493_6 : decode cJ0_coder_7d493 6 = .ok (.aload_n 0, 1) := by decide +kernel
theorem dJ0_coder_7d493_7 : decode cJ0_coder_7d493 7 = .ok (.getfield 15, 3) := by decide +kernel
theorem dJ0_coder_7d493_10 : decode cJ0_coder_7d493 10 = .ok (.goto 4, 3) := by decide +kernel
theorem dJ0_coder_7d493_14 : decode cJ0_coder_7d493 14 = .ok (.ireturn, 1) := by decide +kernel
theorem dJ0_isLatin1_aae02_0 : decode cJ0_isLatin1_aae02 0 = .ok (.getstatic 38, 3) := by decide +kernel
theorem dJ0_isLatin1_aae02_3 : decode cJ0_isLatin1_aae02 3 = .ok (.ifCond .eq 14, 3) := by decide +kernel
theorem dJ0_isLatin1_aae02_6 : decode cJ0_isLatin1_aae02 6 = .ok (.aload_n 0, 1) := by decide +kernel
theorem dJ0_isLatin1_aae02_7 : decode cJ0_isLatin1_aae02 7 = .ok (.getfield 15, 3) := by decide +kernel
theorem dJ0_isLatin1_aae02_10 : decode cJ0_isLatin1_aae02 10 = .ok (.ifCond .ne 7, 3) := by decide +kernel
theorem dJ0_isLatin1_aae02_13 : decode cJ0_isLatin1_aae02 13 = .ok (.iconst 1, 1) := by decide +kernel
theorem dJ0_isLatin1_aae02_14 : decode cJ0_isLatin1_aae02 14 = .ok (.goto 4, 3) := by decide +kernel
theorem dJ0_isLatin1_aae02_18 : decode cJ0_isLatin1_aae02 18 = .ok (.ireturn, 1) := by decide +kernel
theorem dJ0_checkIndex_df160_0 : decode cJ0_checkIndex_df160 0 = .ok (.iload_n 0, 1) := by decide +kernel
theorem dJ0_checkIndex_df160_1 : decode cJ0_checkIndex_df160 1 = .ok (.iload_n 1, 1) := by decide +kernel
theorem dJ0_checkIndex_df160_2 : decode cJ0_checkIndex_df160 2 = .ok (.getstatic 1053, 3) := by decide +kernel
theorem dJ0_checkIndex_df160_5 : decode cJ0_checkIndex_df160 5 = .ok (.invokestatic 1059, 3) := by decide +kernel
theorem dJ0_checkIndex_df160_8 : decode cJ0_checkIndex_df160 8 = .ok (.pop, 1) := by decide +kernel
theorem dJ0_checkIndex_df160_9 : decode cJ0_checkIndex_df160 9 = .ok (.return_, 1) := by decide +kernel
theorem dJ0_checkBoundsBeginEnd_23922_0 : decode cJ0_checkBoundsBeginEnd_23922 0 = .ok (.iload_n 0, 1) := by decide +kernel
theorem dJ0_checkBoundsBeginEnd_23922_1 : decode cJ0_checkBoundsBeginEnd_23922 1 = .ok (.iload_n 1, 1) := by decide +kernel
theorem dJ0_checkBoundsBeginEnd_23922_2 : decode cJ0_checkBoundsBeginEnd_23922 2 = .ok (.iload_n 2, 1) := by decide +kernel
theorem dJ0_checkBoundsBeginEnd_23922_3 : decode cJ0_checkBoundsBeginEnd_23922 3 = .ok (.getstatic 1053, 3) := by decide +kernel
theorem dJ0_checkBoundsBeginEnd_23922_6 : decode cJ0_checkBoundsBeginEnd_23922 6 = .ok (.invokestatic 1062, 3) := by decide +kernel
theorem dJ0_checkBoundsBeginEnd_23922_9 : decode cJ0_checkBoundsBeginEnd_23922 9 = .ok (.pop, 1) := by decide +kernel
theorem dJ0_checkBoundsBeginEnd_23922_10 : decode cJ0_checkBoundsBeginEnd_23922 10 = .ok (.return_, 1) := by decide +kernel
theorem dJ4_init_da8c8_0 : decode cJ4_init_da8c8 0 = .ok (.aload_n 0, 1) := by decide +kernel
theorem dJ4_init_da8c8_1 : decode cJ4_init_da8c8 1 = .ok (.bipush 16, 2) := by decide +kernel
theorem dJ4_init_da8c8_3 : decode cJ4_init_da8c8 3 = .ok (.invokespecial 1, 3) := by decide +kernel
theorem dJ4_init_da8c8_6 : decode cJ4_init_da8c8 6 = .ok (.return_, 1) := by decide +kernel
theorem dJ4_append_15ec4_0 : decode cJ4_append_15ec4 0 = .ok (.aload_n 0, 1) := by decide +kernel
theorem dJ4_append_15ec4_1 : decode cJ4_append_15ec4 1 = .ok (.aload_n 1, 1) := by decide +kernel
theorem dJ4_append_15ec4_2 : decode cJ4_append_15ec4 2 = .ok (.invokespecial 29, 3) := by decide +kernel
theorem dJ4_append_15ec4_5 : decode cJ4_append_15ec4 5 = .ok (.pop, 1) := by decide +kernel
theorem dJ4_append_15ec4_6 : decode cJ4_append_15ec4 6 = .ok (.aload_n 0, 1) := by decide +kernel
theorem dJ4_append_15ec4_7 : decode cJ4_append_15ec4 7 = .ok (.areturn, 1) := by decide +kernel
theorem dJ4_append_bf812_0 : decode cJ4_append_bf812 0 = .ok (.aload_n 0, 1) := by decide +kernel
theorem dJ4_append_bf812_1 : decode cJ4_append_bf812 1 = .ok (.iload_n 1, 1) := by decide +kernel
theorem dJ4_append_bf812_2 : decode cJ4_append_bf812 2 = .ok (.invokespecial 53, 3) := by decide +kernel
theorem dJ4_append_bf812_5 : decode cJ4_append_bf812 5 = .ok (.pop, 1) := by decide +kernel
theorem dJ4_append_bf812_6 : decode cJ4_append_bf812 6 = .ok (.aload_n 0, 1) := by decide +kernel
theorem dJ4_append_bf812_7 : decode cJ4_append_bf812 7 = .ok (.areturn, 1) := by decide +kernel
theorem dJ4_toString_0e30d_0 : decode cJ4_toString_0e30d 0 = .ok (.new 18, 3) := by decide +kernel
theorem dJ4_toString_0e30d_3 : decode cJ4_toString_0e30d 3 = .ok (.dup, 1) := by decide +kernel
theorem dJ4_toString_0e30d_4 : decode cJ4_toString_0e30d 4 = .ok (.aload_n 0, 1) := by decide +kernel
theorem dJ4_toString_0e30d_5 : decode cJ4_toString_0e30d 5 = .ok (.invokespecial 137, 3) := by decide +kernel
theorem dJ4_toString_0e30d_8 : decode cJ4_toString_0e30d 8 = .ok (.areturn, 1) := by decide +kernel
theorem dJ4_length_8abf5_0 : decode cJ4_length_8abf5 0 = .ok (.aload_n 0, 1) := by decide +kernel
theorem dJ4_length_8abf5_1 : decode cJ4_length_8abf5 1 = .ok (.invokespecial 343, 3) := by decide +kernel
theorem dJ4_length_8abf5_4 : decode cJ4_length_8abf5 4 = .ok (.ireturn, 1) := by decide +kernel
theorem dJ1_charAt_3b067_0 : decode cJ1_charAt_3b067 0 = .ok (.iload_n 1, 1) := by decide +kernel
theorem dJ1_charAt_3b067_1 : decode cJ1_charAt_3b067 1 = .ok (.aload_n 0, 1) := by decide +kernel
theorem dJ1_charAt_3b067_2 : decode cJ1_charAt_3b067 2 = .ok (.arraylength, 1) := by decide +kernel
theorem dJ1_charAt_3b067_3 : decode cJ1_charAt_3b067 3 = .ok (.invokestatic 9, 3) := by decide +kernel
theorem dJ1_charAt_3b067_6 : decode cJ1_charAt_3b067 6 = .ok (.aload_n 0, 1) := by decide +kernel
theorem dJ1_charAt_3b067_7 : decode cJ1_charAt_3b067 7 = .ok (.iload_n 1, 1) := by decide +kernel
theorem dJ1_charAt_3b067_8 : decode cJ1_charAt_3b067 8 = .ok (.baload, 1) := by decide +kernel
theorem dJ1_charAt_3b067_9 : decode cJ1_charAt_3b067 9 = .ok (.sipush 255, 3) := by decide +kernel
theorem dJ1_charAt_3b067_12 : decode cJ1_charAt_3b067 12 = .ok (.iand, 1) := by decide +kernel
theorem dJ1_charAt_3b067_13 : decode cJ1_charAt_3b067 13 = .ok (.i2c, 1) := by decide +kernel
theorem dJ1_charAt_3b067_14 : decode cJ1_charAt_3b067 14 = .ok (.ireturn, 1) := by decide +kernel
theorem dJ1_newString_b4f7a_0 : decode cJ1_newString_b4f7a 0 = .ok (.iload_n 2, 1) := by decide +kernel
theorem dJ1_newString_b4f7a_1 : decode cJ1_newString_b4f7a 1 = .ok (.ifCond .ne 6, 3) := by decide +kernel
theorem dJ1_newString_b4f7a_7 : decode cJ1_newString_b4f7a 7 = .ok (.new 1, 3) := by decide +kernel
theorem dJ1_newString_b4f7a_10 : decode cJ1_newString_b4f7a 10 = .ok (.dup, 1) := by decide +kernel
theorem dJ1_newString_b4f7a_11 : decode cJ1_newString_b4f7a 11 = .ok (.aload_n 0, 1) := by decide +kernel
theorem dJ1_newString_b4f7a_12 : decode cJ1_newString_b4f7a 12 = .ok (.iload_n 1, 1) := by decide +kernel
theorem dJ1_newString_b4f7a_13 : decode cJ1_newString_b4f7a 13 = .ok (.iload_n 1, 1) := by decide +kernel
theorem dJ1_newString_b4f7a_14 : decode cJ1_newString_b4f7a 14 = .ok (.iload_n 2, 1) := by decide +kernel
theorem dJ1_newString_b4f7a_15 : decode cJ1_newString_b4f7a 15 = .ok (.iadd, 1) := by decide +kernel
theorem dJ1_newString_b4f7a_16 : decode cJ1_newString_b4f7a 16 = .ok (.invokestatic 232, 3) := by decide +kernel
theorem dJ1_newString_b4f7a_19 : decode cJ1_newString_b4f7a 19 = .ok (.iconst 0, 1) := by decide +kernel
theorem dJ1_newString_b4f7a_20 : decode cJ1_newString_b4f7a 20 = .ok (.invokespecial 112, 3) := by decide +kernel
theorem dJ1_newString_b4f7a_23 : decode cJ1_newString_b4f7a 23 = .ok (.areturn, 1) := by decide +kernel
theorem dJ7_fill_53178_0 : decode cJ7_fill_53178 0 = .ok (.iconst 0, 1) := by decide +kernel
theorem dJ7_fill_53178_1 : decode cJ7_fill_53178 1 = .ok (.istore_n 2, 1) := by decide +kernel
theorem dJ7_fill_53178_2 : decode cJ7_fill_53178 2 = .ok (.aload_n 0, 1) := by decide +kernel
theorem dJ7_fill_53178_3 : decode cJ7_fill_53178 3 = .ok (.arraylength, 1) := by decide +kernel
theorem dJ7_fill_53178_4 : decode cJ7_fill_53178 4 = .ok (.istore_n 3, 1) := by decide +kernel
theorem dJ7_fill_53178_5 : decode cJ7_fill_53178 5 = .ok (.iload_n 2, 1) := by decide +kernel
theorem dJ7_fill_53178_6 : decode cJ7_fill_53178 6 = .ok (.iload_n 3, 1) := by decide +kernel
theorem dJ7_fill_53178_7 : decode cJ7_fill_53178 7 = .ok (.if_icmp .ge 13, 3) := by decide +kernel
theorem dJ7_fill_53178_10 : decode cJ7_fill_53178 10 = .ok (.aload_n 0, 1) := by decide +kernel
theorem dJ7_fill_53178_11 : decode cJ7_fill_53178 11 = .ok (.iload_n 2, 1) := by decide +kernel
theorem dJ7_fill_53178_12 : decode cJ7_fill_53178 12 = .ok (.iload_n 1, 1) := by decide +kernel
theorem dJ7_fill_53178_13 : decode cJ7_fill_53178 13 = .ok (.iastore, 1) := by decide +kernel
theorem dJ7_fill_53178_14 : decode cJ7_fill_53178 14 = .ok (.iinc 2 1, 3) := by decide +kernel
theorem dJ7_fill_53178_17 : decode cJ7_fill_53178 17 = .ok (.goto (-12), 3) := by decide +kernel
theorem dJ7_fill_53178_20 : decode cJ7_fill_53178 20 = .ok (.return_, 1) := by decide +kernel
theorem dJ7_checkLength_df160_0 : decode cJ7_checkLength_df160 0 = .ok (.iload_n 1, 1) := by decide +kernel
theorem dJ7_checkLength_df160_1 : decode cJ7_checkLength_df160 1 = .ok (.iload_n 0, 1) := by decide +kernel
theorem dJ7_checkLength_df160_2 : decode cJ7_checkLength_df160 2 = .ok (.if_icmp .ge 35, 3) := by decide +kernel
theorem dJ7_checkLength_df160_37 : decode cJ7_checkLength_df160 37 = .ok (.return_, 1) := by decide +kernel
theorem dJ7_copyOfRange_39247_0 : decode cJ7_copyOfRange_39247 0 = .ok (.iload_n 1, 1) := by decide +kernel
theorem dJ7_copyOfRange_39247_1 : decode cJ7_copyOfRange_39247 1 = .ok (.ifCond .ne 9, 3) := by decide +kernel
theorem dJ7_copyOfRange_39247_4 : decode cJ7_copyOfRange_39247 4 = .ok (.iload_n 2, 1) := by decide +kernel
theorem dJ7_copyOfRange_39247_5 : decode cJ7_copyOfRange_39247 5 = .ok (.aload_n 0, 1) := by decide +kernel
theorem dJ7_copyOfRange_39247_6 : decode cJ7_copyOfRange_39247 6 = .ok (.arraylength, 1) := by decide +kernel
theorem dJ7_copyOfRange_39247_7 : decode cJ7_copyOfRange_39247 7 = .ok (.if_icmp .eq 10, 3) := by decide +kernel
theorem dJ7_copyOfRange_39247_10 : decode cJ7_copyOfRange_39247 10 = .ok (.aload_n 0, 1) := by decide +kernel
theorem dJ7_copyOfRange_39247_11 : decode cJ7_copyOfRange_39247 11 = .ok (.iload_n 1, 1) := by decide +kernel
theorem dJ7_copyOfRange_39247_12 : decode cJ7_copyOfRange_39247 12 = .ok (.iload_n 2, 1) := by decide +kernel
theorem dJ7_copyOfRange_39247_13 : decode cJ7_copyOfRange_39247 13 = .ok (.invokestatic 339, 3) := by decide +kernel
theorem dJ7_copyOfRange_39247_16 : decode cJ7_copyOfRange_39247 16 = .ok (.areturn, 1) := by decide +kernel
theorem dJ7_copyOfRangeByte_39247_0 : decode cJ7_copyOfRangeByte_39247 0 = .ok (.iload_n 1, 1) := by decide +kernel
theorem dJ7_copyOfRangeByte_39247_1 : decode cJ7_copyOfRangeByte_39247 1 = .ok (.iload_n 2, 1) := by decide +kernel
theorem dJ7_copyOfRangeByte_39247_2 : decode cJ7_copyOfRangeByte_39247 2 = .ok (.invokestatic 343, 3) := by decide +kernel
theorem dJ7_copyOfRangeByte_39247_5 : decode cJ7_copyOfRangeByte_39247 5 = .ok (.iload_n 2, 1) := by decide +kernel
theorem dJ7_copyOfRangeByte_39247_6 : decode cJ7_copyOfRangeByte_39247 6 = .ok (.iload_n 1, 1) := by decide +kernel
theorem dJ7_copyOfRangeByte_39247_7 : decode cJ7_copyOfRangeByte_39247 7 = .ok (.isub, 1) := by decide +kernel
theorem dJ7_copyOfRangeByte_39247_8 : decode cJ7_copyOfRangeByte_39247 8 = .ok (.istore_n 3, 1) := by decide +kernel
theorem dJ7_copyOfRangeByte_39247_9 : decode cJ7_copyOfRangeByte_39247 9 = .ok (.iload_n 3, 1) := by decide +kernel
theorem dJ7_copyOfRangeByte_39247_10 : decode cJ7_copyOfRangeByte_39247 10 = .ok (.newarray .byte, 2) := by decide +kernel
theorem dJ7_copyOfRangeByte_39247_12 : decode cJ7_copyOfRangeByte_39247 12 = .ok (.astore 4, 2) := by decide +kernel
theorem dJ7_copyOfRangeByte_39247_14 : decode cJ7_copyOfRangeByte_39247 14 = .ok (.aload_n 0, 1) := by decide +kernel
theorem dJ7_copyOfRangeByte_39247_15 : decode cJ7_copyOfRangeByte_39247 15 = .ok (.iload_n 1, 1) := by decide +kernel
theorem dJ7_copyOfRangeByte_39247_16 : decode cJ7_copyOfRangeByte_39247 16 = .ok (.aload 4, 2) := by decide +kernel
theorem dJ7_copyOfRangeByte_39247_18 : decode cJ7_copyOfRangeByte_39247 18 = .ok (.iconst 0, 1) := by decide +kernel
theorem dJ7_copyOfRangeByte_39247_19 : decode cJ7_copyOfRangeByte_39247 19 = .ok (.aload_n 0, 1) := by decide +kernel
theorem dJ7_copyOfRangeByte_39247_20 : decode cJ7_copyOfRangeByte_39247 20 = .ok (.arraylength, 1) := by decide +kernel
theorem dJ7_copyOfRangeByte_39247_21 : decode cJ7_copyOfRangeByte_39247 21 = .ok (.iload_n 1, 1) := by decide +kernel
theorem dJ7_copyOfRangeByte_39247_22 : decode cJ7_copyOfRangeByte_39247 22 = .ok (.isub, 1) := by decide +kernel
theorem dJ7_copyOfRangeByte_39247_23 : decode cJ7_copyOfRangeByte_39247 23 = .ok (.iload_n 3, 1) := by decide +kernel
theorem dJ7_copyOfRangeByte_39247_24 : decode cJ7_copyOfRangeByte_39247 24 = .ok (.invokestatic 304, 3) := by decide +kernel
theorem dJ7_copyOfRangeByte_39247_27 : decode cJ7_copyOfRangeByte_39247 27 = .ok (.invokestatic 150, 3) := by decide +kernel
theorem dJ7_copyOfRangeByte_39247_30 : decode cJ7_copyOfRangeByte_39247 30 = .ok (.aload 4, 2) := by decide +kernel
theorem dJ7_copyOfRangeByte_39247_32 : decode cJ7_copyOfRangeByte_39247 32 = .ok (.areturn, 1) := by decide +kernel
theorem dJ3_checkIndex_8e157_0 : decode cJ3_checkIndex_8e157 0 = .ok (.iload_n 0, 1) := by decide +kernel
theorem dJ3_checkIndex_8e157_1 : decode cJ3_checkIndex_8e157 1 = .ok (.ifCond .lt 8, 3) := by decide +kernel
theorem dJ3_checkIndex_8e157_4 : decode cJ3_checkIndex_8e157 4 = .ok (.iload_n 0, 1) := by decide +kernel
theorem dJ3_checkIndex_8e157_5 : decode cJ3_checkIndex_8e157 5 = .ok (.iload_n 1, 1) := by decide +kernel
theorem dJ3_checkIndex_8e157_6 : decode cJ3_checkIndex_8e157 6 = .ok (.if_icmp .lt 10, 3) := by decide +kernel
theorem dJ3_checkIndex_8e157_16 : decode cJ3_checkIndex_8e157 16 = .ok (.iload_n 0, 1) := by decide +kernel
theorem dJ3_checkIndex_8e157_17 : decode cJ3_checkIndex_8e157 17 = .ok (.ireturn, 1) := by decide +kernel
theorem dJ3_checkFromToIndex_8c36e_0 : decode cJ3_checkFromToIndex_8c36e 0 = .ok (.iload_n 0, 1) := by decide +kernel
theorem dJ3_checkFromToIndex_8c36e_1 : decode cJ3_checkFromToIndex_8c36e 1 = .ok (.ifCond .lt 13, 3) := by decide +kernel
theorem dJ3_checkFromToIndex_8c36e_4 : decode cJ3_checkFromToIndex_8c36e 4 = .ok (.iload_n 0, 1) := by decide +kernel
theorem dJ3_checkFromToIndex_8c36e_5 : decode cJ3_checkFromToIndex_8c36e 5 = .ok (.iload_n 1, 1) := by decide +kernel
theorem dJ3_checkFromToIndex_8c36e_6 : decode cJ3_checkFromToIndex_8c36e 6 = .ok (.if_icmp .gt 8, 3) := by decide +kernel
theorem dJ3_checkFromToIndex_8c36e_9 : decode cJ3_checkFromToIndex_8c36e 9 = .ok (.iload_n 1, 1) := by decide +kernel
theorem dJ3_checkFromToIndex_8c36e_10 : decode cJ3_checkFromToIndex_8c36e 10 = .ok (.iload_n 2, 1) := by decide +kernel
theorem dJ3_checkFromToIndex_8c36e_11 : decode cJ3_checkFromToIndex_8c36e 11 = .ok (.if_icmp .le 11, 3) := by decide +kernel
theorem dJ3_checkFromToIndex_8c36e_22 : decode cJ3_checkFromToIndex_8c36e 22 = .ok (.iload_n 0, 1) := by decide +kernel
theorem dJ3_checkFromToIndex_8c36e_23 : decode cJ3_checkFromToIndex_8c36e 23 = .ok (.ireturn, 1) := by decide +kernel
abbrev vwCl : List vw_C := [(RJ0, TJ0, 4), (RJ4, TJ4, 4), (RX0, TX0, 15), (RX1, TX1, 11), (RX2, TX2, 21), (RX3, TX3, 10), (RX4, TX4, 18), (RX5, TX5, 17), (RX6, TX6, 12), (RX7, TX7, 6), (RX8, TX8, 20), (RX9, TX9, 14), (RX10, TX10, 19), (RX11, TX11, 9), (RX12, TX12, 13), (RX13, TX13, 205)]
end
section
/-! THE WORDS THAT THE REACHED METHODS NEED -/
set_option maxRecDepth 100000 in
def rBase : List Cond := [Cond.code ⟨"java/lang/Object", "<init>", "()V"⟩ object_method_1_code 1 (Option.none : Option FieldType),
  Cond.methodLink "NativeWorks$Names" 3 ⟨"java/lang/Object", "<init>", "()V"⟩,
  Cond.instanceMethod ⟨"java/lang/Object", "<init>", "()V"⟩,
  Cond.arrayClass FieldType.byte,
  Cond.fieldLink "NativeWorks$Names" 9 "NativeWorks$Names" "letters" "[B",
  Cond.arrayClass FieldType.int,
  Cond.fieldLink "NativeWorks$Names" 15 "NativeWorks$Names" "from" "[I",
  Cond.fieldLink "NativeWorks$Names" 19 "NativeWorks$Names" "olde\x72" "[I",
  Cond.fieldLink "NativeWorks$Names" 22 "NativeWorks$Names" "slot" "[I",
  Cond.fieldLink "NativeWorks$Names" 25 "NativeWorks$Names" "newest" "[I",
  Cond.code ⟨"java/util/Arrays", "fill", "([II)V"⟩ prog_38_method_103_code 4 (Option.none : Option FieldType),
  Cond.methodLink "NativeWorks$Names" 28 ⟨"java/util/Arrays", "fill", "([II)V"⟩,
  Cond.static ⟨"java/util/Arrays", "fill", "([II)V"⟩,
  Cond.initialized "java/util/Arrays",
  Cond.fieldLink "NativeWorks$Names" 34 "NativeWorks$Names" "count" "I",
  Cond.methodLink "NativeWorks$Units" 3 ⟨"java/lang/Object", "<init>", "()V"⟩,
  Cond.classLink "NativeWorks$Units" 9 "NativeWorks$Names",
  Cond.instantiable "NativeWorks$Names" 6,
  Cond.initialized "NativeWorks$Names",
  Cond.constant "NativeWorks$Units" 13 129024,
  Cond.code ⟨"NativeWorks$Names", "<init>", "(II)V"⟩ prog_9_method_1_code 3 (Option.none : Option FieldType),
  Cond.methodLink "NativeWorks$Units" 14 ⟨"NativeWorks$Names", "<init>", "(II)V"⟩,
  Cond.instanceMethod ⟨"NativeWorks$Names", "<init>", "(II)V"⟩,
  Cond.fieldLink "NativeWorks$Units" 17 "NativeWorks$Units" "names" "LNativeWorks$Names;",
  Cond.classLink "NativeWorks$Units" 21 "[[I",
  Cond.fieldLink "NativeWorks$Units" 23 "NativeWorks$Units" "symbols" "[[I",
  Cond.arrayClass FieldType.long,
  Cond.fieldLink "NativeWorks$Units" 26 "NativeWorks$Units" "constants" "[J",
  Cond.fieldLink "NativeWorks$Units" 30 "NativeWorks$Units" "labels" "[I",
  Cond.fieldLink "NativeWorks$Units" 34 "NativeWorks$Units" "statements" "[[I",
  Cond.fieldLink "NativeWorks$Units" 37 "NativeWorks$Units" "waits" "[[I",
  Cond.fieldLink "NativeWorks$Units" 40 "NativeWorks$Units" "waitNumbers" "[J",
  Cond.constant "NativeWorks$Units" 43 131072,
  Cond.fieldLink "NativeWorks$Units" 44 "NativeWorks$Units" "put" "[B",
  Cond.fieldLink "NativeWorks$Units" 48 "NativeWorks$Units" "bytes" "[B",
  Cond.fieldLink "NativeWorks$Units" 51 "NativeWorks$Units" "rows" "[[I",
  Cond.fieldLink "NativeWorks$Units" 54 "NativeWorks$Units" "ends" "[I",
  Cond.fieldLink "java/lang/String" 38 "java/lang/String" "COMPACT_STRINGS" "Z",
  Cond.fieldLink "java/lang/String" 15 "java/lang/String" "code\x72" "B",
  Cond.fieldLink "java/lang/String" 9 "java/lang/String" "value" "[B",
  Cond.code ⟨"java/lang/String", "code\x72", "()B"⟩ prog_30_method_152_code 1 (Option.some FieldType.byte),
  Cond.methodLink "java/lang/String" 335 ⟨"java/lang/String", "code\x72", "()B"⟩,
  Cond.instanceMethod ⟨"java/lang/String", "code\x72", "()B"⟩,
  Cond.selects "java/lang/String" ⟨"java/lang/String", "code\x72", "()B"⟩ ⟨"java/lang/String", "code\x72", "()B"⟩,
  Cond.initialized "java/lang/String",
  Cond.fieldLink "java/lang/String" 1053 "jdk/internal/util/Preconditions" "SIOOBE_FORMATTER" "Ljava/util/function/BiFunction;",
  Cond.code ⟨"jdk/internal/util/Preconditions", "checkIndex", "(IILjava/util/function/BiFunction;)I"⟩ prog_41_method_11_code 3 (Option.some FieldType.int),
  Cond.methodLink "java/lang/String" 1059 ⟨"jdk/internal/util/Preconditions", "checkIndex", "(IILjava/util/function/BiFunction;)I"⟩,
  Cond.static ⟨"jdk/internal/util/Preconditions", "checkIndex", "(IILjava/util/function/BiFunction;)I"⟩,
  Cond.initialized "jdk/internal/util/Preconditions",
  Cond.code ⟨"java/lang/String", "checkIndex", "(II)V"⟩ prog_30_method_155_code 2 (Option.none : Option FieldType),
  Cond.methodLink "java/lang/StringLatin1" 9 ⟨"java/lang/String", "checkIndex", "(II)V"⟩,
  Cond.static ⟨"java/lang/String", "checkIndex", "(II)V"⟩,
  Cond.code ⟨"java/lang/String", "isLatin1", "()Z"⟩ prog_30_method_154_code 1 (Option.some FieldType.boolean),
  Cond.methodLink "java/lang/String" 492 ⟨"java/lang/String", "isLatin1", "()Z"⟩,
  Cond.instanceMethod ⟨"java/lang/String", "isLatin1", "()Z"⟩,
  Cond.selects "java/lang/String" ⟨"java/lang/String", "isLatin1", "()Z"⟩ ⟨"java/lang/String", "isLatin1", "()Z"⟩,
  Cond.code ⟨"java/lang/StringLatin1", "charAt", "([BI)C"⟩ prog_32_method_2_code 2 (Option.some FieldType.char),
  Cond.methodLink "java/lang/String" 495 ⟨"java/lang/StringLatin1", "charAt", "([BI)C"⟩,
  Cond.static ⟨"java/lang/StringLatin1", "charAt", "([BI)C"⟩,
  Cond.initialized "java/lang/StringLatin1",
  Cond.methodLink "NativeWorks$Names" 38 ⟨"java/lang/System", "arraycopy", "(Ljava/lang/Object;ILjava/lang/Object;II)V"⟩,
  Cond.native ⟨"java/lang/System", "arraycopy", "(Ljava/lang/Object;ILjava/lang/Object;II)V"⟩,
  Cond.static ⟨"java/lang/System", "arraycopy", "(Ljava/lang/Object;ILjava/lang/Object;II)V"⟩,
  Cond.initialized "java/lang/System",
  Cond.code ⟨"java/lang/String", "length", "()I"⟩ prog_30_method_54_code 1 (Option.some FieldType.int),
  Cond.methodLink "NativeWorks$Line" 76 ⟨"java/lang/String", "length", "()I"⟩,
  Cond.instanceMethod ⟨"java/lang/String", "length", "()I"⟩,
  Cond.selects "java/lang/String" ⟨"java/lang/String", "length", "()I"⟩ ⟨"java/lang/String", "length", "()I"⟩,
  Cond.fieldLink "NativeWorks$Line" 11 "NativeWorks$Line" "text" "[B",
  Cond.code ⟨"java/lang/String", "charAt", "(I)C"⟩ prog_30_method_56_code 2 (Option.some FieldType.char),
  Cond.methodLink "NativeWorks$Line" 82 ⟨"java/lang/String", "charAt", "(I)C"⟩,
  Cond.instanceMethod ⟨"java/lang/String", "charAt", "(I)C"⟩,
  Cond.selects "java/lang/String" ⟨"java/lang/String", "charAt", "(I)C"⟩ ⟨"java/lang/String", "charAt", "(I)C"⟩,
  Cond.fieldLink "NativeWorks$Line" 20 "NativeWorks$Line" "words" "LNativeWorks$Names;",
  Cond.code ⟨"NativeWorks$Names", "add", "([BII)I"⟩ prog_9_method_3_code 6 (Option.some FieldType.int),
  Cond.methodLink "NativeWorks$Line" 86 ⟨"NativeWorks$Names", "add", "([BII)I"⟩,
  Cond.instanceMethod ⟨"NativeWorks$Names", "add", "([BII)I"⟩,
  Cond.selects "NativeWorks$Names" ⟨"NativeWorks$Names", "add", "([BII)I"⟩ ⟨"NativeWorks$Names", "add", "([BII)I"⟩,
  Cond.methodLink "NativeWorks$Line" 3 ⟨"java/lang/Object", "<init>", "()V"⟩,
  Cond.classLink "NativeWorks$Line" 15 "NativeWorks$Names",
  Cond.methodLink "NativeWorks$Line" 17 ⟨"NativeWorks$Names", "<init>", "(II)V"⟩,
  Cond.fieldLink "NativeWorks$Line" 24 "NativeWorks$Line" "kind" "[I",
  Cond.fieldLink "NativeWorks$Line" 28 "NativeWorks$Line" "value" "[J",
  Cond.fieldLink "NativeWorks$Line" 32 "NativeWorks$Line" "from" "[I",
  Cond.fieldLink "NativeWorks$Line" 35 "NativeWorks$Line" "to" "[I",
  Cond.code ⟨"NativeWorks$Line", "teach", "(Ljava/lang/String;)V"⟩ prog_5_method_2_code 4 (Option.none : Option FieldType),
  Cond.methodLink "NativeWorks$Line" 40 ⟨"NativeWorks$Line", "teach", "(Ljava/lang/String;)V"⟩,
  Cond.instanceMethod ⟨"NativeWorks$Line", "teach", "(Ljava/lang/String;)V"⟩,
  Cond.selects "NativeWorks$Line" ⟨"NativeWorks$Line", "teach", "(Ljava/lang/String;)V"⟩ ⟨"NativeWorks$Line", "teach", "(Ljava/lang/String;)V"⟩,
  Cond.initialized "NativeWorks$Line",
  Cond.methodLink "NativeWorks$Source" 3 ⟨"java/lang/Object", "<init>", "()V"⟩,
  Cond.fieldLink "NativeWorks$Source" 9 "NativeWorks$Source" "bytes" "[B",
  Cond.fieldLink "NativeWorks$Source" 15 "NativeWorks$Source" "words" "LNativeWorks$Names;",
  Cond.constant "NativeWorks$Source" 19 65538,
  Cond.fieldLink "NativeWorks$Source" 20 "NativeWorks$Source" "lineAt" "[I",
  Cond.constant "NativeWorks$Source" 24 65537,
  Cond.fieldLink "NativeWorks$Source" 25 "NativeWorks$Source" "sorts" "[B",
  Cond.fieldLink "NativeWorks$Source" 28 "NativeWorks$Source" "ifEnds" "[I",
  Cond.fieldLink "NativeWorks$Source" 31 "NativeWorks$Source" "elses" "[I",
  Cond.fieldLink "NativeWorks$Source" 34 "NativeWorks$Source" "reptEnds" "[I",
  Cond.classLink "NativeWorks$Source" 37 "NativeWorks$Names",
  Cond.constant "NativeWorks$Source" 39 65536,
  Cond.methodLink "NativeWorks$Source" 40 ⟨"NativeWorks$Names", "<init>", "(II)V"⟩,
  Cond.fieldLink "NativeWorks$Source" 43 "NativeWorks$Source" "macros" "LNativeWorks$Names;",
  Cond.fieldLink "NativeWorks$Source" 46 "NativeWorks$Source" "bodyFrom" "[I",
  Cond.fieldLink "NativeWorks$Source" 49 "NativeWorks$Source" "bodyTo" "[I",
  Cond.fieldLink "NativeWorks$Source" 52 "NativeWorks$Source" "firstParamete\x72" "[I",
  Cond.constant "NativeWorks$Source" 55 32768,
  Cond.fieldLink "NativeWorks$Source" 56 "NativeWorks$Source" "parameterFrom" "[I",
  Cond.fieldLink "NativeWorks$Source" 59 "NativeWorks$Source" "parameterTo" "[I",
  Cond.fieldLink "NativeWorks$Source" 62 "NativeWorks$Source" "lines" "I",
  Cond.methodLink "NativeWorks$Reade\x72" 3 ⟨"java/lang/Object", "<init>", "()V"⟩,
  Cond.fieldLink "NativeWorks$Reade\x72" 9 "NativeWorks$Reade\x72" "source" "LNativeWorks$Source;",
  Cond.fieldLink "NativeWorks$Reade\x72" 15 "NativeWorks$Reade\x72" "line" "LNativeWorks$Line;",
  Cond.fieldLink "NativeWorks$Reade\x72" 19 "NativeWorks$Reade\x72" "first" "[I",
  Cond.fieldLink "NativeWorks$Reade\x72" 23 "NativeWorks$Reade\x72" "end" "[I",
  Cond.fieldLink "NativeWorks$Reade\x72" 26 "NativeWorks$Reade\x72" "next" "[I",
  Cond.fieldLink "NativeWorks$Reade\x72" 29 "NativeWorks$Reade\x72" "left" "[I",
  Cond.fieldLink "NativeWorks$Reade\x72" 32 "NativeWorks$Reade\x72" "make\x72" "[I",
  Cond.fieldLink "NativeWorks$Reade\x72" 35 "NativeWorks$Reade\x72" "ifsBelow" "[I",
  Cond.fieldLink "NativeWorks$Reade\x72" 38 "NativeWorks$Reade\x72" "macro" "[I",
  Cond.fieldLink "NativeWorks$Reade\x72" 41 "NativeWorks$Reade\x72" "made" "[I",
  Cond.fieldLink "NativeWorks$Reade\x72" 46 "NativeWorks$Reade\x72" "arguments" "[B",
  Cond.fieldLink "NativeWorks$Reade\x72" 50 "NativeWorks$Reade\x72" "argumentFrom" "[I",
  Cond.fieldLink "NativeWorks$Reade\x72" 53 "NativeWorks$Reade\x72" "argumentTo" "[I",
  Cond.arrayClass FieldType.boolean,
  Cond.fieldLink "NativeWorks$Reade\x72" 56 "NativeWorks$Reade\x72" "elseRead" "[Z",
  Cond.methodLink "NativeWorks$Expression" 3 ⟨"java/lang/Object", "<init>", "()V"⟩,
  Cond.fieldLink "NativeWorks$Expression" 9 "NativeWorks$Expression" "line" "LNativeWorks$Line;",
  Cond.fieldLink "NativeWorks$Expression" 15 "NativeWorks$Expression" "units" "LNativeWorks$Units;",
  Cond.fieldLink "NativeWorks$Expression" 21 "NativeWorks$Expression" "numbe\x72" "[J",
  Cond.fieldLink "NativeWorks$Expression" 25 "NativeWorks$Expression" "plus" "[I",
  Cond.fieldLink "NativeWorks$Expression" 29 "NativeWorks$Expression" "minus" "[I",
  Cond.fieldLink "NativeWorks$Expression" 32 "NativeWorks$Expression" "signs" "[I",
  Cond.fieldLink "NativeWorks$Expression" 35 "NativeWorks$Expression" "name" "[B",
  Cond.fieldLink "NativeWorks$Expression" 39 "NativeWorks$Expression" "latest" "[B",
  Cond.fieldLink "NativeWorks$Instruction" 18 "NativeWorks$Instruction" "rows" "[I",
  Cond.fieldLink "NativeWorks$Instruction" 53 "NativeWorks$Instruction" "L_AT" "[I",
  Cond.code ⟨"NativeWorks$Instruction", "isConditional", "(I)Z"⟩ prog_4_method_3_code 1 (Option.some FieldType.boolean),
  Cond.methodLink "NativeWorks$Instruction" 56 ⟨"NativeWorks$Instruction", "isConditional", "(I)Z"⟩,
  Cond.static ⟨"NativeWorks$Instruction", "isConditional", "(I)Z"⟩,
  Cond.initialized "NativeWorks$Instruction",
  Cond.fieldLink "NativeWorks$Instruction" 24 "NativeWorks$Instruction" "rowAt" "[I",
  Cond.methodLink "NativeWorks$Instruction" 3 ⟨"java/lang/Object", "<init>", "()V"⟩,
  Cond.fieldLink "NativeWorks$Instruction" 9 "NativeWorks$Instruction" "ARITHMETIC" "[I",
  Cond.fieldLink "NativeWorks$Instruction" 15 "NativeWorks$Instruction" "TABLE" "[I",
  Cond.fieldLink "NativeWorks$Instruction" 21 "NativeWorks$Instruction" "firstRow" "[I",
  Cond.fieldLink "NativeWorks$Instruction" 27 "NativeWorks$Instruction" "kind" "[I",
  Cond.fieldLink "NativeWorks$Instruction" 30 "NativeWorks$Instruction" "reg" "[I",
  Cond.fieldLink "NativeWorks$Instruction" 33 "NativeWorks$Instruction" "bytes" "[B",
  Cond.methodLink "NativeWorks$Instruction" 37 ⟨"java/util/Arrays", "fill", "([II)V"⟩,
  Cond.methodLink "NativeWorks$Instruction" 43 ⟨"java/lang/System", "arraycopy", "(Ljava/lang/Object;ILjava/lang/Object;II)V"⟩,
  Cond.code ⟨"NativeWorks$Instruction", "ente\x72", "(I)V"⟩ prog_4_method_2_code 8 (Option.none : Option FieldType),
  Cond.methodLink "NativeWorks$Instruction" 49 ⟨"NativeWorks$Instruction", "ente\x72", "(I)V"⟩,
  Cond.instanceMethod ⟨"NativeWorks$Instruction", "ente\x72", "(I)V"⟩,
  Cond.selects "NativeWorks$Instruction" ⟨"NativeWorks$Instruction", "ente\x72", "(I)V"⟩ ⟨"NativeWorks$Instruction", "ente\x72", "(I)V"⟩,
  Cond.methodLink "NativeWorks$Assemble\x72" 3 ⟨"java/lang/Object", "<init>", "()V"⟩,
  Cond.classLink "NativeWorks$Assemble\x72" 9 "NativeWorks$Line",
  Cond.instantiable "NativeWorks$Line" 10,
  Cond.code ⟨"NativeWorks$Line", "<init>", "()V"⟩ prog_5_method_1_code 1 (Option.none : Option FieldType),
  Cond.methodLink "NativeWorks$Assemble\x72" 11 ⟨"NativeWorks$Line", "<init>", "()V"⟩,
  Cond.instanceMethod ⟨"NativeWorks$Line", "<init>", "()V"⟩,
  Cond.fieldLink "NativeWorks$Assemble\x72" 12 "NativeWorks$Assemble\x72" "line" "LNativeWorks$Line;",
  Cond.fieldLink "NativeWorks$Assemble\x72" 18 "NativeWorks$Assemble\x72" "units" "LNativeWorks$Units;",
  Cond.classLink "NativeWorks$Assemble\x72" 22 "NativeWorks$Reade\x72",
  Cond.instantiable "NativeWorks$Reade\x72" 20,
  Cond.initialized "NativeWorks$Reade\x72",
  Cond.classLink "NativeWorks$Assemble\x72" 24 "NativeWorks$Source",
  Cond.instantiable "NativeWorks$Source" 14,
  Cond.initialized "NativeWorks$Source",
  Cond.fieldLink "NativeWorks$Assemble\x72" 26 "NativeWorks$Line" "words" "LNativeWorks$Names;",
  Cond.code ⟨"NativeWorks$Source", "<init>", "([BLNativeWorks$Names;)V"⟩ prog_11_method_1_code 3 (Option.none : Option FieldType),
  Cond.methodLink "NativeWorks$Assemble\x72" 30 ⟨"NativeWorks$Source", "<init>", "([BLNativeWorks$Names;)V"⟩,
  Cond.instanceMethod ⟨"NativeWorks$Source", "<init>", "([BLNativeWorks$Names;)V"⟩,
  Cond.code ⟨"NativeWorks$Reade\x72", "<init>", "(LNativeWorks$Source;LNativeWorks$Line;)V"⟩ prog_10_method_1_code 3 (Option.none : Option FieldType),
  Cond.methodLink "NativeWorks$Assemble\x72" 33 ⟨"NativeWorks$Reade\x72", "<init>", "(LNativeWorks$Source;LNativeWorks$Line;)V"⟩,
  Cond.instanceMethod ⟨"NativeWorks$Reade\x72", "<init>", "(LNativeWorks$Source;LNativeWorks$Line;)V"⟩,
  Cond.fieldLink "NativeWorks$Assemble\x72" 36 "NativeWorks$Assemble\x72" "reade\x72" "LNativeWorks$Reader;",
  Cond.classLink "NativeWorks$Assemble\x72" 40 "NativeWorks$Expression",
  Cond.instantiable "NativeWorks$Expression" 11,
  Cond.initialized "NativeWorks$Expression",
  Cond.code ⟨"NativeWorks$Expression", "<init>", "(LNativeWorks$Line;LNativeWorks$Units;)V"⟩ prog_3_method_1_code 3 (Option.none : Option FieldType),
  Cond.methodLink "NativeWorks$Assemble\x72" 42 ⟨"NativeWorks$Expression", "<init>", "(LNativeWorks$Line;LNativeWorks$Units;)V"⟩,
  Cond.instanceMethod ⟨"NativeWorks$Expression", "<init>", "(LNativeWorks$Line;LNativeWorks$Units;)V"⟩,
  Cond.fieldLink "NativeWorks$Assemble\x72" 45 "NativeWorks$Assemble\x72" "expression" "LNativeWorks$Expression;",
  Cond.classLink "NativeWorks$Assemble\x72" 49 "NativeWorks$Instruction",
  Cond.instantiable "NativeWorks$Instruction" 21,
  Cond.code ⟨"NativeWorks$Instruction", "<init>", "()V"⟩ prog_4_method_1_code 6 (Option.none : Option FieldType),
  Cond.methodLink "NativeWorks$Assemble\x72" 51 ⟨"NativeWorks$Instruction", "<init>", "()V"⟩,
  Cond.instanceMethod ⟨"NativeWorks$Instruction", "<init>", "()V"⟩,
  Cond.fieldLink "NativeWorks$Assemble\x72" 52 "NativeWorks$Assemble\x72" "instruction" "LNativeWorks$Instruction;",
  Cond.fieldLink "NativeWorks$Assemble\x72" 56 "NativeWorks$Assemble\x72" "told" "[I",
  Cond.methodLink "NativeWorks$Linke\x72" 3 ⟨"java/lang/Object", "<init>", "()V"⟩,
  Cond.fieldLink "NativeWorks$Linke\x72" 9 "NativeWorks$Linke\x72" "units" "LNativeWorks$Units;",
  Cond.fieldLink "NativeWorks$Linke\x72" 17 "NativeWorks$Linke\x72" "taken" "[Z",
  Cond.fieldLink "NativeWorks$Linke\x72" 21 "NativeWorks$Linke\x72" "needed" "[Z",
  Cond.fieldLink "NativeWorks$Linke\x72" 24 "NativeWorks$Linke\x72" "places" "[I",
  Cond.fieldLink "NativeWorks$Linke\x72" 28 "NativeWorks$Linke\x72" "stands" "[I",
  Cond.fieldLink "NativeWorks$Linke\x72" 31 "NativeWorks$Linke\x72" "from" "[I",
  Cond.fieldLink "NativeWorks$Linke\x72" 34 "NativeWorks$Linke\x72" "to" "[I",
  Cond.constant "NativeWorks$Linke\x72" 37 131072,
  Cond.fieldLink "NativeWorks$Linke\x72" 38 "NativeWorks$Linke\x72" "bytes" "[B",
  Cond.fieldLink "NativeWorks$Linke\x72" 42 "NativeWorks$Linke\x72" "origins" "[I",
  Cond.classLink "NativeWorks$Linke\x72" 45 "NativeWorks$Names",
  Cond.constant "NativeWorks$Linke\x72" 47 129024,
  Cond.methodLink "NativeWorks$Linke\x72" 48 ⟨"NativeWorks$Names", "<init>", "(II)V"⟩,
  Cond.fieldLink "NativeWorks$Linke\x72" 51 "NativeWorks$Linke\x72" "names" "LNativeWorks$Names;",
  Cond.fieldLink "NativeWorks$Linke\x72" 55 "NativeWorks$Linke\x72" "addresses" "[J",
  Cond.methodLink "NativeWorks$Linke\x72" 59 ⟨"java/util/Arrays", "fill", "([II)V"⟩,
  Cond.methodLink "NativeWorks$Memory" 3 ⟨"java/lang/Object", "<init>", "()V"⟩,
  Cond.constant "NativeWorks$Memory" 13 196608,
  Cond.fieldLink "NativeWorks$Memory" 14 "NativeWorks$Memory" "low" "[B",
  Cond.constant "NativeWorks$Memory" 18 65536,
  Cond.fieldLink "NativeWorks$Memory" 19 "NativeWorks$Memory" "stack" "[B",
  Cond.constant "NativeWorks$Memory" 22 131072,
  Cond.fieldLink "NativeWorks$Memory" 23 "NativeWorks$Memory" "begins" "[Z",
  Cond.fieldLink "NativeWorks$Memory" 27 "NativeWorks$Memory" "loaded" "Z",
  Cond.constantLong "NativeWorks$Memory" 31 4194304,
  Cond.fieldLink "NativeWorks$Memory" 33 "NativeWorks$Memory" "heap" "J",
  Cond.fieldLink "NativeWorks$Memory" 37 "NativeWorks$Memory" "end" "J",
  Cond.methodLink "NativeWorks$Machine" 3 ⟨"java/lang/Object", "<init>", "()V"⟩,
  Cond.classLink "NativeWorks$Machine" 9 "NativeWorks$Memory",
  Cond.instantiable "NativeWorks$Memory" 12,
  Cond.initialized "NativeWorks$Memory",
  Cond.code ⟨"NativeWorks$Memory", "<init>", "()V"⟩ prog_8_method_1_code 1 (Option.none : Option FieldType),
  Cond.methodLink "NativeWorks$Machine" 11 ⟨"NativeWorks$Memory", "<init>", "()V"⟩,
  Cond.instanceMethod ⟨"NativeWorks$Memory", "<init>", "()V"⟩,
  Cond.fieldLink "NativeWorks$Machine" 12 "NativeWorks$Machine" "memory" "LNativeWorks$Memory;",
  Cond.classLink "NativeWorks$Machine" 18 "NativeWorks$Instruction",
  Cond.methodLink "NativeWorks$Machine" 20 ⟨"NativeWorks$Instruction", "<init>", "()V"⟩,
  Cond.fieldLink "NativeWorks$Machine" 21 "NativeWorks$Machine" "it" "LNativeWorks$Instruction;",
  Cond.fieldLink "NativeWorks$Machine" 25 "NativeWorks$Machine" "\x72" "[J",
  Cond.constant "NativeWorks$Machine" 29 65536,
  Cond.fieldLink "NativeWorks$Machine" 30 "NativeWorks$Machine" "input" "[B",
  Cond.fieldLink "NativeWorks$Machine" 34 "NativeWorks$Machine" "output" "[B",
  Cond.fieldLink "NativeWorks$Machine" 37 "NativeWorks$Machine" "stops" "[J",
  Cond.methodLink "NativeWorks" 1 ⟨"java/lang/Object", "<init>", "()V"⟩,
  Cond.constant "NativeWorks" 9 65536,
  Cond.classLink "NativeWorks" 10 "NativeWorks$Units",
  Cond.instantiable "NativeWorks$Units" 19,
  Cond.initialized "NativeWorks$Units",
  Cond.code ⟨"NativeWorks$Units", "<init>", "()V"⟩ prog_12_method_1_code 1 (Option.none : Option FieldType),
  Cond.methodLink "NativeWorks" 12 ⟨"NativeWorks$Units", "<init>", "()V"⟩,
  Cond.instanceMethod ⟨"NativeWorks$Units", "<init>", "()V"⟩,
  Cond.fieldLink "NativeWorks" 13 "NativeWorks" "tape" "[B",
  Cond.fieldLink "NativeWorks" 17 "NativeWorks" "units" "LNativeWorks$Units;",
  Cond.classLink "NativeWorks" 21 "NativeWorks$Assemble\x72",
  Cond.instantiable "NativeWorks$Assemble\x72" 15,
  Cond.initialized "NativeWorks$Assemble\x72",
  Cond.code ⟨"NativeWorks$Assemble\x72", "<init>", "([BLNativeWorks$Units;)V"⟩ prog_2_method_1_code 4 (Option.none : Option FieldType),
  Cond.methodLink "NativeWorks" 23 ⟨"NativeWorks$Assemble\x72", "<init>", "([BLNativeWorks$Units;)V"⟩,
  Cond.instanceMethod ⟨"NativeWorks$Assemble\x72", "<init>", "([BLNativeWorks$Units;)V"⟩,
  Cond.fieldLink "NativeWorks" 26 "NativeWorks" "assemble\x72" "LNativeWorks$Assembler;",
  Cond.classLink "NativeWorks" 30 "NativeWorks$Linke\x72",
  Cond.instantiable "NativeWorks$Linke\x72" 18,
  Cond.initialized "NativeWorks$Linke\x72",
  Cond.code ⟨"NativeWorks$Linke\x72", "<init>", "(LNativeWorks$Units;)V"⟩ prog_6_method_1_code 2 (Option.none : Option FieldType),
  Cond.methodLink "NativeWorks" 32 ⟨"NativeWorks$Linke\x72", "<init>", "(LNativeWorks$Units;)V"⟩,
  Cond.instanceMethod ⟨"NativeWorks$Linke\x72", "<init>", "(LNativeWorks$Units;)V"⟩,
  Cond.fieldLink "NativeWorks" 35 "NativeWorks" "linke\x72" "LNativeWorks$Linker;",
  Cond.classLink "NativeWorks" 39 "NativeWorks$Machine",
  Cond.instantiable "NativeWorks$Machine" 17,
  Cond.initialized "NativeWorks$Machine",
  Cond.code ⟨"NativeWorks$Machine", "<init>", "()V"⟩ prog_7_method_1_code 1 (Option.none : Option FieldType),
  Cond.methodLink "NativeWorks" 41 ⟨"NativeWorks$Machine", "<init>", "()V"⟩,
  Cond.instanceMethod ⟨"NativeWorks$Machine", "<init>", "()V"⟩,
  Cond.fieldLink "NativeWorks" 42 "NativeWorks" "machine" "LNativeWorks$Machine;",
  Cond.fieldLink "NativeWorks" 46 "NativeWorks" "fed" "I",
  Cond.fieldLink "NativeWorks" 50 "NativeWorks" "faultKind" "I",
  Cond.fieldLink "NativeWorks" 53 "NativeWorks" "faultLine" "I",
  Cond.fieldLink "NativeWorks" 56 "NativeWorks" "faultUnit" "I",
  Cond.methodLink "NativeWorksModel$Code" 3 ⟨"java/lang/Object", "<init>", "()V"⟩,
  Cond.fieldLink "NativeWorksModel$Code" 9 "NativeWorksModel$Code" "address" "[I",
  Cond.fieldLink "NativeWorksModel$Code" 15 "NativeWorksModel$Code" "where" "[I",
  Cond.fieldLink "NativeWorksModel$Code" 18 "NativeWorksModel$Code" "shape" "[J",
  Cond.fieldLink "NativeWorksModel$Code" 22 "NativeWorksModel$Code" "displacement" "[J",
  Cond.fieldLink "NativeWorksModel$Code" 25 "NativeWorksModel$Code" "numbe\x72" "[J",
  Cond.code ⟨"jdk/internal/util/Preconditions", "checkFromToIndex", "(IIILjava/util/function/BiFunction;)I"⟩ prog_41_method_12_code 4 (Option.some FieldType.int),
  Cond.methodLink "java/lang/String" 1062 ⟨"jdk/internal/util/Preconditions", "checkFromToIndex", "(IIILjava/util/function/BiFunction;)I"⟩,
  Cond.static ⟨"jdk/internal/util/Preconditions", "checkFromToIndex", "(IIILjava/util/function/BiFunction;)I"⟩,
  Cond.code ⟨"java/util/Arrays", "checkLength", "(II)V"⟩ prog_38_method_131_code 2 (Option.none : Option FieldType),
  Cond.methodLink "java/util/Arrays" 343 ⟨"java/util/Arrays", "checkLength", "(II)V"⟩,
  Cond.static ⟨"java/util/Arrays", "checkLength", "(II)V"⟩,
  Cond.code ⟨"java/lang/Math", "min", "(II)I"⟩ prog_27_method_69_code 2 (Option.some FieldType.int),
  Cond.methodLink "java/util/Arrays" 304 ⟨"java/lang/Math", "min", "(II)I"⟩,
  Cond.static ⟨"java/lang/Math", "min", "(II)I"⟩,
  Cond.initialized "java/lang/Math",
  Cond.methodLink "java/util/Arrays" 150 ⟨"java/lang/System", "arraycopy", "(Ljava/lang/Object;ILjava/lang/Object;II)V"⟩,
  Cond.code ⟨"java/util/Arrays", "copyOfRangeByte", "([BII)[B"⟩ prog_38_method_133_code 5 (Option.some (FieldType.array FieldType.byte)),
  Cond.methodLink "java/util/Arrays" 339 ⟨"java/util/Arrays", "copyOfRangeByte", "([BII)[B"⟩,
  Cond.static ⟨"java/util/Arrays", "copyOfRangeByte", "([BII)[B"⟩,
  Cond.methodLink "java/lang/String" 1 ⟨"java/lang/Object", "<init>", "()V"⟩,
  Cond.classLink "java/lang/StringLatin1" 1 "java/lang/String",
  Cond.instantiable "java/lang/String" 4,
  Cond.code ⟨"java/util/Arrays", "copyOfRange", "([BII)[B"⟩ prog_38_method_132_code 3 (Option.some (FieldType.array FieldType.byte)),
  Cond.methodLink "java/lang/StringLatin1" 232 ⟨"java/util/Arrays", "copyOfRange", "([BII)[B"⟩,
  Cond.static ⟨"java/util/Arrays", "copyOfRange", "([BII)[B"⟩,
  Cond.code ⟨"java/lang/String", "<init>", "([BB)V"⟩ prog_30_method_151_code 3 (Option.none : Option FieldType),
  Cond.methodLink "java/lang/StringLatin1" 112 ⟨"java/lang/String", "<init>", "([BB)V"⟩,
  Cond.instanceMethod ⟨"java/lang/String", "<init>", "([BB)V"⟩,
  Cond.methodLink "java/lang/String" 505 ⟨"java/lang/String", "length", "()I"⟩,
  Cond.code ⟨"java/lang/String", "checkBoundsBeginEnd", "(III)V"⟩ prog_30_method_158_code 3 (Option.none : Option FieldType),
  Cond.methodLink "java/lang/String" 521 ⟨"java/lang/String", "checkBoundsBeginEnd", "(III)V"⟩,
  Cond.static ⟨"java/lang/String", "checkBoundsBeginEnd", "(III)V"⟩,
  Cond.code ⟨"java/lang/StringLatin1", "newString", "([BII)Ljava/lang/String;"⟩ prog_32_method_47_code 3 (Option.some (FieldType.object "java/lang/String")),
  Cond.methodLink "java/lang/String" 685 ⟨"java/lang/StringLatin1", "newString", "([BII)Ljava/lang/String;"⟩,
  Cond.static ⟨"java/lang/StringLatin1", "newString", "([BII)Ljava/lang/String;"⟩,
  Cond.methodLink "NativeWorksModel" 469 ⟨"java/lang/String", "length", "()I"⟩,
  Cond.methodLink "NativeWorksModel" 475 ⟨"java/lang/String", "charAt", "(I)C"⟩,
  Cond.fieldLink "NativeWorksModel" 14 "NativeWorksModel" "wordName" "[J",
  Cond.fieldLink "NativeWorksModel" 483 "NativeWorksModel" "words" "I",
  Cond.code ⟨"NativeWorksModel", "pack", "(Ljava/lang/String;)J"⟩ prog_14_method_2_code 4 (Option.some FieldType.long),
  Cond.methodLink "NativeWorksModel" 419 ⟨"NativeWorksModel", "pack", "(Ljava/lang/String;)J"⟩,
  Cond.static ⟨"NativeWorksModel", "pack", "(Ljava/lang/String;)J"⟩,
  Cond.initialized "NativeWorksModel",
  Cond.fieldLink "NativeWorksModel" 21 "NativeWorksModel" "wordCode" "[I",
  Cond.code ⟨"java/lang/String", "substring", "(II)Ljava/lang/String;"⟩ prog_30_method_92_code 5 (Option.some (FieldType.object "java/lang/String")),
  Cond.methodLink "NativeWorksModel" 479 ⟨"java/lang/String", "substring", "(II)Ljava/lang/String;"⟩,
  Cond.instanceMethod ⟨"java/lang/String", "substring", "(II)Ljava/lang/String;"⟩,
  Cond.selects "java/lang/String" ⟨"java/lang/String", "substring", "(II)Ljava/lang/String;"⟩ ⟨"java/lang/String", "substring", "(II)Ljava/lang/String;"⟩,
  Cond.code ⟨"NativeWorksModel", "word", "(Ljava/lang/String;I)V"⟩ prog_14_method_4_code 3 (Option.none : Option FieldType),
  Cond.methodLink "NativeWorksModel" 370 ⟨"NativeWorksModel", "word", "(Ljava/lang/String;I)V"⟩,
  Cond.instanceMethod ⟨"NativeWorksModel", "word", "(Ljava/lang/String;I)V"⟩,
  Cond.selects "NativeWorksModel" ⟨"NativeWorksModel", "word", "(Ljava/lang/String;I)V"⟩ ⟨"NativeWorksModel", "word", "(Ljava/lang/String;I)V"⟩,
  Cond.methodLink "java/lang/AbstractStringBuilde\x72" 3 ⟨"java/lang/Object", "<init>", "()V"⟩,
  Cond.fieldLink "java/lang/AbstractStringBuilde\x72" 18 "java/lang/String" "COMPACT_STRINGS" "Z",
  Cond.fieldLink "java/lang/AbstractStringBuilde\x72" 15 "java/lang/AbstractStringBuilde\x72" "value" "[B",
  Cond.fieldLink "java/lang/AbstractStringBuilde\x72" 22 "java/lang/AbstractStringBuilde\x72" "code\x72" "B",
  Cond.code ⟨"java/lang/AbstractStringBuilde\x72", "<init>", "(I)V"⟩ prog_17_method_2_code 2 (Option.none : Option FieldType),
  Cond.methodLink "java/lang/StringBuilde\x72" 1 ⟨"java/lang/AbstractStringBuilde\x72", "<init>", "(I)V"⟩,
  Cond.instanceMethod ⟨"java/lang/AbstractStringBuilde\x72", "<init>", "(I)V"⟩,
  Cond.initialized "java/lang/AbstractStringBuilde\x72",
  Cond.methodLink "java/lang/AbstractStringBuilde\x72" 40 ⟨"java/lang/String", "code\x72", "()B"⟩,
  Cond.methodLink "java/lang/String" 212 ⟨"java/lang/System", "arraycopy", "(Ljava/lang/Object;ILjava/lang/Object;II)V"⟩,
  Cond.code ⟨"java/lang/AbstractStringBuilde\x72", "inflateIfNeededFo\x72", "(Ljava/lang/String;)V"⟩ prog_17_method_71_code 2 (Option.none : Option FieldType),
  Cond.methodLink "java/lang/AbstractStringBuilde\x72" 397 ⟨"java/lang/AbstractStringBuilde\x72", "inflateIfNeededFo\x72", "(Ljava/lang/String;)V"⟩,
  Cond.sameMethod "java/lang/AbstractStringBuilde\x72" "java/lang/AbstractStringBuilde\x72" "inflateIfNeededFo\x72" "(Ljava/lang/String;)V",
  Cond.selects "java/lang/StringBuilde\x72" ⟨"java/lang/AbstractStringBuilde\x72", "inflateIfNeededFo\x72", "(Ljava/lang/String;)V"⟩ ⟨"java/lang/AbstractStringBuilde\x72", "inflateIfNeededFo\x72", "(Ljava/lang/String;)V"⟩,
  Cond.instanceMethod ⟨"java/lang/AbstractStringBuilde\x72", "inflateIfNeededFo\x72", "(Ljava/lang/String;)V"⟩,
  Cond.code ⟨"java/lang/String", "getBytes", "([BIB)V"⟩ prog_30_method_147_code 4 (Option.none : Option FieldType),
  Cond.methodLink "java/lang/AbstractStringBuilde\x72" 399 ⟨"java/lang/String", "getBytes", "([BIB)V"⟩,
  Cond.instanceMethod ⟨"java/lang/String", "getBytes", "([BIB)V"⟩,
  Cond.selects "java/lang/String" ⟨"java/lang/String", "getBytes", "([BIB)V"⟩ ⟨"java/lang/String", "getBytes", "([BIB)V"⟩,
  Cond.methodLink "java/lang/AbstractStringBuilde\x72" 32 ⟨"java/lang/String", "length", "()I"⟩,
  Cond.fieldLink "java/lang/AbstractStringBuilde\x72" 79 "java/lang/AbstractStringBuilde\x72" "count" "I",
  Cond.code ⟨"java/lang/AbstractStringBuilde\x72", "ensureCapacityInternal", "(I)V"⟩ prog_17_method_9_code 3 (Option.none : Option FieldType),
  Cond.methodLink "java/lang/AbstractStringBuilde\x72" 100 ⟨"java/lang/AbstractStringBuilde\x72", "ensureCapacityInternal", "(I)V"⟩,
  Cond.sameMethod "java/lang/AbstractStringBuilde\x72" "java/lang/AbstractStringBuilde\x72" "ensureCapacityInternal" "(I)V",
  Cond.selects "java/lang/StringBuilde\x72" ⟨"java/lang/AbstractStringBuilde\x72", "ensureCapacityInternal", "(I)V"⟩ ⟨"java/lang/AbstractStringBuilde\x72", "ensureCapacityInternal", "(I)V"⟩,
  Cond.instanceMethod ⟨"java/lang/AbstractStringBuilde\x72", "ensureCapacityInternal", "(I)V"⟩,
  Cond.code ⟨"java/lang/AbstractStringBuilde\x72", "putStringAt", "(ILjava/lang/String;)V"⟩ prog_17_method_73_code 3 (Option.none : Option FieldType),
  Cond.methodLink "java/lang/AbstractStringBuilde\x72" 208 ⟨"java/lang/AbstractStringBuilde\x72", "putStringAt", "(ILjava/lang/String;)V"⟩,
  Cond.sameMethod "java/lang/AbstractStringBuilde\x72" "java/lang/AbstractStringBuilde\x72" "putStringAt" "(ILjava/lang/String;)V",
  Cond.selects "java/lang/StringBuilde\x72" ⟨"java/lang/AbstractStringBuilde\x72", "putStringAt", "(ILjava/lang/String;)V"⟩ ⟨"java/lang/AbstractStringBuilde\x72", "putStringAt", "(ILjava/lang/String;)V"⟩,
  Cond.instanceMethod ⟨"java/lang/AbstractStringBuilde\x72", "putStringAt", "(ILjava/lang/String;)V"⟩,
  Cond.code ⟨"java/lang/AbstractStringBuilde\x72", "append", "(Ljava/lang/String;)Ljava/lang/AbstractStringBuilder;"⟩ prog_17_method_22_code 3 (Option.some (FieldType.object "java/lang/AbstractStringBuilde\x72")),
  Cond.methodLink "java/lang/StringBuilde\x72" 29 ⟨"java/lang/AbstractStringBuilde\x72", "append", "(Ljava/lang/String;)Ljava/lang/AbstractStringBuilder;"⟩,
  Cond.sameMethod "java/lang/AbstractStringBuilde\x72" "java/lang/AbstractStringBuilde\x72" "append" "(Ljava/lang/String;)Ljava/lang/AbstractStringBuilder;",
  Cond.superclass "java/lang/StringBuilde\x72" "java/lang/AbstractStringBuilde\x72",
  Cond.instanceMethod ⟨"java/lang/AbstractStringBuilde\x72", "append", "(Ljava/lang/String;)Ljava/lang/AbstractStringBuilder;"⟩,
  Cond.code ⟨"java/lang/AbstractStringBuilde\x72", "length", "()I"⟩ prog_17_method_6_code 1 (Option.some FieldType.int),
  Cond.methodLink "java/lang/StringBuilde\x72" 343 ⟨"java/lang/AbstractStringBuilde\x72", "length", "()I"⟩,
  Cond.sameMethod "java/lang/AbstractStringBuilde\x72" "java/lang/AbstractStringBuilde\x72" "length" "()I",
  Cond.instanceMethod ⟨"java/lang/AbstractStringBuilde\x72", "length", "()I"⟩,
  Cond.code ⟨"java/lang/AbstractStringBuilde\x72", "getValue", "()[B"⟩ prog_17_method_64_code 1 (Option.some (FieldType.array FieldType.byte)),
  Cond.methodLink "java/lang/String" 552 ⟨"java/lang/AbstractStringBuilde\x72", "getValue", "()[B"⟩,
  Cond.sameMethod "java/lang/AbstractStringBuilde\x72" "java/lang/AbstractStringBuilde\x72" "getValue" "()[B",
  Cond.selects "java/lang/StringBuilde\x72" ⟨"java/lang/AbstractStringBuilde\x72", "getValue", "()[B"⟩ ⟨"java/lang/AbstractStringBuilde\x72", "getValue", "()[B"⟩,
  Cond.instanceMethod ⟨"java/lang/AbstractStringBuilde\x72", "getValue", "()[B"⟩,
  Cond.code ⟨"java/lang/StringBuilde\x72", "length", "()I"⟩ prog_31_method_93_code 1 (Option.some FieldType.int),
  Cond.methodLink "java/lang/String" 549 ⟨"java/lang/AbstractStringBuilde\x72", "length", "()I"⟩,
  Cond.selects "java/lang/StringBuilde\x72" ⟨"java/lang/AbstractStringBuilde\x72", "length", "()I"⟩ ⟨"java/lang/StringBuilde\x72", "length", "()I"⟩,
  Cond.instanceMethod ⟨"java/lang/StringBuilde\x72", "length", "()I"⟩,
  Cond.initialized "java/lang/StringBuilde\x72",
  Cond.code ⟨"java/lang/AbstractStringBuilde\x72", "isLatin1", "()Z"⟩ prog_17_method_68_code 1 (Option.some FieldType.boolean),
  Cond.methodLink "java/lang/String" 1047 ⟨"java/lang/AbstractStringBuilde\x72", "isLatin1", "()Z"⟩,
  Cond.sameMethod "java/lang/AbstractStringBuilde\x72" "java/lang/AbstractStringBuilde\x72" "isLatin1" "()Z",
  Cond.selects "java/lang/StringBuilde\x72" ⟨"java/lang/AbstractStringBuilde\x72", "isLatin1", "()Z"⟩ ⟨"java/lang/AbstractStringBuilde\x72", "isLatin1", "()Z"⟩,
  Cond.instanceMethod ⟨"java/lang/AbstractStringBuilde\x72", "isLatin1", "()Z"⟩,
  Cond.methodLink "java/lang/String" 54 ⟨"java/util/Arrays", "copyOfRange", "([BII)[B"⟩,
  Cond.code ⟨"java/lang/String", "<init>", "(Ljava/lang/AbstractStringBuilder;Ljava/lang/Void;)V"⟩ prog_30_method_150_code 5 (Option.none : Option FieldType),
  Cond.methodLink "java/lang/String" 489 ⟨"java/lang/String", "<init>", "(Ljava/lang/AbstractStringBuilder;Ljava/lang/Void;)V"⟩,
  Cond.instanceMethod ⟨"java/lang/String", "<init>", "(Ljava/lang/AbstractStringBuilder;Ljava/lang/Void;)V"⟩,
  Cond.classLink "java/lang/StringBuilde\x72" 18 "java/lang/String",
  Cond.code ⟨"java/lang/String", "<init>", "(Ljava/lang/StringBuilder;)V"⟩ prog_30_method_53_code 2 (Option.none : Option FieldType),
  Cond.methodLink "java/lang/StringBuilde\x72" 137 ⟨"java/lang/String", "<init>", "(Ljava/lang/StringBuilder;)V"⟩,
  Cond.instanceMethod ⟨"java/lang/String", "<init>", "(Ljava/lang/StringBuilder;)V"⟩,
  Cond.classLink "NativeWorksModel" 530 "java/lang/StringBuilde\x72",
  Cond.instantiable "java/lang/StringBuilde\x72" 4,
  Cond.code ⟨"java/lang/StringBuilde\x72", "<init>", "()V"⟩ prog_31_method_1_code 1 (Option.none : Option FieldType),
  Cond.methodLink "NativeWorksModel" 532 ⟨"java/lang/StringBuilde\x72", "<init>", "()V"⟩,
  Cond.instanceMethod ⟨"java/lang/StringBuilde\x72", "<init>", "()V"⟩,
  Cond.code ⟨"java/lang/StringBuilde\x72", "append", "(Ljava/lang/String;)Ljava/lang/StringBuilder;"⟩ prog_31_method_7_code 2 (Option.some (FieldType.object "java/lang/StringBuilde\x72")),
  Cond.methodLink "NativeWorksModel" 533 ⟨"java/lang/StringBuilde\x72", "append", "(Ljava/lang/String;)Ljava/lang/StringBuilder;"⟩,
  Cond.instanceMethod ⟨"java/lang/StringBuilde\x72", "append", "(Ljava/lang/String;)Ljava/lang/StringBuilder;"⟩,
  Cond.selects "java/lang/StringBuilde\x72" ⟨"java/lang/StringBuilde\x72", "append", "(Ljava/lang/String;)Ljava/lang/StringBuilder;"⟩ ⟨"java/lang/StringBuilde\x72", "append", "(Ljava/lang/String;)Ljava/lang/StringBuilder;"⟩,
  Cond.code ⟨"java/lang/StringBuilde\x72", "toString", "()Ljava/lang/String;"⟩ prog_31_method_42_code 1 (Option.some (FieldType.object "java/lang/String")),
  Cond.methodLink "NativeWorksModel" 537 ⟨"java/lang/StringBuilde\x72", "toString", "()Ljava/lang/String;"⟩,
  Cond.instanceMethod ⟨"java/lang/StringBuilde\x72", "toString", "()Ljava/lang/String;"⟩,
  Cond.selects "java/lang/StringBuilde\x72" ⟨"java/lang/StringBuilde\x72", "toString", "()Ljava/lang/String;"⟩ ⟨"java/lang/StringBuilde\x72", "toString", "()Ljava/lang/String;"⟩,
  Cond.classLink "NativeWorksModel" 470 "java/lang/String",
  Cond.code ⟨"NativeWorksModel", "joined", "(Ljava/lang/String;Ljava/lang/String;)Ljava/lang/String;"⟩ prog_14_method_6_code 2 (Option.some (FieldType.object "java/lang/String")),
  Cond.methodLink "NativeWorksModel" 526 ⟨"NativeWorksModel", "joined", "(Ljava/lang/String;Ljava/lang/String;)Ljava/lang/String;"⟩,
  Cond.static ⟨"NativeWorksModel", "joined", "(Ljava/lang/String;Ljava/lang/String;)Ljava/lang/String;"⟩,
  Cond.fieldLink "NativeWorksModel" 18 "NativeWorksModel" "registerName" "[J",
  Cond.fieldLink "NativeWorksModel" 605 "NativeWorksModel" "registers" "I",
  Cond.fieldLink "NativeWorksModel" 25 "NativeWorksModel" "registerCode" "[I",
  Cond.fieldLink "java/lang/Intege\x72" 83 "java/lang/Intege\x72" "DigitOnes" "[B",
  Cond.fieldLink "java/lang/Intege\x72" 87 "java/lang/Intege\x72" "DigitTens" "[B",
  Cond.code ⟨"java/lang/Intege\x72", "stringSize", "(I)I"⟩ prog_25_method_13_code 4 (Option.some FieldType.int),
  Cond.methodLink "java/lang/AbstractStringBuilde\x72" 245 ⟨"java/lang/Intege\x72", "stringSize", "(I)I"⟩,
  Cond.static ⟨"java/lang/Intege\x72", "stringSize", "(I)I"⟩,
  Cond.initialized "java/lang/Intege\x72",
  Cond.methodLink "java/lang/AbstractStringBuilde\x72" 83 ⟨"java/lang/AbstractStringBuilde\x72", "isLatin1", "()Z"⟩,
  Cond.code ⟨"java/lang/Intege\x72", "getChars", "(II[B)I"⟩ prog_25_method_12_code 7 (Option.some FieldType.int),
  Cond.methodLink "java/lang/AbstractStringBuilde\x72" 248 ⟨"java/lang/Intege\x72", "getChars", "(II[B)I"⟩,
  Cond.static ⟨"java/lang/Intege\x72", "getChars", "(II[B)I"⟩,
  Cond.code ⟨"java/lang/AbstractStringBuilde\x72", "append", "(I)Ljava/lang/AbstractStringBuilder;"⟩ prog_17_method_32_code 4 (Option.some (FieldType.object "java/lang/AbstractStringBuilde\x72")),
  Cond.methodLink "java/lang/StringBuilde\x72" 53 ⟨"java/lang/AbstractStringBuilde\x72", "append", "(I)Ljava/lang/AbstractStringBuilder;"⟩,
  Cond.sameMethod "java/lang/AbstractStringBuilde\x72" "java/lang/AbstractStringBuilde\x72" "append" "(I)Ljava/lang/AbstractStringBuilder;",
  Cond.instanceMethod ⟨"java/lang/AbstractStringBuilde\x72", "append", "(I)Ljava/lang/AbstractStringBuilder;"⟩,
  Cond.code ⟨"java/lang/StringBuilde\x72", "append", "(I)Ljava/lang/StringBuilder;"⟩ prog_31_method_15_code 2 (Option.some (FieldType.object "java/lang/StringBuilde\x72")),
  Cond.methodLink "NativeWorksModel" 543 ⟨"java/lang/StringBuilde\x72", "append", "(I)Ljava/lang/StringBuilder;"⟩,
  Cond.instanceMethod ⟨"java/lang/StringBuilde\x72", "append", "(I)Ljava/lang/StringBuilder;"⟩,
  Cond.selects "java/lang/StringBuilde\x72" ⟨"java/lang/StringBuilde\x72", "append", "(I)Ljava/lang/StringBuilder;"⟩ ⟨"java/lang/StringBuilde\x72", "append", "(I)Ljava/lang/StringBuilder;"⟩,
  Cond.code ⟨"NativeWorksModel", "registerNamed", "(Ljava/lang/String;I)V"⟩ prog_14_method_9_code 3 (Option.none : Option FieldType),
  Cond.methodLink "NativeWorksModel" 594 ⟨"NativeWorksModel", "registerNamed", "(Ljava/lang/String;I)V"⟩,
  Cond.instanceMethod ⟨"NativeWorksModel", "registerNamed", "(Ljava/lang/String;I)V"⟩,
  Cond.selects "NativeWorksModel" ⟨"NativeWorksModel", "registerNamed", "(Ljava/lang/String;I)V"⟩ ⟨"NativeWorksModel", "registerNamed", "(Ljava/lang/String;I)V"⟩,
  Cond.code ⟨"NativeWorksModel", "numbered", "(ILjava/lang/String;)Ljava/lang/String;"⟩ prog_14_method_7_code 2 (Option.some (FieldType.object "java/lang/String")),
  Cond.methodLink "NativeWorksModel" 599 ⟨"NativeWorksModel", "numbered", "(ILjava/lang/String;)Ljava/lang/String;"⟩,
  Cond.static ⟨"NativeWorksModel", "numbered", "(ILjava/lang/String;)Ljava/lang/String;"⟩,
  Cond.fieldLink "NativeWorksModel" 258 "NativeWorksModel" "rowOp" "[I",
  Cond.fieldLink "NativeWorksModel" 1075 "NativeWorksModel" "rows" "I",
  Cond.fieldLink "NativeWorksModel" 261 "NativeWorksModel" "rowSizes" "[I",
  Cond.fieldLink "NativeWorksModel" 264 "NativeWorksModel" "rowPattern" "[I",
  Cond.fieldLink "NativeWorksModel" 267 "NativeWorksModel" "rowLead" "[I",
  Cond.fieldLink "NativeWorksModel" 270 "NativeWorksModel" "rowCode" "[I",
  Cond.fieldLink "NativeWorksModel" 273 "NativeWorksModel" "rowTell" "[I",
  Cond.fieldLink "NativeWorksModel" 276 "NativeWorksModel" "rowNumbe\x72" "[I",
  Cond.code ⟨"NativeWorksModel", "row", "(IIIIIII)V"⟩ prog_14_method_102_code 8 (Option.none : Option FieldType),
  Cond.methodLink "NativeWorksModel" 1103 ⟨"NativeWorksModel", "row", "(IIIIIII)V"⟩,
  Cond.instanceMethod ⟨"NativeWorksModel", "row", "(IIIIIII)V"⟩,
  Cond.selects "NativeWorksModel" ⟨"NativeWorksModel", "row", "(IIIIIII)V"⟩ ⟨"NativeWorksModel", "row", "(IIIIIII)V"⟩,
  Cond.code ⟨"NativeWorksModel", "fillRest", "()V"⟩ prog_14_method_104_code 2 (Option.none : Option FieldType),
  Cond.methodLink "NativeWorksModel" 1107 ⟨"NativeWorksModel", "fillRest", "()V"⟩,
  Cond.instanceMethod ⟨"NativeWorksModel", "fillRest", "()V"⟩,
  Cond.selects "NativeWorksModel" ⟨"NativeWorksModel", "fillRest", "()V"⟩ ⟨"NativeWorksModel", "fillRest", "()V"⟩,
  Cond.methodLink "NativeWorksModel" 1 ⟨"java/lang/Object", "<init>", "()V"⟩,
  Cond.constant "NativeWorksModel" 9 65536,
  Cond.fieldLink "NativeWorksModel" 10 "NativeWorksModel" "tape" "[B",
  Cond.fieldLink "NativeWorksModel" 28 "NativeWorksModel" "symbolUnit" "[I",
  Cond.fieldLink "NativeWorksModel" 31 "NativeWorksModel" "isLibrary" "[Z",
  Cond.fieldLink "NativeWorksModel" 35 "NativeWorksModel" "firstItem" "[I",
  Cond.fieldLink "NativeWorksModel" 38 "NativeWorksModel" "firstSymbol" "[I",
  Cond.fieldLink "NativeWorksModel" 41 "NativeWorksModel" "firstWait" "[I",
  Cond.fieldLink "NativeWorksModel" 44 "NativeWorksModel" "sectionSize" "[I",
  Cond.fieldLink "NativeWorksModel" 47 "NativeWorksModel" "kept" "[Z",
  Cond.fieldLink "NativeWorksModel" 50 "NativeWorksModel" "faultUnit" "I",
  Cond.constant "NativeWorksModel" 54 129024,
  Cond.fieldLink "NativeWorksModel" 55 "NativeWorksModel" "pool" "[B",
  Cond.fieldLink "NativeWorksModel" 58 "NativeWorksModel" "nameAt" "[I",
  Cond.fieldLink "NativeWorksModel" 61 "NativeWorksModel" "nameLength" "[I",
  Cond.fieldLink "NativeWorksModel" 64 "NativeWorksModel" "nameSum" "[J",
  Cond.fieldLink "NativeWorksModel" 67 "NativeWorksModel" "labelItem" "[I",
  Cond.fieldLink "NativeWorksModel" 70 "NativeWorksModel" "isConstant" "[Z",
  Cond.fieldLink "NativeWorksModel" 73 "NativeWorksModel" "isUsed" "[Z",
  Cond.fieldLink "NativeWorksModel" 76 "NativeWorksModel" "isGlobal" "[Z",
  Cond.fieldLink "NativeWorksModel" 79 "NativeWorksModel" "isWeak" "[Z",
  Cond.fieldLink "NativeWorksModel" 82 "NativeWorksModel" "constant" "[J",
  Cond.fieldLink "NativeWorksModel" 85 "NativeWorksModel" "itemKind" "[B",
  Cond.fieldLink "NativeWorksModel" 88 "NativeWorksModel" "itemSection" "[B",
  Cond.fieldLink "NativeWorksModel" 91 "NativeWorksModel" "itemLine" "[I",
  Cond.fieldLink "NativeWorksModel" 94 "NativeWorksModel" "itemSize" "[I",
  Cond.fieldLink "NativeWorksModel" 97 "NativeWorksModel" "itemOffset" "[I",
  Cond.fieldLink "NativeWorksModel" 100 "NativeWorksModel" "itemData" "[I",
  Cond.fieldLink "NativeWorksModel" 103 "NativeWorksModel" "itemShape" "[J",
  Cond.fieldLink "NativeWorksModel" 106 "NativeWorksModel" "itemDisplacement" "[I",
  Cond.fieldLink "NativeWorksModel" 109 "NativeWorksModel" "itemNumbe\x72" "[J",
  Cond.constant "NativeWorksModel" 112 132172,
  Cond.fieldLink "NativeWorksModel" 113 "NativeWorksModel" "data" "[B",
  Cond.fieldLink "NativeWorksModel" 116 "NativeWorksModel" "waitItem" "[I",
  Cond.fieldLink "NativeWorksModel" 119 "NativeWorksModel" "waitAt" "[I",
  Cond.fieldLink "NativeWorksModel" 122 "NativeWorksModel" "waitPlus" "[I",
  Cond.fieldLink "NativeWorksModel" 125 "NativeWorksModel" "waitMinus" "[I",
  Cond.fieldLink "NativeWorksModel" 128 "NativeWorksModel" "waitSize" "[B",
  Cond.fieldLink "NativeWorksModel" 131 "NativeWorksModel" "waitWhat" "[B",
  Cond.fieldLink "NativeWorksModel" 134 "NativeWorksModel" "waitConstant" "[J",
  Cond.fieldLink "NativeWorksModel" 137 "NativeWorksModel" "line" "[B",
  Cond.fieldLink "NativeWorksModel" 140 "NativeWorksModel" "frameKind" "[I",
  Cond.fieldLink "NativeWorksModel" 143 "NativeWorksModel" "frameStop" "[I",
  Cond.fieldLink "NativeWorksModel" 146 "NativeWorksModel" "frameStopLine" "[I",
  Cond.fieldLink "NativeWorksModel" 149 "NativeWorksModel" "frameBody" "[I",
  Cond.fieldLink "NativeWorksModel" 152 "NativeWorksModel" "frameBodyLine" "[I",
  Cond.fieldLink "NativeWorksModel" 155 "NativeWorksModel" "frameLeft" "[I",
  Cond.fieldLink "NativeWorksModel" 158 "NativeWorksModel" "frameOwn" "[I",
  Cond.fieldLink "NativeWorksModel" 161 "NativeWorksModel" "frameMacro" "[I",
  Cond.fieldLink "NativeWorksModel" 164 "NativeWorksModel" "frameNumbe\x72" "[I",
  Cond.fieldLink "NativeWorksModel" 167 "NativeWorksModel" "frameElse" "[Z",
  Cond.classLink "NativeWorksModel" 170 "[[B",
  Cond.fieldLink "NativeWorksModel" 172 "NativeWorksModel" "argument" "[[B",
  Cond.classLink "NativeWorksModel" 175 "[[I",
  Cond.fieldLink "NativeWorksModel" 177 "NativeWorksModel" "argumentAt" "[[I",
  Cond.fieldLink "NativeWorksModel" 180 "NativeWorksModel" "arguments" "[I",
  Cond.fieldLink "NativeWorksModel" 183 "NativeWorksModel" "macroName" "[I",
  Cond.fieldLink "NativeWorksModel" 186 "NativeWorksModel" "macroLength" "[I",
  Cond.fieldLink "NativeWorksModel" 189 "NativeWorksModel" "macroParameters" "[I",
  Cond.fieldLink "NativeWorksModel" 192 "NativeWorksModel" "macroBody" "[I",
  Cond.fieldLink "NativeWorksModel" 195 "NativeWorksModel" "macroBodyLine" "[I",
  Cond.fieldLink "NativeWorksModel" 198 "NativeWorksModel" "macroEnd" "[I",
  Cond.fieldLink "NativeWorksModel" 201 "NativeWorksModel" "macroEndLine" "[I",
  Cond.fieldLink "NativeWorksModel" 204 "NativeWorksModel" "token" "[I",
  Cond.fieldLink "NativeWorksModel" 207 "NativeWorksModel" "tokenStart" "[I",
  Cond.fieldLink "NativeWorksModel" 210 "NativeWorksModel" "tokenLength" "[I",
  Cond.fieldLink "NativeWorksModel" 213 "NativeWorksModel" "tokenValue" "[J",
  Cond.fieldLink "NativeWorksModel" 216 "NativeWorksModel" "name" "[B",
  Cond.fieldLink "NativeWorksModel" 219 "NativeWorksModel" "value" "[J",
  Cond.fieldLink "NativeWorksModel" 222 "NativeWorksModel" "plus" "[I",
  Cond.fieldLink "NativeWorksModel" 225 "NativeWorksModel" "minus" "[I",
  Cond.fieldLink "NativeWorksModel" 228 "NativeWorksModel" "operato\x72" "[I",
  Cond.fieldLink "NativeWorksModel" 231 "NativeWorksModel" "piece" "[I",
  Cond.fieldLink "NativeWorksModel" 234 "NativeWorksModel" "spanPlus" "[I",
  Cond.fieldLink "NativeWorksModel" 237 "NativeWorksModel" "spanMinus" "[I",
  Cond.fieldLink "NativeWorksModel" 240 "NativeWorksModel" "spanLine" "[I",
  Cond.fieldLink "NativeWorksModel" 243 "NativeWorksModel" "kind" "[I",
  Cond.fieldLink "NativeWorksModel" 246 "NativeWorksModel" "registe\x72" "[I",
  Cond.fieldLink "NativeWorksModel" 249 "NativeWorksModel" "told" "[I",
  Cond.fieldLink "NativeWorksModel" 252 "NativeWorksModel" "from" "[I",
  Cond.fieldLink "NativeWorksModel" 255 "NativeWorksModel" "to" "[I",
  Cond.fieldLink "NativeWorksModel" 279 "NativeWorksModel" "best" "[B",
  Cond.fieldLink "NativeWorksModel" 282 "NativeWorksModel" "trial" "[B",
  Cond.fieldLink "NativeWorksModel" 285 "NativeWorksModel" "termRegiste\x72" "[I",
  Cond.fieldLink "NativeWorksModel" 288 "NativeWorksModel" "termScale" "[I",
  Cond.classLink "NativeWorksModel" 291 "NativeWorksModel$Code",
  Cond.instantiable "NativeWorksModel$Code" 13,
  Cond.initialized "NativeWorksModel$Code",
  Cond.code ⟨"NativeWorksModel$Code", "<init>", "()V"⟩ prog_15_method_1_code 1 (Option.none : Option FieldType),
  Cond.instanceMethod ⟨"NativeWorksModel$Code", "<init>", "()V"⟩,
  Cond.fieldLink "NativeWorksModel" 294 "NativeWorksModel" "image" "LNativeWorksModel$Code;",
  Cond.fieldLink "NativeWorksModel" 298 "NativeWorksModel" "code" "LNativeWorksModel$Code;",
  Cond.constant "NativeWorksModel" 301 131072,
  Cond.fieldLink "NativeWorksModel" 302 "NativeWorksModel" "imageBytes" "[B",
  Cond.fieldLink "NativeWorksModel" 305 "NativeWorksModel" "taken" "[Z",
  Cond.fieldLink "NativeWorksModel" 308 "NativeWorksModel" "needed" "[Z",
  Cond.fieldLink "NativeWorksModel" 311 "NativeWorksModel" "addressOf" "[I",
  Cond.fieldLink "NativeWorksModel" 314 "NativeWorksModel" "imagePool" "[B",
  Cond.fieldLink "NativeWorksModel" 317 "NativeWorksModel" "imageNameAt" "[I",
  Cond.fieldLink "NativeWorksModel" 320 "NativeWorksModel" "imageNameLength" "[I",
  Cond.fieldLink "NativeWorksModel" 323 "NativeWorksModel" "imageNameAddress" "[I",
  Cond.fieldLink "NativeWorksModel" 326 "NativeWorksModel" "memory" "[B",
  Cond.fieldLink "NativeWorksModel" 329 "NativeWorksModel" "heap" "[B",
  Cond.fieldLink "NativeWorksModel" 332 "NativeWorksModel" "stack" "[B",
  Cond.fieldLink "NativeWorksModel" 335 "NativeWorksModel" "given" "[B",
  Cond.fieldLink "NativeWorksModel" 338 "NativeWorksModel" "shown" "[B",
  Cond.fieldLink "NativeWorksModel" 341 "NativeWorksModel" "registers0" "[J",
  Cond.fieldLink "NativeWorksModel" 344 "NativeWorksModel" "kept0" "[J",
  Cond.fieldLink "NativeWorksModel" 347 "NativeWorksModel" "places" "[J",
  Cond.code ⟨"NativeWorksModel", "wordsOf", "(Ljava/lang/String;I)V"⟩ prog_14_method_3_code 6 (Option.none : Option FieldType),
  Cond.methodLink "NativeWorksModel" 352 ⟨"NativeWorksModel", "wordsOf", "(Ljava/lang/String;I)V"⟩,
  Cond.instanceMethod ⟨"NativeWorksModel", "wordsOf", "(Ljava/lang/String;I)V"⟩,
  Cond.selects "NativeWorksModel" ⟨"NativeWorksModel", "wordsOf", "(Ljava/lang/String;I)V"⟩ ⟨"NativeWorksModel", "wordsOf", "(Ljava/lang/String;I)V"⟩,
  Cond.code ⟨"NativeWorksModel", "conditions", "(Ljava/lang/String;I)V"⟩ prog_14_method_5_code 5 (Option.none : Option FieldType),
  Cond.methodLink "NativeWorksModel" 360 ⟨"NativeWorksModel", "conditions", "(Ljava/lang/String;I)V"⟩,
  Cond.instanceMethod ⟨"NativeWorksModel", "conditions", "(Ljava/lang/String;I)V"⟩,
  Cond.selects "NativeWorksModel" ⟨"NativeWorksModel", "conditions", "(Ljava/lang/String;I)V"⟩ ⟨"NativeWorksModel", "conditions", "(Ljava/lang/String;I)V"⟩,
  Cond.constant "NativeWorksModel" 369 262181,
  Cond.constant "NativeWorksModel" 375 524325,
  Cond.constant "NativeWorksModel" 378 262182,
  Cond.constant "NativeWorksModel" 381 524326,
  Cond.constant "NativeWorksModel" 386 65586,
  Cond.constant "NativeWorksModel" 389 262194,
  Cond.constant "NativeWorksModel" 392 524338,
  Cond.constant "NativeWorksModel" 395 65587,
  Cond.constant "NativeWorksModel" 398 262195,
  Cond.constant "NativeWorksModel" 401 524339,
  Cond.code ⟨"NativeWorksModel", "registerNames", "()V"⟩ prog_14_method_8_code 5 (Option.none : Option FieldType),
  Cond.methodLink "NativeWorksModel" 414 ⟨"NativeWorksModel", "registerNames", "()V"⟩,
  Cond.instanceMethod ⟨"NativeWorksModel", "registerNames", "()V"⟩,
  Cond.selects "NativeWorksModel" ⟨"NativeWorksModel", "registerNames", "()V"⟩ ⟨"NativeWorksModel", "registerNames", "()V"⟩,
  Cond.fieldLink "NativeWorksModel" 423 "NativeWorksModel" "textWord" "J",
  Cond.fieldLink "NativeWorksModel" 429 "NativeWorksModel" "rodataWord" "J",
  Cond.fieldLink "NativeWorksModel" 433 "NativeWorksModel" "dataWord" "J",
  Cond.fieldLink "NativeWorksModel" 438 "NativeWorksModel" "bssWord" "J",
  Cond.fieldLink "NativeWorksModel" 441 "NativeWorksModel" "byteWord" "J",
  Cond.fieldLink "NativeWorksModel" 444 "NativeWorksModel" "dwordWord" "J",
  Cond.fieldLink "NativeWorksModel" 447 "NativeWorksModel" "qwordWord" "J",
  Cond.fieldLink "NativeWorksModel" 450 "NativeWorksModel" "relWord" "J",
  Cond.fieldLink "NativeWorksModel" 453 "NativeWorksModel" "equWord" "J",
  Cond.fieldLink "NativeWorksModel" 458 "NativeWorksModel" "repWord" "J",
  Cond.fieldLink "NativeWorksModel" 463 "NativeWorksModel" "startWord" "J",
  Cond.code ⟨"NativeWorksModel", "fillTable", "()V"⟩ prog_14_method_103_code 3 (Option.none : Option FieldType),
  Cond.methodLink "NativeWorksModel" 466 ⟨"NativeWorksModel", "fillTable", "()V"⟩,
  Cond.instanceMethod ⟨"NativeWorksModel", "fillTable", "()V"⟩,
  Cond.selects "NativeWorksModel" ⟨"NativeWorksModel", "fillTable", "()V"⟩ ⟨"NativeWorksModel", "fillTable", "()V"⟩]
def rTs : List Cond := rBase ++ (u_ws RJ0 TJ0 4 ++ (u_ws RJ4 TJ4 4 ++ (u_ws RX0 TX0 15 ++ (u_ws RX1 TX1 11 ++ (u_ws RX2 TX2 21 ++ (u_ws RX3 TX3 10 ++ (u_ws RX4 TX4 18 ++ (u_ws RX5 TX5 17 ++ (u_ws RX6 TX6 12 ++ (u_ws RX7 TX7 6 ++ (u_ws RX8 TX8 20 ++ (u_ws RX9 TX9 14 ++ (u_ws RX10 TX10 19 ++ (u_ws RX11 TX11 9 ++ (u_ws RX12 TX12 13 ++ (u_ws RX13 TX13 205))))))))))))))))
theorem kMem {w : Cond} (i : Nat) (h : rBase[i]? = some w) : w ∈ rTs := List.mem_append_left _ (List.mem_of_getElem? h)
theorem inJ0 : ∀ w ∈ u_ws RJ0 TJ0 4, w ∈ rTs := fun _ h => List.mem_append_right _ (List.mem_append_left _ h)
theorem kc0 : vwCl[0]? = some (RJ0, TJ0, 4) := rfl
theorem inJ4 : ∀ w ∈ u_ws RJ4 TJ4 4, w ∈ rTs := fun _ h => List.mem_append_right _ (List.mem_append_right _ (List.mem_append_left _ h))
theorem kc1 : vwCl[1]? = some (RJ4, TJ4, 4) := rfl
theorem inX0 : ∀ w ∈ u_ws RX0 TX0 15, w ∈ rTs := fun _ h => List.mem_append_right _ (List.mem_append_right _ (List.mem_append_right _ (List.mem_append_left _ h)))
theorem kc2 : vwCl[2]? = some (RX0, TX0, 15) := rfl
theorem inX1 : ∀ w ∈ u_ws RX1 TX1 11, w ∈ rTs := fun _ h => List.mem_append_right _ (List.mem_append_right _ (List.mem_append_right _ (List.mem_append_right _ (List.mem_append_left _ h))))
theorem kc3 : vwCl[3]? = some (RX1, TX1, 11) := rfl
theorem inX2 : ∀ w ∈ u_ws RX2 TX2 21, w ∈ rTs := fun _ h => List.mem_append_right _ (List.mem_append_right _ (List.mem_append_right _ (List.mem_append_right _ (List.mem_append_right _ (List.mem_append_left _ h)))))
theorem kc4 : vwCl[4]? = some (RX2, TX2, 21) := rfl
theorem inX3 : ∀ w ∈ u_ws RX3 TX3 10, w ∈ rTs := fun _ h => List.mem_append_right _ (List.mem_append_right _ (List.mem_append_right _ (List.mem_append_right _ (List.mem_append_right _ (List.mem_append_right _ (List.mem_append_left _ h))))))
theorem kc5 : vwCl[5]? = some (RX3, TX3, 10) := rfl
theorem inX4 : ∀ w ∈ u_ws RX4 TX4 18, w ∈ rTs := fun _ h => List.mem_append_right _ (List.mem_append_right _ (List.mem_append_right _ (List.mem_append_right _ (List.mem_append_right _ (List.mem_append_right _ (List.mem_append_right _ (List.mem_append_left _ h)))))))
theorem kc6 : vwCl[6]? = some (RX4, TX4, 18) := rfl
theorem inX5 : ∀ w ∈ u_ws RX5 TX5 17, w ∈ rTs := fun _ h => List.mem_append_right _ (List.mem_append_right _ (List.mem_append_right _ (List.mem_append_right _ (List.mem_append_right _ (List.mem_append_right _ (List.mem_append_right _ (List.mem_append_right _ (List.mem_append_left _ h))))))))
theorem kc7 : vwCl[7]? = some (RX5, TX5, 17) := rfl
theorem inX6 : ∀ w ∈ u_ws RX6 TX6 12, w ∈ rTs := fun _ h => List.mem_append_right _ (List.mem_append_right _ (List.mem_append_right _ (List.mem_append_right _ (List.mem_append_right _ (List.mem_append_right _ (List.mem_append_right _ (List.mem_append_right _ (List.mem_append_right _ (List.mem_append_left _ h)))))))))
theorem kc8 : vwCl[8]? = some (RX6, TX6, 12) := rfl
theorem inX7 : ∀ w ∈ u_ws RX7 TX7 6, w ∈ rTs := fun _ h => List.mem_append_right _ (List.mem_append_right _ (List.mem_append_right _ (List.mem_append_right _ (List.mem_append_right _ (List.mem_append_right _ (List.mem_append_right _ (List.mem_append_right _ (List.mem_append_right _ (List.mem_append_right _ (List.mem_append_left _ h))))))))))
theorem kc9 : vwCl[9]? = some (RX7, TX7, 6) := rfl
theorem inX8 : ∀ w ∈ u_ws RX8 TX8 20, w ∈ rTs := fun _ h => List.mem_append_right _ (List.mem_append_right _ (List.mem_append_right _ (List.mem_append_right _ (List.mem_append_right _ (List.mem_append_right _ (List.mem_append_right _ (List.mem_append_right _ (List.mem_append_right _ (List.mem_append_right _ (List.mem_append_right _ (List.mem_append_left _ h)))))))))))
theorem kc10 : vwCl[10]? = some (RX8, TX8, 20) := rfl
theorem inX9 : ∀ w ∈ u_ws RX9 TX9 14, w ∈ rTs := fun _ h => List.mem_append_right _ (List.mem_append_right _ (List.mem_append_right _ (List.mem_append_right _ (List.mem_append_right _ (List.mem_append_right _ (List.mem_append_right _ (List.mem_append_right _ (List.mem_append_right _ (List.mem_append_right _ (List.mem_append_right _ (List.mem_append_right _ (List.mem_append_left _ h))))))))))))
theorem kc11 : vwCl[11]? = some (RX9, TX9, 14) := rfl
theorem inX10 : ∀ w ∈ u_ws RX10 TX10 19, w ∈ rTs := fun _ h => List.mem_append_right _ (List.mem_append_right _ (List.mem_append_right _ (List.mem_append_right _ (List.mem_append_right _ (List.mem_append_right _ (List.mem_append_right _ (List.mem_append_right _ (List.mem_append_right _ (List.mem_append_right _ (List.mem_append_right _ (List.mem_append_right _ (List.mem_append_right _ (List.mem_append_left _ h)))))))))))))
theorem kc12 : vwCl[12]? = some (RX10, TX10, 19) := rfl
theorem inX11 : ∀ w ∈ u_ws RX11 TX11 9, w ∈ rTs := fun _ h => List.mem_append_right _ (List.mem_append_right _ (List.mem_append_right _ (List.mem_append_right _ (List.mem_append_right _ (List.mem_append_right _ (List.mem_append_right _ (List.mem_append_right _ (List.mem_append_right _ (List.mem_append_right _ (List.mem_append_right _ (List.mem_append_right _ (List.mem_append_right _ (List.mem_append_right _ (List.mem_append_left _ h))))))))))))))
theorem kc13 : vwCl[13]? = some (RX11, TX11, 9) := rfl
theorem inX12 : ∀ w ∈ u_ws RX12 TX12 13, w ∈ rTs := fun _ h => List.mem_append_right _ (List.mem_append_right _ (List.mem_append_right _ (List.mem_append_right _ (List.mem_append_right _ (List.mem_append_right _ (List.mem_append_right _ (List.mem_append_right _ (List.mem_append_right _ (List.mem_append_right _ (List.mem_append_right _ (List.mem_append_right _ (List.mem_append_right _ (List.mem_append_right _ (List.mem_append_right _ (List.mem_append_left _ h)))))))))))))))
theorem kc14 : vwCl[14]? = some (RX12, TX12, 13) := rfl
theorem inX13 : ∀ w ∈ u_ws RX13 TX13 205, w ∈ rTs := fun _ h => List.mem_append_right _ (List.mem_append_right _ (List.mem_append_right _ (List.mem_append_right _ (List.mem_append_right _ (List.mem_append_right _ (List.mem_append_right _ (List.mem_append_right _ (List.mem_append_right _ (List.mem_append_right _ (List.mem_append_right _ (List.mem_append_right _ (List.mem_append_right _ (List.mem_append_right _ (List.mem_append_right _ (List.mem_append_right _ (h))))))))))))))))
theorem kc15 : vwCl[15]? = some (RX13, TX13, 205) := rfl
set_option maxRecDepth 100000 in
theorem kw0 : Cond.code ⟨"java/lang/Object", "<init>", "()V"⟩ object_method_1_code 1 (Option.none : Option FieldType) ∈ rTs := kMem 0 rfl
set_option maxRecDepth 100000 in
theorem kw1 : Cond.methodLink "NativeWorks$Names" 3 ⟨"java/lang/Object", "<init>", "()V"⟩ ∈ rTs := kMem 1 rfl
set_option maxRecDepth 100000 in
theorem kw2 : Cond.instanceMethod ⟨"java/lang/Object", "<init>", "()V"⟩ ∈ rTs := kMem 2 rfl
set_option maxRecDepth 100000 in
theorem kw3 : Cond.arrayClass FieldType.byte ∈ rTs := kMem 3 rfl
set_option maxRecDepth 100000 in
theorem kw4 : Cond.fieldLink "NativeWorks$Names" 9 "NativeWorks$Names" "letters" "[B" ∈ rTs := kMem 4 rfl
set_option maxRecDepth 100000 in
theorem kw5 : Cond.arrayClass FieldType.int ∈ rTs := kMem 5 rfl
set_option maxRecDepth 100000 in
theorem kw6 : Cond.fieldLink "NativeWorks$Names" 15 "NativeWorks$Names" "from" "[I" ∈ rTs := kMem 6 rfl
set_option maxRecDepth 100000 in
theorem kw7 : Cond.fieldLink "NativeWorks$Names" 19 "NativeWorks$Names" "olde\x72" "[I" ∈ rTs := kMem 7 rfl
set_option maxRecDepth 100000 in
theorem kw8 : Cond.fieldLink "NativeWorks$Names" 22 "NativeWorks$Names" "slot" "[I" ∈ rTs := kMem 8 rfl
set_option maxRecDepth 100000 in
theorem kw9 : Cond.fieldLink "NativeWorks$Names" 25 "NativeWorks$Names" "newest" "[I" ∈ rTs := kMem 9 rfl
set_option maxRecDepth 100000 in
theorem kw10 : Cond.code ⟨"java/util/Arrays", "fill", "([II)V"⟩ prog_38_method_103_code 4 (Option.none : Option FieldType) ∈ rTs := kMem 10 rfl
set_option maxRecDepth 100000 in
theorem kw11 : Cond.methodLink "NativeWorks$Names" 28 ⟨"java/util/Arrays", "fill", "([II)V"⟩ ∈ rTs := kMem 11 rfl
set_option maxRecDepth 100000 in
theorem kw12 : Cond.static ⟨"java/util/Arrays", "fill", "([II)V"⟩ ∈ rTs := kMem 12 rfl
set_option maxRecDepth 100000 in
theorem kw13 : Cond.initialized "java/util/Arrays" ∈ rTs := kMem 13 rfl
set_option maxRecDepth 100000 in
theorem kw14 : Cond.fieldLink "NativeWorks$Names" 34 "NativeWorks$Names" "count" "I" ∈ rTs := kMem 14 rfl
set_option maxRecDepth 100000 in
theorem kw15 : Cond.methodLink "NativeWorks$Units" 3 ⟨"java/lang/Object", "<init>", "()V"⟩ ∈ rTs := kMem 15 rfl
set_option maxRecDepth 100000 in
theorem kw16 : Cond.classLink "NativeWorks$Units" 9 "NativeWorks$Names" ∈ rTs := kMem 16 rfl
set_option maxRecDepth 100000 in
theorem kw17 : Cond.instantiable "NativeWorks$Names" 6 ∈ rTs := kMem 17 rfl
set_option maxRecDepth 100000 in
theorem kw18 : Cond.initialized "NativeWorks$Names" ∈ rTs := kMem 18 rfl
set_option maxRecDepth 100000 in
theorem kw19 : Cond.constant "NativeWorks$Units" 13 (nI 129024) ∈ rTs := kMem 19 (by decide +kernel)
set_option maxRecDepth 100000 in
theorem kw20 : Cond.code ⟨"NativeWorks$Names", "<init>", "(II)V"⟩ prog_9_method_1_code 3 (Option.none : Option FieldType) ∈ rTs := kMem 20 rfl
set_option maxRecDepth 100000 in
theorem kw21 : Cond.methodLink "NativeWorks$Units" 14 ⟨"NativeWorks$Names", "<init>", "(II)V"⟩ ∈ rTs := kMem 21 rfl
set_option maxRecDepth 100000 in
theorem kw22 : Cond.instanceMethod ⟨"NativeWorks$Names", "<init>", "(II)V"⟩ ∈ rTs := kMem 22 rfl
set_option maxRecDepth 100000 in
theorem kw23 : Cond.fieldLink "NativeWorks$Units" 17 "NativeWorks$Units" "names" "LNativeWorks$Names;" ∈ rTs := kMem 23 rfl
set_option maxRecDepth 100000 in
theorem kw24 : Cond.classLink "NativeWorks$Units" 21 "[[I" ∈ rTs := kMem 24 rfl
set_option maxRecDepth 100000 in
theorem kw25 : Cond.fieldLink "NativeWorks$Units" 23 "NativeWorks$Units" "symbols" "[[I" ∈ rTs := kMem 25 rfl
set_option maxRecDepth 100000 in
theorem kw26 : Cond.arrayClass FieldType.long ∈ rTs := kMem 26 rfl
set_option maxRecDepth 100000 in
theorem kw27 : Cond.fieldLink "NativeWorks$Units" 26 "NativeWorks$Units" "constants" "[J" ∈ rTs := kMem 27 rfl
set_option maxRecDepth 100000 in
theorem kw28 : Cond.fieldLink "NativeWorks$Units" 30 "NativeWorks$Units" "labels" "[I" ∈ rTs := kMem 28 rfl
set_option maxRecDepth 100000 in
theorem kw29 : Cond.fieldLink "NativeWorks$Units" 34 "NativeWorks$Units" "statements" "[[I" ∈ rTs := kMem 29 rfl
set_option maxRecDepth 100000 in
theorem kw30 : Cond.fieldLink "NativeWorks$Units" 37 "NativeWorks$Units" "waits" "[[I" ∈ rTs := kMem 30 rfl
set_option maxRecDepth 100000 in
theorem kw31 : Cond.fieldLink "NativeWorks$Units" 40 "NativeWorks$Units" "waitNumbers" "[J" ∈ rTs := kMem 31 rfl
set_option maxRecDepth 100000 in
theorem kw32 : Cond.constant "NativeWorks$Units" 43 (nI 131072) ∈ rTs := kMem 32 (by decide +kernel)
set_option maxRecDepth 100000 in
theorem kw33 : Cond.fieldLink "NativeWorks$Units" 44 "NativeWorks$Units" "put" "[B" ∈ rTs := kMem 33 rfl
set_option maxRecDepth 100000 in
theorem kw34 : Cond.fieldLink "NativeWorks$Units" 48 "NativeWorks$Units" "bytes" "[B" ∈ rTs := kMem 34 rfl
set_option maxRecDepth 100000 in
theorem kw35 : Cond.fieldLink "NativeWorks$Units" 51 "NativeWorks$Units" "rows" "[[I" ∈ rTs := kMem 35 rfl
set_option maxRecDepth 100000 in
theorem kw36 : Cond.fieldLink "NativeWorks$Units" 54 "NativeWorks$Units" "ends" "[I" ∈ rTs := kMem 36 rfl
set_option maxRecDepth 100000 in
theorem kw37 : Cond.fieldLink "java/lang/String" 38 "java/lang/String" "COMPACT_STRINGS" "Z" ∈ rTs := kMem 37 rfl
set_option maxRecDepth 100000 in
theorem kw38 : Cond.fieldLink "java/lang/String" 15 "java/lang/String" "code\x72" "B" ∈ rTs := kMem 38 rfl
set_option maxRecDepth 100000 in
theorem kw39 : Cond.fieldLink "java/lang/String" 9 "java/lang/String" "value" "[B" ∈ rTs := kMem 39 rfl
set_option maxRecDepth 100000 in
theorem kw40 : Cond.code ⟨"java/lang/String", "code\x72", "()B"⟩ prog_30_method_152_code 1 (Option.some FieldType.byte) ∈ rTs := kMem 40 rfl
set_option maxRecDepth 100000 in
theorem kw41 : Cond.methodLink "java/lang/String" 335 ⟨"java/lang/String", "code\x72", "()B"⟩ ∈ rTs := kMem 41 rfl
set_option maxRecDepth 100000 in
theorem kw42 : Cond.instanceMethod ⟨"java/lang/String", "code\x72", "()B"⟩ ∈ rTs := kMem 42 rfl
set_option maxRecDepth 100000 in
theorem kw43 : Cond.selects "java/lang/String" ⟨"java/lang/String", "code\x72", "()B"⟩ ⟨"java/lang/String", "code\x72", "()B"⟩ ∈ rTs := kMem 43 rfl
set_option maxRecDepth 100000 in
theorem kw44 : Cond.initialized "java/lang/String" ∈ rTs := kMem 44 rfl
set_option maxRecDepth 100000 in
theorem kw45 : Cond.fieldLink "java/lang/String" 1053 "jdk/internal/util/Preconditions" "SIOOBE_FORMATTER" "Ljava/util/function/BiFunction;" ∈ rTs := kMem 45 rfl
set_option maxRecDepth 100000 in
theorem kw46 : Cond.code ⟨"jdk/internal/util/Preconditions", "checkIndex", "(IILjava/util/function/BiFunction;)I"⟩ prog_41_method_11_code 3 (Option.some FieldType.int) ∈ rTs := kMem 46 rfl
set_option maxRecDepth 100000 in
theorem kw47 : Cond.methodLink "java/lang/String" 1059 ⟨"jdk/internal/util/Preconditions", "checkIndex", "(IILjava/util/function/BiFunction;)I"⟩ ∈ rTs := kMem 47 rfl
set_option maxRecDepth 100000 in
theorem kw48 : Cond.static ⟨"jdk/internal/util/Preconditions", "checkIndex", "(IILjava/util/function/BiFunction;)I"⟩ ∈ rTs := kMem 48 rfl
set_option maxRecDepth 100000 in
theorem kw49 : Cond.initialized "jdk/internal/util/Preconditions" ∈ rTs := kMem 49 rfl
set_option maxRecDepth 100000 in
theorem kw50 : Cond.code ⟨"java/lang/String", "checkIndex", "(II)V"⟩ prog_30_method_155_code 2 (Option.none : Option FieldType) ∈ rTs := kMem 50 rfl
set_option maxRecDepth 100000 in
theorem kw51 : Cond.methodLink "java/lang/StringLatin1" 9 ⟨"java/lang/String", "checkIndex", "(II)V"⟩ ∈ rTs := kMem 51 rfl
set_option maxRecDepth 100000 in
theorem kw52 : Cond.static ⟨"java/lang/String", "checkIndex", "(II)V"⟩ ∈ rTs := kMem 52 rfl
set_option maxRecDepth 100000 in
theorem kw53 : Cond.code ⟨"java/lang/String", "isLatin1", "()Z"⟩ prog_30_method_154_code 1 (Option.some FieldType.boolean) ∈ rTs := kMem 53 rfl
set_option maxRecDepth 100000 in
theorem kw54 : Cond.methodLink "java/lang/String" 492 ⟨"java/lang/String", "isLatin1", "()Z"⟩ ∈ rTs := kMem 54 rfl
set_option maxRecDepth 100000 in
theorem kw55 : Cond.instanceMethod ⟨"java/lang/String", "isLatin1", "()Z"⟩ ∈ rTs := kMem 55 rfl
set_option maxRecDepth 100000 in
theorem kw56 : Cond.selects "java/lang/String" ⟨"java/lang/String", "isLatin1", "()Z"⟩ ⟨"java/lang/String", "isLatin1", "()Z"⟩ ∈ rTs := kMem 56 rfl
set_option maxRecDepth 100000 in
theorem kw57 : Cond.code ⟨"java/lang/StringLatin1", "charAt", "([BI)C"⟩ prog_32_method_2_code 2 (Option.some FieldType.char) ∈ rTs := kMem 57 rfl
set_option maxRecDepth 100000 in
theorem kw58 : Cond.methodLink "java/lang/String" 495 ⟨"java/lang/StringLatin1", "charAt", "([BI)C"⟩ ∈ rTs := kMem 58 rfl
set_option maxRecDepth 100000 in
theorem kw59 : Cond.static ⟨"java/lang/StringLatin1", "charAt", "([BI)C"⟩ ∈ rTs := kMem 59 rfl
set_option maxRecDepth 100000 in
theorem kw60 : Cond.initialized "java/lang/StringLatin1" ∈ rTs := kMem 60 rfl
set_option maxRecDepth 100000 in
theorem kw61 : Cond.methodLink "NativeWorks$Names" 38 ⟨"java/lang/System", "arraycopy", "(Ljava/lang/Object;ILjava/lang/Object;II)V"⟩ ∈ rTs := kMem 61 rfl
set_option maxRecDepth 100000 in
theorem kw62 : Cond.native ⟨"java/lang/System", "arraycopy", "(Ljava/lang/Object;ILjava/lang/Object;II)V"⟩ ∈ rTs := kMem 62 rfl
set_option maxRecDepth 100000 in
theorem kw63 : Cond.static ⟨"java/lang/System", "arraycopy", "(Ljava/lang/Object;ILjava/lang/Object;II)V"⟩ ∈ rTs := kMem 63 rfl
set_option maxRecDepth 100000 in
theorem kw64 : Cond.initialized "java/lang/System" ∈ rTs := kMem 64 rfl
set_option maxRecDepth 100000 in
theorem kw65 : Cond.code ⟨"java/lang/String", "length", "()I"⟩ prog_30_method_54_code 1 (Option.some FieldType.int) ∈ rTs := kMem 65 rfl
set_option maxRecDepth 100000 in
theorem kw66 : Cond.methodLink "NativeWorks$Line" 76 ⟨"java/lang/String", "length", "()I"⟩ ∈ rTs := kMem 66 rfl
set_option maxRecDepth 100000 in
theorem kw67 : Cond.instanceMethod ⟨"java/lang/String", "length", "()I"⟩ ∈ rTs := kMem 67 rfl
set_option maxRecDepth 100000 in
theorem kw68 : Cond.selects "java/lang/String" ⟨"java/lang/String", "length", "()I"⟩ ⟨"java/lang/String", "length", "()I"⟩ ∈ rTs := kMem 68 rfl
set_option maxRecDepth 100000 in
theorem kw69 : Cond.fieldLink "NativeWorks$Line" 11 "NativeWorks$Line" "text" "[B" ∈ rTs := kMem 69 rfl
set_option maxRecDepth 100000 in
theorem kw70 : Cond.code ⟨"java/lang/String", "charAt", "(I)C"⟩ prog_30_method_56_code 2 (Option.some FieldType.char) ∈ rTs := kMem 70 rfl
set_option maxRecDepth 100000 in
theorem kw71 : Cond.methodLink "NativeWorks$Line" 82 ⟨"java/lang/String", "charAt", "(I)C"⟩ ∈ rTs := kMem 71 rfl
set_option maxRecDepth 100000 in
theorem kw72 : Cond.instanceMethod ⟨"java/lang/String", "charAt", "(I)C"⟩ ∈ rTs := kMem 72 rfl
set_option maxRecDepth 100000 in
theorem kw73 : Cond.selects "java/lang/String" ⟨"java/lang/String", "charAt", "(I)C"⟩ ⟨"java/lang/String", "charAt", "(I)C"⟩ ∈ rTs := kMem 73 rfl
set_option maxRecDepth 100000 in
theorem kw74 : Cond.fieldLink "NativeWorks$Line" 20 "NativeWorks$Line" "words" "LNativeWorks$Names;" ∈ rTs := kMem 74 rfl
set_option maxRecDepth 100000 in
theorem kw75 : Cond.code ⟨"NativeWorks$Names", "add", "([BII)I"⟩ prog_9_method_3_code 6 (Option.some FieldType.int) ∈ rTs := kMem 75 rfl
set_option maxRecDepth 100000 in
theorem kw76 : Cond.methodLink "NativeWorks$Line" 86 ⟨"NativeWorks$Names", "add", "([BII)I"⟩ ∈ rTs := kMem 76 rfl
set_option maxRecDepth 100000 in
theorem kw77 : Cond.instanceMethod ⟨"NativeWorks$Names", "add", "([BII)I"⟩ ∈ rTs := kMem 77 rfl
set_option maxRecDepth 100000 in
theorem kw78 : Cond.selects "NativeWorks$Names" ⟨"NativeWorks$Names", "add", "([BII)I"⟩ ⟨"NativeWorks$Names", "add", "([BII)I"⟩ ∈ rTs := kMem 78 rfl
set_option maxRecDepth 100000 in
theorem kw79 : Cond.methodLink "NativeWorks$Line" 3 ⟨"java/lang/Object", "<init>", "()V"⟩ ∈ rTs := kMem 79 rfl
set_option maxRecDepth 100000 in
theorem kw80 : Cond.classLink "NativeWorks$Line" 15 "NativeWorks$Names" ∈ rTs := kMem 80 rfl
set_option maxRecDepth 100000 in
theorem kw81 : Cond.methodLink "NativeWorks$Line" 17 ⟨"NativeWorks$Names", "<init>", "(II)V"⟩ ∈ rTs := kMem 81 rfl
set_option maxRecDepth 100000 in
theorem kw82 : Cond.fieldLink "NativeWorks$Line" 24 "NativeWorks$Line" "kind" "[I" ∈ rTs := kMem 82 rfl
set_option maxRecDepth 100000 in
theorem kw83 : Cond.fieldLink "NativeWorks$Line" 28 "NativeWorks$Line" "value" "[J" ∈ rTs := kMem 83 rfl
set_option maxRecDepth 100000 in
theorem kw84 : Cond.fieldLink "NativeWorks$Line" 32 "NativeWorks$Line" "from" "[I" ∈ rTs := kMem 84 rfl
set_option maxRecDepth 100000 in
theorem kw85 : Cond.fieldLink "NativeWorks$Line" 35 "NativeWorks$Line" "to" "[I" ∈ rTs := kMem 85 rfl
set_option maxRecDepth 100000 in
theorem kw86 : Cond.code ⟨"NativeWorks$Line", "teach", "(Ljava/lang/String;)V"⟩ prog_5_method_2_code 4 (Option.none : Option FieldType) ∈ rTs := kMem 86 rfl
set_option maxRecDepth 100000 in
theorem kw87 : Cond.methodLink "NativeWorks$Line" 40 ⟨"NativeWorks$Line", "teach", "(Ljava/lang/String;)V"⟩ ∈ rTs := kMem 87 rfl
set_option maxRecDepth 100000 in
theorem kw88 : Cond.instanceMethod ⟨"NativeWorks$Line", "teach", "(Ljava/lang/String;)V"⟩ ∈ rTs := kMem 88 rfl
set_option maxRecDepth 100000 in
theorem kw89 : Cond.selects "NativeWorks$Line" ⟨"NativeWorks$Line", "teach", "(Ljava/lang/String;)V"⟩ ⟨"NativeWorks$Line", "teach", "(Ljava/lang/String;)V"⟩ ∈ rTs := kMem 89 rfl
set_option maxRecDepth 100000 in
theorem kw90 : Cond.initialized "NativeWorks$Line" ∈ rTs := kMem 90 rfl
set_option maxRecDepth 100000 in
theorem kw91 : Cond.methodLink "NativeWorks$Source" 3 ⟨"java/lang/Object", "<init>", "()V"⟩ ∈ rTs := kMem 91 rfl
set_option maxRecDepth 100000 in
theorem kw92 : Cond.fieldLink "NativeWorks$Source" 9 "NativeWorks$Source" "bytes" "[B" ∈ rTs := kMem 92 rfl
set_option maxRecDepth 100000 in
theorem kw93 : Cond.fieldLink "NativeWorks$Source" 15 "NativeWorks$Source" "words" "LNativeWorks$Names;" ∈ rTs := kMem 93 rfl
set_option maxRecDepth 100000 in
theorem kw94 : Cond.constant "NativeWorks$Source" 19 (nI 65538) ∈ rTs := kMem 94 (by decide +kernel)
set_option maxRecDepth 100000 in
theorem kw95 : Cond.fieldLink "NativeWorks$Source" 20 "NativeWorks$Source" "lineAt" "[I" ∈ rTs := kMem 95 rfl
set_option maxRecDepth 100000 in
theorem kw96 : Cond.constant "NativeWorks$Source" 24 (nI 65537) ∈ rTs := kMem 96 (by decide +kernel)
set_option maxRecDepth 100000 in
theorem kw97 : Cond.fieldLink "NativeWorks$Source" 25 "NativeWorks$Source" "sorts" "[B" ∈ rTs := kMem 97 rfl
set_option maxRecDepth 100000 in
theorem kw98 : Cond.fieldLink "NativeWorks$Source" 28 "NativeWorks$Source" "ifEnds" "[I" ∈ rTs := kMem 98 rfl
set_option maxRecDepth 100000 in
theorem kw99 : Cond.fieldLink "NativeWorks$Source" 31 "NativeWorks$Source" "elses" "[I" ∈ rTs := kMem 99 rfl
set_option maxRecDepth 100000 in
theorem kw100 : Cond.fieldLink "NativeWorks$Source" 34 "NativeWorks$Source" "reptEnds" "[I" ∈ rTs := kMem 100 rfl
set_option maxRecDepth 100000 in
theorem kw101 : Cond.classLink "NativeWorks$Source" 37 "NativeWorks$Names" ∈ rTs := kMem 101 rfl
set_option maxRecDepth 100000 in
theorem kw102 : Cond.constant "NativeWorks$Source" 39 (nI 65536) ∈ rTs := kMem 102 (by decide +kernel)
set_option maxRecDepth 100000 in
theorem kw103 : Cond.methodLink "NativeWorks$Source" 40 ⟨"NativeWorks$Names", "<init>", "(II)V"⟩ ∈ rTs := kMem 103 rfl
set_option maxRecDepth 100000 in
theorem kw104 : Cond.fieldLink "NativeWorks$Source" 43 "NativeWorks$Source" "macros" "LNativeWorks$Names;" ∈ rTs := kMem 104 rfl
set_option maxRecDepth 100000 in
theorem kw105 : Cond.fieldLink "NativeWorks$Source" 46 "NativeWorks$Source" "bodyFrom" "[I" ∈ rTs := kMem 105 rfl
set_option maxRecDepth 100000 in
theorem kw106 : Cond.fieldLink "NativeWorks$Source" 49 "NativeWorks$Source" "bodyTo" "[I" ∈ rTs := kMem 106 rfl
set_option maxRecDepth 100000 in
theorem kw107 : Cond.fieldLink "NativeWorks$Source" 52 "NativeWorks$Source" "firstParamete\x72" "[I" ∈ rTs := kMem 107 rfl
set_option maxRecDepth 100000 in
theorem kw108 : Cond.constant "NativeWorks$Source" 55 (nI 32768) ∈ rTs := kMem 108 (by decide +kernel)
set_option maxRecDepth 100000 in
theorem kw109 : Cond.fieldLink "NativeWorks$Source" 56 "NativeWorks$Source" "parameterFrom" "[I" ∈ rTs := kMem 109 rfl
set_option maxRecDepth 100000 in
theorem kw110 : Cond.fieldLink "NativeWorks$Source" 59 "NativeWorks$Source" "parameterTo" "[I" ∈ rTs := kMem 110 rfl
set_option maxRecDepth 100000 in
theorem kw111 : Cond.fieldLink "NativeWorks$Source" 62 "NativeWorks$Source" "lines" "I" ∈ rTs := kMem 111 rfl
set_option maxRecDepth 100000 in
theorem kw112 : Cond.methodLink "NativeWorks$Reade\x72" 3 ⟨"java/lang/Object", "<init>", "()V"⟩ ∈ rTs := kMem 112 rfl
set_option maxRecDepth 100000 in
theorem kw113 : Cond.fieldLink "NativeWorks$Reade\x72" 9 "NativeWorks$Reade\x72" "source" "LNativeWorks$Source;" ∈ rTs := kMem 113 rfl
set_option maxRecDepth 100000 in
theorem kw114 : Cond.fieldLink "NativeWorks$Reade\x72" 15 "NativeWorks$Reade\x72" "line" "LNativeWorks$Line;" ∈ rTs := kMem 114 rfl
set_option maxRecDepth 100000 in
theorem kw115 : Cond.fieldLink "NativeWorks$Reade\x72" 19 "NativeWorks$Reade\x72" "first" "[I" ∈ rTs := kMem 115 rfl
set_option maxRecDepth 100000 in
theorem kw116 : Cond.fieldLink "NativeWorks$Reade\x72" 23 "NativeWorks$Reade\x72" "end" "[I" ∈ rTs := kMem 116 rfl
set_option maxRecDepth 100000 in
theorem kw117 : Cond.fieldLink "NativeWorks$Reade\x72" 26 "NativeWorks$Reade\x72" "next" "[I" ∈ rTs := kMem 117 rfl
set_option maxRecDepth 100000 in
theorem kw118 : Cond.fieldLink "NativeWorks$Reade\x72" 29 "NativeWorks$Reade\x72" "left" "[I" ∈ rTs := kMem 118 rfl
set_option maxRecDepth 100000 in
theorem kw119 : Cond.fieldLink "NativeWorks$Reade\x72" 32 "NativeWorks$Reade\x72" "make\x72" "[I" ∈ rTs := kMem 119 rfl
set_option maxRecDepth 100000 in
theorem kw120 : Cond.fieldLink "NativeWorks$Reade\x72" 35 "NativeWorks$Reade\x72" "ifsBelow" "[I" ∈ rTs := kMem 120 rfl
set_option maxRecDepth 100000 in
theorem kw121 : Cond.fieldLink "NativeWorks$Reade\x72" 38 "NativeWorks$Reade\x72" "macro" "[I" ∈ rTs := kMem 121 rfl
set_option maxRecDepth 100000 in
theorem kw122 : Cond.fieldLink "NativeWorks$Reade\x72" 41 "NativeWorks$Reade\x72" "made" "[I" ∈ rTs := kMem 122 rfl
set_option maxRecDepth 100000 in
theorem kw123 : Cond.fieldLink "NativeWorks$Reade\x72" 46 "NativeWorks$Reade\x72" "arguments" "[B" ∈ rTs := kMem 123 rfl
set_option maxRecDepth 100000 in
theorem kw124 : Cond.fieldLink "NativeWorks$Reade\x72" 50 "NativeWorks$Reade\x72" "argumentFrom" "[I" ∈ rTs := kMem 124 rfl
set_option maxRecDepth 100000 in
theorem kw125 : Cond.fieldLink "NativeWorks$Reade\x72" 53 "NativeWorks$Reade\x72" "argumentTo" "[I" ∈ rTs := kMem 125 rfl
set_option maxRecDepth 100000 in
theorem kw126 : Cond.arrayClass FieldType.boolean ∈ rTs := kMem 126 rfl
set_option maxRecDepth 100000 in
theorem kw127 : Cond.fieldLink "NativeWorks$Reade\x72" 56 "NativeWorks$Reade\x72" "elseRead" "[Z" ∈ rTs := kMem 127 rfl
set_option maxRecDepth 100000 in
theorem kw128 : Cond.methodLink "NativeWorks$Expression" 3 ⟨"java/lang/Object", "<init>", "()V"⟩ ∈ rTs := kMem 128 rfl
set_option maxRecDepth 100000 in
theorem kw129 : Cond.fieldLink "NativeWorks$Expression" 9 "NativeWorks$Expression" "line" "LNativeWorks$Line;" ∈ rTs := kMem 129 rfl
set_option maxRecDepth 100000 in
theorem kw130 : Cond.fieldLink "NativeWorks$Expression" 15 "NativeWorks$Expression" "units" "LNativeWorks$Units;" ∈ rTs := kMem 130 rfl
set_option maxRecDepth 100000 in
theorem kw131 : Cond.fieldLink "NativeWorks$Expression" 21 "NativeWorks$Expression" "numbe\x72" "[J" ∈ rTs := kMem 131 rfl
set_option maxRecDepth 100000 in
theorem kw132 : Cond.fieldLink "NativeWorks$Expression" 25 "NativeWorks$Expression" "plus" "[I" ∈ rTs := kMem 132 rfl
set_option maxRecDepth 100000 in
theorem kw133 : Cond.fieldLink "NativeWorks$Expression" 29 "NativeWorks$Expression" "minus" "[I" ∈ rTs := kMem 133 rfl
set_option maxRecDepth 100000 in
theorem kw134 : Cond.fieldLink "NativeWorks$Expression" 32 "NativeWorks$Expression" "signs" "[I" ∈ rTs := kMem 134 rfl
set_option maxRecDepth 100000 in
theorem kw135 : Cond.fieldLink "NativeWorks$Expression" 35 "NativeWorks$Expression" "name" "[B" ∈ rTs := kMem 135 rfl
set_option maxRecDepth 100000 in
theorem kw136 : Cond.fieldLink "NativeWorks$Expression" 39 "NativeWorks$Expression" "latest" "[B" ∈ rTs := kMem 136 rfl
set_option maxRecDepth 100000 in
theorem kw137 : Cond.fieldLink "NativeWorks$Instruction" 18 "NativeWorks$Instruction" "rows" "[I" ∈ rTs := kMem 137 rfl
set_option maxRecDepth 100000 in
theorem kw138 : Cond.fieldLink "NativeWorks$Instruction" 53 "NativeWorks$Instruction" "L_AT" "[I" ∈ rTs := kMem 138 rfl
set_option maxRecDepth 100000 in
theorem kw139 : Cond.code ⟨"NativeWorks$Instruction", "isConditional", "(I)Z"⟩ prog_4_method_3_code 1 (Option.some FieldType.boolean) ∈ rTs := kMem 139 rfl
set_option maxRecDepth 100000 in
theorem kw140 : Cond.methodLink "NativeWorks$Instruction" 56 ⟨"NativeWorks$Instruction", "isConditional", "(I)Z"⟩ ∈ rTs := kMem 140 rfl
set_option maxRecDepth 100000 in
theorem kw141 : Cond.static ⟨"NativeWorks$Instruction", "isConditional", "(I)Z"⟩ ∈ rTs := kMem 141 rfl
set_option maxRecDepth 100000 in
theorem kw142 : Cond.initialized "NativeWorks$Instruction" ∈ rTs := kMem 142 rfl
set_option maxRecDepth 100000 in
theorem kw143 : Cond.fieldLink "NativeWorks$Instruction" 24 "NativeWorks$Instruction" "rowAt" "[I" ∈ rTs := kMem 143 rfl
set_option maxRecDepth 100000 in
theorem kw144 : Cond.methodLink "NativeWorks$Instruction" 3 ⟨"java/lang/Object", "<init>", "()V"⟩ ∈ rTs := kMem 144 rfl
set_option maxRecDepth 100000 in
theorem kw145 : Cond.fieldLink "NativeWorks$Instruction" 9 "NativeWorks$Instruction" "ARITHMETIC" "[I" ∈ rTs := kMem 145 rfl
set_option maxRecDepth 100000 in
theorem kw146 : Cond.fieldLink "NativeWorks$Instruction" 15 "NativeWorks$Instruction" "TABLE" "[I" ∈ rTs := kMem 146 rfl
set_option maxRecDepth 100000 in
theorem kw147 : Cond.fieldLink "NativeWorks$Instruction" 21 "NativeWorks$Instruction" "firstRow" "[I" ∈ rTs := kMem 147 rfl
set_option maxRecDepth 100000 in
theorem kw148 : Cond.fieldLink "NativeWorks$Instruction" 27 "NativeWorks$Instruction" "kind" "[I" ∈ rTs := kMem 148 rfl
set_option maxRecDepth 100000 in
theorem kw149 : Cond.fieldLink "NativeWorks$Instruction" 30 "NativeWorks$Instruction" "reg" "[I" ∈ rTs := kMem 149 rfl
set_option maxRecDepth 100000 in
theorem kw150 : Cond.fieldLink "NativeWorks$Instruction" 33 "NativeWorks$Instruction" "bytes" "[B" ∈ rTs := kMem 150 rfl
set_option maxRecDepth 100000 in
theorem kw151 : Cond.methodLink "NativeWorks$Instruction" 37 ⟨"java/util/Arrays", "fill", "([II)V"⟩ ∈ rTs := kMem 151 rfl
set_option maxRecDepth 100000 in
theorem kw152 : Cond.methodLink "NativeWorks$Instruction" 43 ⟨"java/lang/System", "arraycopy", "(Ljava/lang/Object;ILjava/lang/Object;II)V"⟩ ∈ rTs := kMem 152 rfl
set_option maxRecDepth 100000 in
theorem kw153 : Cond.code ⟨"NativeWorks$Instruction", "ente\x72", "(I)V"⟩ prog_4_method_2_code 8 (Option.none : Option FieldType) ∈ rTs := kMem 153 rfl
set_option maxRecDepth 100000 in
theorem kw154 : Cond.methodLink "NativeWorks$Instruction" 49 ⟨"NativeWorks$Instruction", "ente\x72", "(I)V"⟩ ∈ rTs := kMem 154 rfl
set_option maxRecDepth 100000 in
theorem kw155 : Cond.instanceMethod ⟨"NativeWorks$Instruction", "ente\x72", "(I)V"⟩ ∈ rTs := kMem 155 rfl
set_option maxRecDepth 100000 in
theorem kw156 : Cond.selects "NativeWorks$Instruction" ⟨"NativeWorks$Instruction", "ente\x72", "(I)V"⟩ ⟨"NativeWorks$Instruction", "ente\x72", "(I)V"⟩ ∈ rTs := kMem 156 rfl
set_option maxRecDepth 100000 in
theorem kw157 : Cond.methodLink "NativeWorks$Assemble\x72" 3 ⟨"java/lang/Object", "<init>", "()V"⟩ ∈ rTs := kMem 157 rfl
set_option maxRecDepth 100000 in
theorem kw158 : Cond.classLink "NativeWorks$Assemble\x72" 9 "NativeWorks$Line" ∈ rTs := kMem 158 rfl
set_option maxRecDepth 100000 in
theorem kw159 : Cond.instantiable "NativeWorks$Line" 10 ∈ rTs := kMem 159 rfl
set_option maxRecDepth 100000 in
theorem kw160 : Cond.code ⟨"NativeWorks$Line", "<init>", "()V"⟩ prog_5_method_1_code 1 (Option.none : Option FieldType) ∈ rTs := kMem 160 rfl
set_option maxRecDepth 100000 in
theorem kw161 : Cond.methodLink "NativeWorks$Assemble\x72" 11 ⟨"NativeWorks$Line", "<init>", "()V"⟩ ∈ rTs := kMem 161 rfl
set_option maxRecDepth 100000 in
theorem kw162 : Cond.instanceMethod ⟨"NativeWorks$Line", "<init>", "()V"⟩ ∈ rTs := kMem 162 rfl
set_option maxRecDepth 100000 in
theorem kw163 : Cond.fieldLink "NativeWorks$Assemble\x72" 12 "NativeWorks$Assemble\x72" "line" "LNativeWorks$Line;" ∈ rTs := kMem 163 rfl
set_option maxRecDepth 100000 in
theorem kw164 : Cond.fieldLink "NativeWorks$Assemble\x72" 18 "NativeWorks$Assemble\x72" "units" "LNativeWorks$Units;" ∈ rTs := kMem 164 rfl
set_option maxRecDepth 100000 in
theorem kw165 : Cond.classLink "NativeWorks$Assemble\x72" 22 "NativeWorks$Reade\x72" ∈ rTs := kMem 165 rfl
set_option maxRecDepth 100000 in
theorem kw166 : Cond.instantiable "NativeWorks$Reade\x72" 20 ∈ rTs := kMem 166 rfl
set_option maxRecDepth 100000 in
theorem kw167 : Cond.initialized "NativeWorks$Reade\x72" ∈ rTs := kMem 167 rfl
set_option maxRecDepth 100000 in
theorem kw168 : Cond.classLink "NativeWorks$Assemble\x72" 24 "NativeWorks$Source" ∈ rTs := kMem 168 rfl
set_option maxRecDepth 100000 in
theorem kw169 : Cond.instantiable "NativeWorks$Source" 14 ∈ rTs := kMem 169 rfl
set_option maxRecDepth 100000 in
theorem kw170 : Cond.initialized "NativeWorks$Source" ∈ rTs := kMem 170 rfl
set_option maxRecDepth 100000 in
theorem kw171 : Cond.fieldLink "NativeWorks$Assemble\x72" 26 "NativeWorks$Line" "words" "LNativeWorks$Names;" ∈ rTs := kMem 171 rfl
set_option maxRecDepth 100000 in
theorem kw172 : Cond.code ⟨"NativeWorks$Source", "<init>", "([BLNativeWorks$Names;)V"⟩ prog_11_method_1_code 3 (Option.none : Option FieldType) ∈ rTs := kMem 172 rfl
set_option maxRecDepth 100000 in
theorem kw173 : Cond.methodLink "NativeWorks$Assemble\x72" 30 ⟨"NativeWorks$Source", "<init>", "([BLNativeWorks$Names;)V"⟩ ∈ rTs := kMem 173 rfl
set_option maxRecDepth 100000 in
theorem kw174 : Cond.instanceMethod ⟨"NativeWorks$Source", "<init>", "([BLNativeWorks$Names;)V"⟩ ∈ rTs := kMem 174 rfl
set_option maxRecDepth 100000 in
theorem kw175 : Cond.code ⟨"NativeWorks$Reade\x72", "<init>", "(LNativeWorks$Source;LNativeWorks$Line;)V"⟩ prog_10_method_1_code 3 (Option.none : Option FieldType) ∈ rTs := kMem 175 rfl
set_option maxRecDepth 100000 in
theorem kw176 : Cond.methodLink "NativeWorks$Assemble\x72" 33 ⟨"NativeWorks$Reade\x72", "<init>", "(LNativeWorks$Source;LNativeWorks$Line;)V"⟩ ∈ rTs := kMem 176 rfl
set_option maxRecDepth 100000 in
theorem kw177 : Cond.instanceMethod ⟨"NativeWorks$Reade\x72", "<init>", "(LNativeWorks$Source;LNativeWorks$Line;)V"⟩ ∈ rTs := kMem 177 rfl
set_option maxRecDepth 100000 in
theorem kw178 : Cond.fieldLink "NativeWorks$Assemble\x72" 36 "NativeWorks$Assemble\x72" "reade\x72" "LNativeWorks$Reader;" ∈ rTs := kMem 178 rfl
set_option maxRecDepth 100000 in
theorem kw179 : Cond.classLink "NativeWorks$Assemble\x72" 40 "NativeWorks$Expression" ∈ rTs := kMem 179 rfl
set_option maxRecDepth 100000 in
theorem kw180 : Cond.instantiable "NativeWorks$Expression" 11 ∈ rTs := kMem 180 rfl
set_option maxRecDepth 100000 in
theorem kw181 : Cond.initialized "NativeWorks$Expression" ∈ rTs := kMem 181 rfl
set_option maxRecDepth 100000 in
theorem kw182 : Cond.code ⟨"NativeWorks$Expression", "<init>", "(LNativeWorks$Line;LNativeWorks$Units;)V"⟩ prog_3_method_1_code 3 (Option.none : Option FieldType) ∈ rTs := kMem 182 rfl
set_option maxRecDepth 100000 in
theorem kw183 : Cond.methodLink "NativeWorks$Assemble\x72" 42 ⟨"NativeWorks$Expression", "<init>", "(LNativeWorks$Line;LNativeWorks$Units;)V"⟩ ∈ rTs := kMem 183 rfl
set_option maxRecDepth 100000 in
theorem kw184 : Cond.instanceMethod ⟨"NativeWorks$Expression", "<init>", "(LNativeWorks$Line;LNativeWorks$Units;)V"⟩ ∈ rTs := kMem 184 rfl
set_option maxRecDepth 100000 in
theorem kw185 : Cond.fieldLink "NativeWorks$Assemble\x72" 45 "NativeWorks$Assemble\x72" "expression" "LNativeWorks$Expression;" ∈ rTs := kMem 185 rfl
set_option maxRecDepth 100000 in
theorem kw186 : Cond.classLink "NativeWorks$Assemble\x72" 49 "NativeWorks$Instruction" ∈ rTs := kMem 186 rfl
set_option maxRecDepth 100000 in
theorem kw187 : Cond.instantiable "NativeWorks$Instruction" 21 ∈ rTs := kMem 187 rfl
set_option maxRecDepth 100000 in
theorem kw188 : Cond.code ⟨"NativeWorks$Instruction", "<init>", "()V"⟩ prog_4_method_1_code 6 (Option.none : Option FieldType) ∈ rTs := kMem 188 rfl
set_option maxRecDepth 100000 in
theorem kw189 : Cond.methodLink "NativeWorks$Assemble\x72" 51 ⟨"NativeWorks$Instruction", "<init>", "()V"⟩ ∈ rTs := kMem 189 rfl
set_option maxRecDepth 100000 in
theorem kw190 : Cond.instanceMethod ⟨"NativeWorks$Instruction", "<init>", "()V"⟩ ∈ rTs := kMem 190 rfl
set_option maxRecDepth 100000 in
theorem kw191 : Cond.fieldLink "NativeWorks$Assemble\x72" 52 "NativeWorks$Assemble\x72" "instruction" "LNativeWorks$Instruction;" ∈ rTs := kMem 191 rfl
set_option maxRecDepth 100000 in
theorem kw192 : Cond.fieldLink "NativeWorks$Assemble\x72" 56 "NativeWorks$Assemble\x72" "told" "[I" ∈ rTs := kMem 192 rfl
set_option maxRecDepth 100000 in
theorem kw193 : Cond.methodLink "NativeWorks$Linke\x72" 3 ⟨"java/lang/Object", "<init>", "()V"⟩ ∈ rTs := kMem 193 rfl
set_option maxRecDepth 100000 in
theorem kw194 : Cond.fieldLink "NativeWorks$Linke\x72" 9 "NativeWorks$Linke\x72" "units" "LNativeWorks$Units;" ∈ rTs := kMem 194 rfl
set_option maxRecDepth 100000 in
theorem kw195 : Cond.fieldLink "NativeWorks$Linke\x72" 17 "NativeWorks$Linke\x72" "taken" "[Z" ∈ rTs := kMem 195 rfl
set_option maxRecDepth 100000 in
theorem kw196 : Cond.fieldLink "NativeWorks$Linke\x72" 21 "NativeWorks$Linke\x72" "needed" "[Z" ∈ rTs := kMem 196 rfl
set_option maxRecDepth 100000 in
theorem kw197 : Cond.fieldLink "NativeWorks$Linke\x72" 24 "NativeWorks$Linke\x72" "places" "[I" ∈ rTs := kMem 197 rfl
set_option maxRecDepth 100000 in
theorem kw198 : Cond.fieldLink "NativeWorks$Linke\x72" 28 "NativeWorks$Linke\x72" "stands" "[I" ∈ rTs := kMem 198 rfl
set_option maxRecDepth 100000 in
theorem kw199 : Cond.fieldLink "NativeWorks$Linke\x72" 31 "NativeWorks$Linke\x72" "from" "[I" ∈ rTs := kMem 199 rfl
set_option maxRecDepth 100000 in
theorem kw200 : Cond.fieldLink "NativeWorks$Linke\x72" 34 "NativeWorks$Linke\x72" "to" "[I" ∈ rTs := kMem 200 rfl
set_option maxRecDepth 100000 in
theorem kw201 : Cond.constant "NativeWorks$Linke\x72" 37 (nI 131072) ∈ rTs := kMem 201 (by decide +kernel)
set_option maxRecDepth 100000 in
theorem kw202 : Cond.fieldLink "NativeWorks$Linke\x72" 38 "NativeWorks$Linke\x72" "bytes" "[B" ∈ rTs := kMem 202 rfl
set_option maxRecDepth 100000 in
theorem kw203 : Cond.fieldLink "NativeWorks$Linke\x72" 42 "NativeWorks$Linke\x72" "origins" "[I" ∈ rTs := kMem 203 rfl
set_option maxRecDepth 100000 in
theorem kw204 : Cond.classLink "NativeWorks$Linke\x72" 45 "NativeWorks$Names" ∈ rTs := kMem 204 rfl
set_option maxRecDepth 100000 in
theorem kw205 : Cond.constant "NativeWorks$Linke\x72" 47 (nI 129024) ∈ rTs := kMem 205 (by decide +kernel)
set_option maxRecDepth 100000 in
theorem kw206 : Cond.methodLink "NativeWorks$Linke\x72" 48 ⟨"NativeWorks$Names", "<init>", "(II)V"⟩ ∈ rTs := kMem 206 rfl
set_option maxRecDepth 100000 in
theorem kw207 : Cond.fieldLink "NativeWorks$Linke\x72" 51 "NativeWorks$Linke\x72" "names" "LNativeWorks$Names;" ∈ rTs := kMem 207 rfl
set_option maxRecDepth 100000 in
theorem kw208 : Cond.fieldLink "NativeWorks$Linke\x72" 55 "NativeWorks$Linke\x72" "addresses" "[J" ∈ rTs := kMem 208 rfl
set_option maxRecDepth 100000 in
theorem kw209 : Cond.methodLink "NativeWorks$Linke\x72" 59 ⟨"java/util/Arrays", "fill", "([II)V"⟩ ∈ rTs := kMem 209 rfl
set_option maxRecDepth 100000 in
theorem kw210 : Cond.methodLink "NativeWorks$Memory" 3 ⟨"java/lang/Object", "<init>", "()V"⟩ ∈ rTs := kMem 210 rfl
set_option maxRecDepth 100000 in
theorem kw211 : Cond.constant "NativeWorks$Memory" 13 (nI 196608) ∈ rTs := kMem 211 (by decide +kernel)
set_option maxRecDepth 100000 in
theorem kw212 : Cond.fieldLink "NativeWorks$Memory" 14 "NativeWorks$Memory" "low" "[B" ∈ rTs := kMem 212 rfl
set_option maxRecDepth 100000 in
theorem kw213 : Cond.constant "NativeWorks$Memory" 18 (nI 65536) ∈ rTs := kMem 213 (by decide +kernel)
set_option maxRecDepth 100000 in
theorem kw214 : Cond.fieldLink "NativeWorks$Memory" 19 "NativeWorks$Memory" "stack" "[B" ∈ rTs := kMem 214 rfl
set_option maxRecDepth 100000 in
theorem kw215 : Cond.constant "NativeWorks$Memory" 22 (nI 131072) ∈ rTs := kMem 215 (by decide +kernel)
set_option maxRecDepth 100000 in
theorem kw216 : Cond.fieldLink "NativeWorks$Memory" 23 "NativeWorks$Memory" "begins" "[Z" ∈ rTs := kMem 216 rfl
set_option maxRecDepth 100000 in
theorem kw217 : Cond.fieldLink "NativeWorks$Memory" 27 "NativeWorks$Memory" "loaded" "Z" ∈ rTs := kMem 217 rfl
set_option maxRecDepth 100000 in
theorem kw218 : Cond.constantLong "NativeWorks$Memory" 31 (lN 4194304) ∈ rTs := kMem 218 (by decide +kernel)
set_option maxRecDepth 100000 in
theorem kw219 : Cond.fieldLink "NativeWorks$Memory" 33 "NativeWorks$Memory" "heap" "J" ∈ rTs := kMem 219 rfl
set_option maxRecDepth 100000 in
theorem kw220 : Cond.fieldLink "NativeWorks$Memory" 37 "NativeWorks$Memory" "end" "J" ∈ rTs := kMem 220 rfl
set_option maxRecDepth 100000 in
theorem kw221 : Cond.methodLink "NativeWorks$Machine" 3 ⟨"java/lang/Object", "<init>", "()V"⟩ ∈ rTs := kMem 221 rfl
set_option maxRecDepth 100000 in
theorem kw222 : Cond.classLink "NativeWorks$Machine" 9 "NativeWorks$Memory" ∈ rTs := kMem 222 rfl
set_option maxRecDepth 100000 in
theorem kw223 : Cond.instantiable "NativeWorks$Memory" 12 ∈ rTs := kMem 223 rfl
set_option maxRecDepth 100000 in
theorem kw224 : Cond.initialized "NativeWorks$Memory" ∈ rTs := kMem 224 rfl
set_option maxRecDepth 100000 in
theorem kw225 : Cond.code ⟨"NativeWorks$Memory", "<init>", "()V"⟩ prog_8_method_1_code 1 (Option.none : Option FieldType) ∈ rTs := kMem 225 rfl
set_option maxRecDepth 100000 in
theorem kw226 : Cond.methodLink "NativeWorks$Machine" 11 ⟨"NativeWorks$Memory", "<init>", "()V"⟩ ∈ rTs := kMem 226 rfl
set_option maxRecDepth 100000 in
theorem kw227 : Cond.instanceMethod ⟨"NativeWorks$Memory", "<init>", "()V"⟩ ∈ rTs := kMem 227 rfl
set_option maxRecDepth 100000 in
theorem kw228 : Cond.fieldLink "NativeWorks$Machine" 12 "NativeWorks$Machine" "memory" "LNativeWorks$Memory;" ∈ rTs := kMem 228 rfl
set_option maxRecDepth 100000 in
theorem kw229 : Cond.classLink "NativeWorks$Machine" 18 "NativeWorks$Instruction" ∈ rTs := kMem 229 rfl
set_option maxRecDepth 100000 in
theorem kw230 : Cond.methodLink "NativeWorks$Machine" 20 ⟨"NativeWorks$Instruction", "<init>", "()V"⟩ ∈ rTs := kMem 230 rfl
set_option maxRecDepth 100000 in
theorem kw231 : Cond.fieldLink "NativeWorks$Machine" 21 "NativeWorks$Machine" "it" "LNativeWorks$Instruction;" ∈ rTs := kMem 231 rfl
set_option maxRecDepth 100000 in
theorem kw232 : Cond.fieldLink "NativeWorks$Machine" 25 "NativeWorks$Machine" "\x72" "[J" ∈ rTs := kMem 232 rfl
set_option maxRecDepth 100000 in
theorem kw233 : Cond.constant "NativeWorks$Machine" 29 (nI 65536) ∈ rTs := kMem 233 (by decide +kernel)
set_option maxRecDepth 100000 in
theorem kw234 : Cond.fieldLink "NativeWorks$Machine" 30 "NativeWorks$Machine" "input" "[B" ∈ rTs := kMem 234 rfl
set_option maxRecDepth 100000 in
theorem kw235 : Cond.fieldLink "NativeWorks$Machine" 34 "NativeWorks$Machine" "output" "[B" ∈ rTs := kMem 235 rfl
set_option maxRecDepth 100000 in
theorem kw236 : Cond.fieldLink "NativeWorks$Machine" 37 "NativeWorks$Machine" "stops" "[J" ∈ rTs := kMem 236 rfl
set_option maxRecDepth 100000 in
theorem kw237 : Cond.methodLink "NativeWorks" 1 ⟨"java/lang/Object", "<init>", "()V"⟩ ∈ rTs := kMem 237 rfl
set_option maxRecDepth 100000 in
theorem kw238 : Cond.constant "NativeWorks" 9 (nI 65536) ∈ rTs := kMem 238 (by decide +kernel)
set_option maxRecDepth 100000 in
theorem kw239 : Cond.classLink "NativeWorks" 10 "NativeWorks$Units" ∈ rTs := kMem 239 rfl
set_option maxRecDepth 100000 in
theorem kw240 : Cond.instantiable "NativeWorks$Units" 19 ∈ rTs := kMem 240 rfl
set_option maxRecDepth 100000 in
theorem kw241 : Cond.initialized "NativeWorks$Units" ∈ rTs := kMem 241 rfl
set_option maxRecDepth 100000 in
theorem kw242 : Cond.code ⟨"NativeWorks$Units", "<init>", "()V"⟩ prog_12_method_1_code 1 (Option.none : Option FieldType) ∈ rTs := kMem 242 rfl
set_option maxRecDepth 100000 in
theorem kw243 : Cond.methodLink "NativeWorks" 12 ⟨"NativeWorks$Units", "<init>", "()V"⟩ ∈ rTs := kMem 243 rfl
set_option maxRecDepth 100000 in
theorem kw244 : Cond.instanceMethod ⟨"NativeWorks$Units", "<init>", "()V"⟩ ∈ rTs := kMem 244 rfl
set_option maxRecDepth 100000 in
theorem kw245 : Cond.fieldLink "NativeWorks" 13 "NativeWorks" "tape" "[B" ∈ rTs := kMem 245 rfl
set_option maxRecDepth 100000 in
theorem kw246 : Cond.fieldLink "NativeWorks" 17 "NativeWorks" "units" "LNativeWorks$Units;" ∈ rTs := kMem 246 rfl
set_option maxRecDepth 100000 in
theorem kw247 : Cond.classLink "NativeWorks" 21 "NativeWorks$Assemble\x72" ∈ rTs := kMem 247 rfl
set_option maxRecDepth 100000 in
theorem kw248 : Cond.instantiable "NativeWorks$Assemble\x72" 15 ∈ rTs := kMem 248 rfl
set_option maxRecDepth 100000 in
theorem kw249 : Cond.initialized "NativeWorks$Assemble\x72" ∈ rTs := kMem 249 rfl
set_option maxRecDepth 100000 in
theorem kw250 : Cond.code ⟨"NativeWorks$Assemble\x72", "<init>", "([BLNativeWorks$Units;)V"⟩ prog_2_method_1_code 4 (Option.none : Option FieldType) ∈ rTs := kMem 250 rfl
set_option maxRecDepth 100000 in
theorem kw251 : Cond.methodLink "NativeWorks" 23 ⟨"NativeWorks$Assemble\x72", "<init>", "([BLNativeWorks$Units;)V"⟩ ∈ rTs := kMem 251 rfl
set_option maxRecDepth 100000 in
theorem kw252 : Cond.instanceMethod ⟨"NativeWorks$Assemble\x72", "<init>", "([BLNativeWorks$Units;)V"⟩ ∈ rTs := kMem 252 rfl
set_option maxRecDepth 100000 in
theorem kw253 : Cond.fieldLink "NativeWorks" 26 "NativeWorks" "assemble\x72" "LNativeWorks$Assembler;" ∈ rTs := kMem 253 rfl
set_option maxRecDepth 100000 in
theorem kw254 : Cond.classLink "NativeWorks" 30 "NativeWorks$Linke\x72" ∈ rTs := kMem 254 rfl
set_option maxRecDepth 100000 in
theorem kw255 : Cond.instantiable "NativeWorks$Linke\x72" 18 ∈ rTs := kMem 255 rfl
set_option maxRecDepth 100000 in
theorem kw256 : Cond.initialized "NativeWorks$Linke\x72" ∈ rTs := kMem 256 rfl
set_option maxRecDepth 100000 in
theorem kw257 : Cond.code ⟨"NativeWorks$Linke\x72", "<init>", "(LNativeWorks$Units;)V"⟩ prog_6_method_1_code 2 (Option.none : Option FieldType) ∈ rTs := kMem 257 rfl
set_option maxRecDepth 100000 in
theorem kw258 : Cond.methodLink "NativeWorks" 32 ⟨"NativeWorks$Linke\x72", "<init>", "(LNativeWorks$Units;)V"⟩ ∈ rTs := kMem 258 rfl
set_option maxRecDepth 100000 in
theorem kw259 : Cond.instanceMethod ⟨"NativeWorks$Linke\x72", "<init>", "(LNativeWorks$Units;)V"⟩ ∈ rTs := kMem 259 rfl
set_option maxRecDepth 100000 in
theorem kw260 : Cond.fieldLink "NativeWorks" 35 "NativeWorks" "linke\x72" "LNativeWorks$Linker;" ∈ rTs := kMem 260 rfl
set_option maxRecDepth 100000 in
theorem kw261 : Cond.classLink "NativeWorks" 39 "NativeWorks$Machine" ∈ rTs := kMem 261 rfl
set_option maxRecDepth 100000 in
theorem kw262 : Cond.instantiable "NativeWorks$Machine" 17 ∈ rTs := kMem 262 rfl
set_option maxRecDepth 100000 in
theorem kw263 : Cond.initialized "NativeWorks$Machine" ∈ rTs := kMem 263 rfl
set_option maxRecDepth 100000 in
theorem kw264 : Cond.code ⟨"NativeWorks$Machine", "<init>", "()V"⟩ prog_7_method_1_code 1 (Option.none : Option FieldType) ∈ rTs := kMem 264 rfl
set_option maxRecDepth 100000 in
theorem kw265 : Cond.methodLink "NativeWorks" 41 ⟨"NativeWorks$Machine", "<init>", "()V"⟩ ∈ rTs := kMem 265 rfl
set_option maxRecDepth 100000 in
theorem kw266 : Cond.instanceMethod ⟨"NativeWorks$Machine", "<init>", "()V"⟩ ∈ rTs := kMem 266 rfl
set_option maxRecDepth 100000 in
theorem kw267 : Cond.fieldLink "NativeWorks" 42 "NativeWorks" "machine" "LNativeWorks$Machine;" ∈ rTs := kMem 267 rfl
set_option maxRecDepth 100000 in
theorem kw268 : Cond.fieldLink "NativeWorks" 46 "NativeWorks" "fed" "I" ∈ rTs := kMem 268 rfl
set_option maxRecDepth 100000 in
theorem kw269 : Cond.fieldLink "NativeWorks" 50 "NativeWorks" "faultKind" "I" ∈ rTs := kMem 269 rfl
set_option maxRecDepth 100000 in
theorem kw270 : Cond.fieldLink "NativeWorks" 53 "NativeWorks" "faultLine" "I" ∈ rTs := kMem 270 rfl
set_option maxRecDepth 100000 in
theorem kw271 : Cond.fieldLink "NativeWorks" 56 "NativeWorks" "faultUnit" "I" ∈ rTs := kMem 271 rfl
set_option maxRecDepth 100000 in
theorem kw272 : Cond.methodLink "NativeWorksModel$Code" 3 ⟨"java/lang/Object", "<init>", "()V"⟩ ∈ rTs := kMem 272 rfl
set_option maxRecDepth 100000 in
theorem kw273 : Cond.fieldLink "NativeWorksModel$Code" 9 "NativeWorksModel$Code" "address" "[I" ∈ rTs := kMem 273 rfl
set_option maxRecDepth 100000 in
theorem kw274 : Cond.fieldLink "NativeWorksModel$Code" 15 "NativeWorksModel$Code" "where" "[I" ∈ rTs := kMem 274 rfl
set_option maxRecDepth 100000 in
theorem kw275 : Cond.fieldLink "NativeWorksModel$Code" 18 "NativeWorksModel$Code" "shape" "[J" ∈ rTs := kMem 275 rfl
set_option maxRecDepth 100000 in
theorem kw276 : Cond.fieldLink "NativeWorksModel$Code" 22 "NativeWorksModel$Code" "displacement" "[J" ∈ rTs := kMem 276 rfl
set_option maxRecDepth 100000 in
theorem kw277 : Cond.fieldLink "NativeWorksModel$Code" 25 "NativeWorksModel$Code" "numbe\x72" "[J" ∈ rTs := kMem 277 rfl
set_option maxRecDepth 100000 in
theorem kw278 : Cond.code ⟨"jdk/internal/util/Preconditions", "checkFromToIndex", "(IIILjava/util/function/BiFunction;)I"⟩ prog_41_method_12_code 4 (Option.some FieldType.int) ∈ rTs := kMem 278 rfl
set_option maxRecDepth 100000 in
theorem kw279 : Cond.methodLink "java/lang/String" 1062 ⟨"jdk/internal/util/Preconditions", "checkFromToIndex", "(IIILjava/util/function/BiFunction;)I"⟩ ∈ rTs := kMem 279 rfl
set_option maxRecDepth 100000 in
theorem kw280 : Cond.static ⟨"jdk/internal/util/Preconditions", "checkFromToIndex", "(IIILjava/util/function/BiFunction;)I"⟩ ∈ rTs := kMem 280 rfl
set_option maxRecDepth 100000 in
theorem kw281 : Cond.code ⟨"java/util/Arrays", "checkLength", "(II)V"⟩ prog_38_method_131_code 2 (Option.none : Option FieldType) ∈ rTs := kMem 281 rfl
set_option maxRecDepth 100000 in
theorem kw282 : Cond.methodLink "java/util/Arrays" 343 ⟨"java/util/Arrays", "checkLength", "(II)V"⟩ ∈ rTs := kMem 282 rfl
set_option maxRecDepth 100000 in
theorem kw283 : Cond.static ⟨"java/util/Arrays", "checkLength", "(II)V"⟩ ∈ rTs := kMem 283 rfl
set_option maxRecDepth 100000 in
theorem kw284 : Cond.code ⟨"java/lang/Math", "min", "(II)I"⟩ prog_27_method_69_code 2 (Option.some FieldType.int) ∈ rTs := kMem 284 rfl
set_option maxRecDepth 100000 in
theorem kw285 : Cond.methodLink "java/util/Arrays" 304 ⟨"java/lang/Math", "min", "(II)I"⟩ ∈ rTs := kMem 285 rfl
set_option maxRecDepth 100000 in
theorem kw286 : Cond.static ⟨"java/lang/Math", "min", "(II)I"⟩ ∈ rTs := kMem 286 rfl
set_option maxRecDepth 100000 in
theorem kw287 : Cond.initialized "java/lang/Math" ∈ rTs := kMem 287 rfl
set_option maxRecDepth 100000 in
theorem kw288 : Cond.methodLink "java/util/Arrays" 150 ⟨"java/lang/System", "arraycopy", "(Ljava/lang/Object;ILjava/lang/Object;II)V"⟩ ∈ rTs := kMem 288 rfl
set_option maxRecDepth 100000 in
theorem kw289 : Cond.code ⟨"java/util/Arrays", "copyOfRangeByte", "([BII)[B"⟩ prog_38_method_133_code 5 (Option.some (FieldType.array FieldType.byte)) ∈ rTs := kMem 289 rfl
set_option maxRecDepth 100000 in
theorem kw290 : Cond.methodLink "java/util/Arrays" 339 ⟨"java/util/Arrays", "copyOfRangeByte", "([BII)[B"⟩ ∈ rTs := kMem 290 rfl
set_option maxRecDepth 100000 in
theorem kw291 : Cond.static ⟨"java/util/Arrays", "copyOfRangeByte", "([BII)[B"⟩ ∈ rTs := kMem 291 rfl
set_option maxRecDepth 100000 in
theorem kw292 : Cond.methodLink "java/lang/String" 1 ⟨"java/lang/Object", "<init>", "()V"⟩ ∈ rTs := kMem 292 rfl
set_option maxRecDepth 100000 in
theorem kw293 : Cond.classLink "java/lang/StringLatin1" 1 "java/lang/String" ∈ rTs := kMem 293 rfl
set_option maxRecDepth 100000 in
theorem kw294 : Cond.instantiable "java/lang/String" 4 ∈ rTs := kMem 294 rfl
set_option maxRecDepth 100000 in
theorem kw295 : Cond.code ⟨"java/util/Arrays", "copyOfRange", "([BII)[B"⟩ prog_38_method_132_code 3 (Option.some (FieldType.array FieldType.byte)) ∈ rTs := kMem 295 rfl
set_option maxRecDepth 100000 in
theorem kw296 : Cond.methodLink "java/lang/StringLatin1" 232 ⟨"java/util/Arrays", "copyOfRange", "([BII)[B"⟩ ∈ rTs := kMem 296 rfl
set_option maxRecDepth 100000 in
theorem kw297 : Cond.static ⟨"java/util/Arrays", "copyOfRange", "([BII)[B"⟩ ∈ rTs := kMem 297 rfl
set_option maxRecDepth 100000 in
theorem kw298 : Cond.code ⟨"java/lang/String", "<init>", "([BB)V"⟩ prog_30_method_151_code 3 (Option.none : Option FieldType) ∈ rTs := kMem 298 rfl
set_option maxRecDepth 100000 in
theorem kw299 : Cond.methodLink "java/lang/StringLatin1" 112 ⟨"java/lang/String", "<init>", "([BB)V"⟩ ∈ rTs := kMem 299 rfl
set_option maxRecDepth 100000 in
theorem kw300 : Cond.instanceMethod ⟨"java/lang/String", "<init>", "([BB)V"⟩ ∈ rTs := kMem 300 rfl
set_option maxRecDepth 100000 in
theorem kw301 : Cond.methodLink "java/lang/String" 505 ⟨"java/lang/String", "length", "()I"⟩ ∈ rTs := kMem 301 rfl
set_option maxRecDepth 100000 in
theorem kw302 : Cond.code ⟨"java/lang/String", "checkBoundsBeginEnd", "(III)V"⟩ prog_30_method_158_code 3 (Option.none : Option FieldType) ∈ rTs := kMem 302 rfl
set_option maxRecDepth 100000 in
theorem kw303 : Cond.methodLink "java/lang/String" 521 ⟨"java/lang/String", "checkBoundsBeginEnd", "(III)V"⟩ ∈ rTs := kMem 303 rfl
set_option maxRecDepth 100000 in
theorem kw304 : Cond.static ⟨"java/lang/String", "checkBoundsBeginEnd", "(III)V"⟩ ∈ rTs := kMem 304 rfl
set_option maxRecDepth 100000 in
theorem kw305 : Cond.code ⟨"java/lang/StringLatin1", "newString", "([BII)Ljava/lang/String;"⟩ prog_32_method_47_code 3 (Option.some (FieldType.object "java/lang/String")) ∈ rTs := kMem 305 rfl
set_option maxRecDepth 100000 in
theorem kw306 : Cond.methodLink "java/lang/String" 685 ⟨"java/lang/StringLatin1", "newString", "([BII)Ljava/lang/String;"⟩ ∈ rTs := kMem 306 rfl
set_option maxRecDepth 100000 in
theorem kw307 : Cond.static ⟨"java/lang/StringLatin1", "newString", "([BII)Ljava/lang/String;"⟩ ∈ rTs := kMem 307 rfl
set_option maxRecDepth 100000 in
theorem kw308 : Cond.methodLink "NativeWorksModel" 469 ⟨"java/lang/String", "length", "()I"⟩ ∈ rTs := kMem 308 rfl
set_option maxRecDepth 100000 in
theorem kw309 : Cond.methodLink "NativeWorksModel" 475 ⟨"java/lang/String", "charAt", "(I)C"⟩ ∈ rTs := kMem 309 rfl
set_option maxRecDepth 100000 in
theorem kw310 : Cond.fieldLink "NativeWorksModel" 14 "NativeWorksModel" "wordName" "[J" ∈ rTs := kMem 310 rfl
set_option maxRecDepth 100000 in
theorem kw311 : Cond.fieldLink "NativeWorksModel" 483 "NativeWorksModel" "words" "I" ∈ rTs := kMem 311 rfl
set_option maxRecDepth 100000 in
theorem kw312 : Cond.code ⟨"NativeWorksModel", "pack", "(Ljava/lang/String;)J"⟩ prog_14_method_2_code 4 (Option.some FieldType.long) ∈ rTs := kMem 312 rfl
set_option maxRecDepth 100000 in
theorem kw313 : Cond.methodLink "NativeWorksModel" 419 ⟨"NativeWorksModel", "pack", "(Ljava/lang/String;)J"⟩ ∈ rTs := kMem 313 rfl
set_option maxRecDepth 100000 in
theorem kw314 : Cond.static ⟨"NativeWorksModel", "pack", "(Ljava/lang/String;)J"⟩ ∈ rTs := kMem 314 rfl
set_option maxRecDepth 100000 in
theorem kw315 : Cond.initialized "NativeWorksModel" ∈ rTs := kMem 315 rfl
set_option maxRecDepth 100000 in
theorem kw316 : Cond.fieldLink "NativeWorksModel" 21 "NativeWorksModel" "wordCode" "[I" ∈ rTs := kMem 316 rfl
set_option maxRecDepth 100000 in
theorem kw317 : Cond.code ⟨"java/lang/String", "substring", "(II)Ljava/lang/String;"⟩ prog_30_method_92_code 5 (Option.some (FieldType.object "java/lang/String")) ∈ rTs := kMem 317 rfl
set_option maxRecDepth 100000 in
theorem kw318 : Cond.methodLink "NativeWorksModel" 479 ⟨"java/lang/String", "substring", "(II)Ljava/lang/String;"⟩ ∈ rTs := kMem 318 rfl
set_option maxRecDepth 100000 in
theorem kw319 : Cond.instanceMethod ⟨"java/lang/String", "substring", "(II)Ljava/lang/String;"⟩ ∈ rTs := kMem 319 rfl
set_option maxRecDepth 100000 in
theorem kw320 : Cond.selects "java/lang/String" ⟨"java/lang/String", "substring", "(II)Ljava/lang/String;"⟩ ⟨"java/lang/String", "substring", "(II)Ljava/lang/String;"⟩ ∈ rTs := kMem 320 rfl
set_option maxRecDepth 100000 in
theorem kw321 : Cond.code ⟨"NativeWorksModel", "word", "(Ljava/lang/String;I)V"⟩ prog_14_method_4_code 3 (Option.none : Option FieldType) ∈ rTs := kMem 321 rfl
set_option maxRecDepth 100000 in
theorem kw322 : Cond.methodLink "NativeWorksModel" 370 ⟨"NativeWorksModel", "word", "(Ljava/lang/String;I)V"⟩ ∈ rTs := kMem 322 rfl
set_option maxRecDepth 100000 in
theorem kw323 : Cond.instanceMethod ⟨"NativeWorksModel", "word", "(Ljava/lang/String;I)V"⟩ ∈ rTs := kMem 323 rfl
set_option maxRecDepth 100000 in
theorem kw324 : Cond.selects "NativeWorksModel" ⟨"NativeWorksModel", "word", "(Ljava/lang/String;I)V"⟩ ⟨"NativeWorksModel", "word", "(Ljava/lang/String;I)V"⟩ ∈ rTs := kMem 324 rfl
set_option maxRecDepth 100000 in
theorem kw325 : Cond.methodLink "java/lang/AbstractStringBuilde\x72" 3 ⟨"java/lang/Object", "<init>", "()V"⟩ ∈ rTs := kMem 325 rfl
set_option maxRecDepth 100000 in
theorem kw326 : Cond.fieldLink "java/lang/AbstractStringBuilde\x72" 18 "java/lang/String" "COMPACT_STRINGS" "Z" ∈ rTs := kMem 326 rfl
set_option maxRecDepth 100000 in
theorem kw327 : Cond.fieldLink "java/lang/AbstractStringBuilde\x72" 15 "java/lang/AbstractStringBuilde\x72" "value" "[B" ∈ rTs := kMem 327 rfl
set_option maxRecDepth 100000 in
theorem kw328 : Cond.fieldLink "java/lang/AbstractStringBuilde\x72" 22 "java/lang/AbstractStringBuilde\x72" "code\x72" "B" ∈ rTs := kMem 328 rfl
set_option maxRecDepth 100000 in
theorem kw329 : Cond.code ⟨"java/lang/AbstractStringBuilde\x72", "<init>", "(I)V"⟩ prog_17_method_2_code 2 (Option.none : Option FieldType) ∈ rTs := kMem 329 rfl
set_option maxRecDepth 100000 in
theorem kw330 : Cond.methodLink "java/lang/StringBuilde\x72" 1 ⟨"java/lang/AbstractStringBuilde\x72", "<init>", "(I)V"⟩ ∈ rTs := kMem 330 rfl
set_option maxRecDepth 100000 in
theorem kw331 : Cond.instanceMethod ⟨"java/lang/AbstractStringBuilde\x72", "<init>", "(I)V"⟩ ∈ rTs := kMem 331 rfl
set_option maxRecDepth 100000 in
theorem kw332 : Cond.initialized "java/lang/AbstractStringBuilde\x72" ∈ rTs := kMem 332 rfl
set_option maxRecDepth 100000 in
theorem kw333 : Cond.methodLink "java/lang/AbstractStringBuilde\x72" 40 ⟨"java/lang/String", "code\x72", "()B"⟩ ∈ rTs := kMem 333 rfl
set_option maxRecDepth 100000 in
theorem kw334 : Cond.methodLink "java/lang/String" 212 ⟨"java/lang/System", "arraycopy", "(Ljava/lang/Object;ILjava/lang/Object;II)V"⟩ ∈ rTs := kMem 334 rfl
set_option maxRecDepth 100000 in
theorem kw335 : Cond.code ⟨"java/lang/AbstractStringBuilde\x72", "inflateIfNeededFo\x72", "(Ljava/lang/String;)V"⟩ prog_17_method_71_code 2 (Option.none : Option FieldType) ∈ rTs := kMem 335 rfl
set_option maxRecDepth 100000 in
theorem kw336 : Cond.methodLink "java/lang/AbstractStringBuilde\x72" 397 ⟨"java/lang/AbstractStringBuilde\x72", "inflateIfNeededFo\x72", "(Ljava/lang/String;)V"⟩ ∈ rTs := kMem 336 rfl
set_option maxRecDepth 100000 in
theorem kw337 : Cond.sameMethod "java/lang/AbstractStringBuilde\x72" "java/lang/AbstractStringBuilde\x72" "inflateIfNeededFo\x72" "(Ljava/lang/String;)V" ∈ rTs := kMem 337 rfl
set_option maxRecDepth 100000 in
theorem kw338 : Cond.selects "java/lang/StringBuilde\x72" ⟨"java/lang/AbstractStringBuilde\x72", "inflateIfNeededFo\x72", "(Ljava/lang/String;)V"⟩ ⟨"java/lang/AbstractStringBuilde\x72", "inflateIfNeededFo\x72", "(Ljava/lang/String;)V"⟩ ∈ rTs := kMem 338 rfl
set_option maxRecDepth 100000 in
theorem kw339 : Cond.instanceMethod ⟨"java/lang/AbstractStringBuilde\x72", "inflateIfNeededFo\x72", "(Ljava/lang/String;)V"⟩ ∈ rTs := kMem 339 rfl
set_option maxRecDepth 100000 in
theorem kw340 : Cond.code ⟨"java/lang/String", "getBytes", "([BIB)V"⟩ prog_30_method_147_code 4 (Option.none : Option FieldType) ∈ rTs := kMem 340 rfl
set_option maxRecDepth 100000 in
theorem kw341 : Cond.methodLink "java/lang/AbstractStringBuilde\x72" 399 ⟨"java/lang/String", "getBytes", "([BIB)V"⟩ ∈ rTs := kMem 341 rfl
set_option maxRecDepth 100000 in
theorem kw342 : Cond.instanceMethod ⟨"java/lang/String", "getBytes", "([BIB)V"⟩ ∈ rTs := kMem 342 rfl
set_option maxRecDepth 100000 in
theorem kw343 : Cond.selects "java/lang/String" ⟨"java/lang/String", "getBytes", "([BIB)V"⟩ ⟨"java/lang/String", "getBytes", "([BIB)V"⟩ ∈ rTs := kMem 343 rfl
set_option maxRecDepth 100000 in
theorem kw344 : Cond.methodLink "java/lang/AbstractStringBuilde\x72" 32 ⟨"java/lang/String", "length", "()I"⟩ ∈ rTs := kMem 344 rfl
set_option maxRecDepth 100000 in
theorem kw345 : Cond.fieldLink "java/lang/AbstractStringBuilde\x72" 79 "java/lang/AbstractStringBuilde\x72" "count" "I" ∈ rTs := kMem 345 rfl
set_option maxRecDepth 100000 in
theorem kw346 : Cond.code ⟨"java/lang/AbstractStringBuilde\x72", "ensureCapacityInternal", "(I)V"⟩ prog_17_method_9_code 3 (Option.none : Option FieldType) ∈ rTs := kMem 346 rfl
set_option maxRecDepth 100000 in
theorem kw347 : Cond.methodLink "java/lang/AbstractStringBuilde\x72" 100 ⟨"java/lang/AbstractStringBuilde\x72", "ensureCapacityInternal", "(I)V"⟩ ∈ rTs := kMem 347 rfl
set_option maxRecDepth 100000 in
theorem kw348 : Cond.sameMethod "java/lang/AbstractStringBuilde\x72" "java/lang/AbstractStringBuilde\x72" "ensureCapacityInternal" "(I)V" ∈ rTs := kMem 348 rfl
set_option maxRecDepth 100000 in
theorem kw349 : Cond.selects "java/lang/StringBuilde\x72" ⟨"java/lang/AbstractStringBuilde\x72", "ensureCapacityInternal", "(I)V"⟩ ⟨"java/lang/AbstractStringBuilde\x72", "ensureCapacityInternal", "(I)V"⟩ ∈ rTs := kMem 349 rfl
set_option maxRecDepth 100000 in
theorem kw350 : Cond.instanceMethod ⟨"java/lang/AbstractStringBuilde\x72", "ensureCapacityInternal", "(I)V"⟩ ∈ rTs := kMem 350 rfl
set_option maxRecDepth 100000 in
theorem kw351 : Cond.code ⟨"java/lang/AbstractStringBuilde\x72", "putStringAt", "(ILjava/lang/String;)V"⟩ prog_17_method_73_code 3 (Option.none : Option FieldType) ∈ rTs := kMem 351 rfl
set_option maxRecDepth 100000 in
theorem kw352 : Cond.methodLink "java/lang/AbstractStringBuilde\x72" 208 ⟨"java/lang/AbstractStringBuilde\x72", "putStringAt", "(ILjava/lang/String;)V"⟩ ∈ rTs := kMem 352 rfl
set_option maxRecDepth 100000 in
theorem kw353 : Cond.sameMethod "java/lang/AbstractStringBuilde\x72" "java/lang/AbstractStringBuilde\x72" "putStringAt" "(ILjava/lang/String;)V" ∈ rTs := kMem 353 rfl
set_option maxRecDepth 100000 in
theorem kw354 : Cond.selects "java/lang/StringBuilde\x72" ⟨"java/lang/AbstractStringBuilde\x72", "putStringAt", "(ILjava/lang/String;)V"⟩ ⟨"java/lang/AbstractStringBuilde\x72", "putStringAt", "(ILjava/lang/String;)V"⟩ ∈ rTs := kMem 354 rfl
set_option maxRecDepth 100000 in
theorem kw355 : Cond.instanceMethod ⟨"java/lang/AbstractStringBuilde\x72", "putStringAt", "(ILjava/lang/String;)V"⟩ ∈ rTs := kMem 355 rfl
set_option maxRecDepth 100000 in
theorem kw356 : Cond.code ⟨"java/lang/AbstractStringBuilde\x72", "append", "(Ljava/lang/String;)Ljava/lang/AbstractStringBuilder;"⟩ prog_17_method_22_code 3 (Option.some (FieldType.object "java/lang/AbstractStringBuilde\x72")) ∈ rTs := kMem 356 rfl
set_option maxRecDepth 100000 in
theorem kw357 : Cond.methodLink "java/lang/StringBuilde\x72" 29 ⟨"java/lang/AbstractStringBuilde\x72", "append", "(Ljava/lang/String;)Ljava/lang/AbstractStringBuilder;"⟩ ∈ rTs := kMem 357 rfl
set_option maxRecDepth 100000 in
theorem kw358 : Cond.sameMethod "java/lang/AbstractStringBuilde\x72" "java/lang/AbstractStringBuilde\x72" "append" "(Ljava/lang/String;)Ljava/lang/AbstractStringBuilder;" ∈ rTs := kMem 358 rfl
set_option maxRecDepth 100000 in
theorem kw359 : Cond.superclass "java/lang/StringBuilde\x72" "java/lang/AbstractStringBuilde\x72" ∈ rTs := kMem 359 rfl
set_option maxRecDepth 100000 in
theorem kw360 : Cond.instanceMethod ⟨"java/lang/AbstractStringBuilde\x72", "append", "(Ljava/lang/String;)Ljava/lang/AbstractStringBuilder;"⟩ ∈ rTs := kMem 360 rfl
set_option maxRecDepth 100000 in
theorem kw361 : Cond.code ⟨"java/lang/AbstractStringBuilde\x72", "length", "()I"⟩ prog_17_method_6_code 1 (Option.some FieldType.int) ∈ rTs := kMem 361 rfl
set_option maxRecDepth 100000 in
theorem kw362 : Cond.methodLink "java/lang/StringBuilde\x72" 343 ⟨"java/lang/AbstractStringBuilde\x72", "length", "()I"⟩ ∈ rTs := kMem 362 rfl
set_option maxRecDepth 100000 in
theorem kw363 : Cond.sameMethod "java/lang/AbstractStringBuilde\x72" "java/lang/AbstractStringBuilde\x72" "length" "()I" ∈ rTs := kMem 363 rfl
set_option maxRecDepth 100000 in
theorem kw364 : Cond.instanceMethod ⟨"java/lang/AbstractStringBuilde\x72", "length", "()I"⟩ ∈ rTs := kMem 364 rfl
set_option maxRecDepth 100000 in
theorem kw365 : Cond.code ⟨"java/lang/AbstractStringBuilde\x72", "getValue", "()[B"⟩ prog_17_method_64_code 1 (Option.some (FieldType.array FieldType.byte)) ∈ rTs := kMem 365 rfl
set_option maxRecDepth 100000 in
theorem kw366 : Cond.methodLink "java/lang/String" 552 ⟨"java/lang/AbstractStringBuilde\x72", "getValue", "()[B"⟩ ∈ rTs := kMem 366 rfl
set_option maxRecDepth 100000 in
theorem kw367 : Cond.sameMethod "java/lang/AbstractStringBuilde\x72" "java/lang/AbstractStringBuilde\x72" "getValue" "()[B" ∈ rTs := kMem 367 rfl
set_option maxRecDepth 100000 in
theorem kw368 : Cond.selects "java/lang/StringBuilde\x72" ⟨"java/lang/AbstractStringBuilde\x72", "getValue", "()[B"⟩ ⟨"java/lang/AbstractStringBuilde\x72", "getValue", "()[B"⟩ ∈ rTs := kMem 368 rfl
set_option maxRecDepth 100000 in
theorem kw369 : Cond.instanceMethod ⟨"java/lang/AbstractStringBuilde\x72", "getValue", "()[B"⟩ ∈ rTs := kMem 369 rfl
set_option maxRecDepth 100000 in
theorem kw370 : Cond.code ⟨"java/lang/StringBuilde\x72", "length", "()I"⟩ prog_31_method_93_code 1 (Option.some FieldType.int) ∈ rTs := kMem 370 rfl
set_option maxRecDepth 100000 in
theorem kw371 : Cond.methodLink "java/lang/String" 549 ⟨"java/lang/AbstractStringBuilde\x72", "length", "()I"⟩ ∈ rTs := kMem 371 rfl
set_option maxRecDepth 100000 in
theorem kw372 : Cond.selects "java/lang/StringBuilde\x72" ⟨"java/lang/AbstractStringBuilde\x72", "length", "()I"⟩ ⟨"java/lang/StringBuilde\x72", "length", "()I"⟩ ∈ rTs := kMem 372 rfl
set_option maxRecDepth 100000 in
theorem kw373 : Cond.instanceMethod ⟨"java/lang/StringBuilde\x72", "length", "()I"⟩ ∈ rTs := kMem 373 rfl
set_option maxRecDepth 100000 in
theorem kw374 : Cond.initialized "java/lang/StringBuilde\x72" ∈ rTs := kMem 374 rfl
set_option maxRecDepth 100000 in
theorem kw375 : Cond.code ⟨"java/lang/AbstractStringBuilde\x72", "isLatin1", "()Z"⟩ prog_17_method_68_code 1 (Option.some FieldType.boolean) ∈ rTs := kMem 375 rfl
set_option maxRecDepth 100000 in
theorem kw376 : Cond.methodLink "java/lang/String" 1047 ⟨"java/lang/AbstractStringBuilde\x72", "isLatin1", "()Z"⟩ ∈ rTs := kMem 376 rfl
set_option maxRecDepth 100000 in
theorem kw377 : Cond.sameMethod "java/lang/AbstractStringBuilde\x72" "java/lang/AbstractStringBuilde\x72" "isLatin1" "()Z" ∈ rTs := kMem 377 rfl
set_option maxRecDepth 100000 in
theorem kw378 : Cond.selects "java/lang/StringBuilde\x72" ⟨"java/lang/AbstractStringBuilde\x72", "isLatin1", "()Z"⟩ ⟨"java/lang/AbstractStringBuilde\x72", "isLatin1", "()Z"⟩ ∈ rTs := kMem 378 rfl
set_option maxRecDepth 100000 in
theorem kw379 : Cond.instanceMethod ⟨"java/lang/AbstractStringBuilde\x72", "isLatin1", "()Z"⟩ ∈ rTs := kMem 379 rfl
set_option maxRecDepth 100000 in
theorem kw380 : Cond.methodLink "java/lang/String" 54 ⟨"java/util/Arrays", "copyOfRange", "([BII)[B"⟩ ∈ rTs := kMem 380 rfl
set_option maxRecDepth 100000 in
theorem kw381 : Cond.code ⟨"java/lang/String", "<init>", "(Ljava/lang/AbstractStringBuilder;Ljava/lang/Void;)V"⟩ prog_30_method_150_code 5 (Option.none : Option FieldType) ∈ rTs := kMem 381 rfl
set_option maxRecDepth 100000 in
theorem kw382 : Cond.methodLink "java/lang/String" 489 ⟨"java/lang/String", "<init>", "(Ljava/lang/AbstractStringBuilder;Ljava/lang/Void;)V"⟩ ∈ rTs := kMem 382 rfl
set_option maxRecDepth 100000 in
theorem kw383 : Cond.instanceMethod ⟨"java/lang/String", "<init>", "(Ljava/lang/AbstractStringBuilder;Ljava/lang/Void;)V"⟩ ∈ rTs := kMem 383 rfl
set_option maxRecDepth 100000 in
theorem kw384 : Cond.classLink "java/lang/StringBuilde\x72" 18 "java/lang/String" ∈ rTs := kMem 384 rfl
set_option maxRecDepth 100000 in
theorem kw385 : Cond.code ⟨"java/lang/String", "<init>", "(Ljava/lang/StringBuilder;)V"⟩ prog_30_method_53_code 2 (Option.none : Option FieldType) ∈ rTs := kMem 385 rfl
set_option maxRecDepth 100000 in
theorem kw386 : Cond.methodLink "java/lang/StringBuilde\x72" 137 ⟨"java/lang/String", "<init>", "(Ljava/lang/StringBuilder;)V"⟩ ∈ rTs := kMem 386 rfl
set_option maxRecDepth 100000 in
theorem kw387 : Cond.instanceMethod ⟨"java/lang/String", "<init>", "(Ljava/lang/StringBuilder;)V"⟩ ∈ rTs := kMem 387 rfl
set_option maxRecDepth 100000 in
theorem kw388 : Cond.classLink "NativeWorksModel" 530 "java/lang/StringBuilde\x72" ∈ rTs := kMem 388 rfl
set_option maxRecDepth 100000 in
theorem kw389 : Cond.instantiable "java/lang/StringBuilde\x72" 4 ∈ rTs := kMem 389 rfl
set_option maxRecDepth 100000 in
theorem kw390 : Cond.code ⟨"java/lang/StringBuilde\x72", "<init>", "()V"⟩ prog_31_method_1_code 1 (Option.none : Option FieldType) ∈ rTs := kMem 390 rfl
set_option maxRecDepth 100000 in
theorem kw391 : Cond.methodLink "NativeWorksModel" 532 ⟨"java/lang/StringBuilde\x72", "<init>", "()V"⟩ ∈ rTs := kMem 391 rfl
set_option maxRecDepth 100000 in
theorem kw392 : Cond.instanceMethod ⟨"java/lang/StringBuilde\x72", "<init>", "()V"⟩ ∈ rTs := kMem 392 rfl
set_option maxRecDepth 100000 in
theorem kw393 : Cond.code ⟨"java/lang/StringBuilde\x72", "append", "(Ljava/lang/String;)Ljava/lang/StringBuilder;"⟩ prog_31_method_7_code 2 (Option.some (FieldType.object "java/lang/StringBuilde\x72")) ∈ rTs := kMem 393 rfl
set_option maxRecDepth 100000 in
theorem kw394 : Cond.methodLink "NativeWorksModel" 533 ⟨"java/lang/StringBuilde\x72", "append", "(Ljava/lang/String;)Ljava/lang/StringBuilder;"⟩ ∈ rTs := kMem 394 rfl
set_option maxRecDepth 100000 in
theorem kw395 : Cond.instanceMethod ⟨"java/lang/StringBuilde\x72", "append", "(Ljava/lang/String;)Ljava/lang/StringBuilder;"⟩ ∈ rTs := kMem 395 rfl
set_option maxRecDepth 100000 in
theorem kw396 : Cond.selects "java/lang/StringBuilde\x72" ⟨"java/lang/StringBuilde\x72", "append", "(Ljava/lang/String;)Ljava/lang/StringBuilder;"⟩ ⟨"java/lang/StringBuilde\x72", "append", "(Ljava/lang/String;)Ljava/lang/StringBuilder;"⟩ ∈ rTs := kMem 396 rfl
set_option maxRecDepth 100000 in
theorem kw397 : Cond.code ⟨"java/lang/StringBuilde\x72", "toString", "()Ljava/lang/String;"⟩ prog_31_method_42_code 1 (Option.some (FieldType.object "java/lang/String")) ∈ rTs := kMem 397 rfl
set_option maxRecDepth 100000 in
theorem kw398 : Cond.methodLink "NativeWorksModel" 537 ⟨"java/lang/StringBuilde\x72", "toString", "()Ljava/lang/String;"⟩ ∈ rTs := kMem 398 rfl
set_option maxRecDepth 100000 in
theorem kw399 : Cond.instanceMethod ⟨"java/lang/StringBuilde\x72", "toString", "()Ljava/lang/String;"⟩ ∈ rTs := kMem 399 rfl
set_option maxRecDepth 100000 in
theorem kw400 : Cond.selects "java/lang/StringBuilde\x72" ⟨"java/lang/StringBuilde\x72", "toString", "()Ljava/lang/String;"⟩ ⟨"java/lang/StringBuilde\x72", "toString", "()Ljava/lang/String;"⟩ ∈ rTs := kMem 400 rfl
set_option maxRecDepth 100000 in
theorem kw401 : Cond.classLink "NativeWorksModel" 470 "java/lang/String" ∈ rTs := kMem 401 rfl
set_option maxRecDepth 100000 in
theorem kw402 : Cond.code ⟨"NativeWorksModel", "joined", "(Ljava/lang/String;Ljava/lang/String;)Ljava/lang/String;"⟩ prog_14_method_6_code 2 (Option.some (FieldType.object "java/lang/String")) ∈ rTs := kMem 402 rfl
set_option maxRecDepth 100000 in
theorem kw403 : Cond.methodLink "NativeWorksModel" 526 ⟨"NativeWorksModel", "joined", "(Ljava/lang/String;Ljava/lang/String;)Ljava/lang/String;"⟩ ∈ rTs := kMem 403 rfl
set_option maxRecDepth 100000 in
theorem kw404 : Cond.static ⟨"NativeWorksModel", "joined", "(Ljava/lang/String;Ljava/lang/String;)Ljava/lang/String;"⟩ ∈ rTs := kMem 404 rfl
set_option maxRecDepth 100000 in
theorem kw405 : Cond.fieldLink "NativeWorksModel" 18 "NativeWorksModel" "registerName" "[J" ∈ rTs := kMem 405 rfl
set_option maxRecDepth 100000 in
theorem kw406 : Cond.fieldLink "NativeWorksModel" 605 "NativeWorksModel" "registers" "I" ∈ rTs := kMem 406 rfl
set_option maxRecDepth 100000 in
theorem kw407 : Cond.fieldLink "NativeWorksModel" 25 "NativeWorksModel" "registerCode" "[I" ∈ rTs := kMem 407 rfl
set_option maxRecDepth 100000 in
theorem kw408 : Cond.fieldLink "java/lang/Intege\x72" 83 "java/lang/Intege\x72" "DigitOnes" "[B" ∈ rTs := kMem 408 rfl
set_option maxRecDepth 100000 in
theorem kw409 : Cond.fieldLink "java/lang/Intege\x72" 87 "java/lang/Intege\x72" "DigitTens" "[B" ∈ rTs := kMem 409 rfl
set_option maxRecDepth 100000 in
theorem kw410 : Cond.code ⟨"java/lang/Intege\x72", "stringSize", "(I)I"⟩ prog_25_method_13_code 4 (Option.some FieldType.int) ∈ rTs := kMem 410 rfl
set_option maxRecDepth 100000 in
theorem kw411 : Cond.methodLink "java/lang/AbstractStringBuilde\x72" 245 ⟨"java/lang/Intege\x72", "stringSize", "(I)I"⟩ ∈ rTs := kMem 411 rfl
set_option maxRecDepth 100000 in
theorem kw412 : Cond.static ⟨"java/lang/Intege\x72", "stringSize", "(I)I"⟩ ∈ rTs := kMem 412 rfl
set_option maxRecDepth 100000 in
theorem kw413 : Cond.initialized "java/lang/Intege\x72" ∈ rTs := kMem 413 rfl
set_option maxRecDepth 100000 in
theorem kw414 : Cond.methodLink "java/lang/AbstractStringBuilde\x72" 83 ⟨"java/lang/AbstractStringBuilde\x72", "isLatin1", "()Z"⟩ ∈ rTs := kMem 414 rfl
set_option maxRecDepth 100000 in
theorem kw415 : Cond.code ⟨"java/lang/Intege\x72", "getChars", "(II[B)I"⟩ prog_25_method_12_code 7 (Option.some FieldType.int) ∈ rTs := kMem 415 rfl
set_option maxRecDepth 100000 in
theorem kw416 : Cond.methodLink "java/lang/AbstractStringBuilde\x72" 248 ⟨"java/lang/Intege\x72", "getChars", "(II[B)I"⟩ ∈ rTs := kMem 416 rfl
set_option maxRecDepth 100000 in
theorem kw417 : Cond.static ⟨"java/lang/Intege\x72", "getChars", "(II[B)I"⟩ ∈ rTs := kMem 417 rfl
set_option maxRecDepth 100000 in
theorem kw418 : Cond.code ⟨"java/lang/AbstractStringBuilde\x72", "append", "(I)Ljava/lang/AbstractStringBuilder;"⟩ prog_17_method_32_code 4 (Option.some (FieldType.object "java/lang/AbstractStringBuilde\x72")) ∈ rTs := kMem 418 rfl
set_option maxRecDepth 100000 in
theorem kw419 : Cond.methodLink "java/lang/StringBuilde\x72" 53 ⟨"java/lang/AbstractStringBuilde\x72", "append", "(I)Ljava/lang/AbstractStringBuilder;"⟩ ∈ rTs := kMem 419 rfl
set_option maxRecDepth 100000 in
theorem kw420 : Cond.sameMethod "java/lang/AbstractStringBuilde\x72" "java/lang/AbstractStringBuilde\x72" "append" "(I)Ljava/lang/AbstractStringBuilder;" ∈ rTs := kMem 420 rfl
set_option maxRecDepth 100000 in
theorem kw421 : Cond.instanceMethod ⟨"java/lang/AbstractStringBuilde\x72", "append", "(I)Ljava/lang/AbstractStringBuilder;"⟩ ∈ rTs := kMem 421 rfl
set_option maxRecDepth 100000 in
theorem kw422 : Cond.code ⟨"java/lang/StringBuilde\x72", "append", "(I)Ljava/lang/StringBuilder;"⟩ prog_31_method_15_code 2 (Option.some (FieldType.object "java/lang/StringBuilde\x72")) ∈ rTs := kMem 422 rfl
set_option maxRecDepth 100000 in
theorem kw423 : Cond.methodLink "NativeWorksModel" 543 ⟨"java/lang/StringBuilde\x72", "append", "(I)Ljava/lang/StringBuilder;"⟩ ∈ rTs := kMem 423 rfl
set_option maxRecDepth 100000 in
theorem kw424 : Cond.instanceMethod ⟨"java/lang/StringBuilde\x72", "append", "(I)Ljava/lang/StringBuilder;"⟩ ∈ rTs := kMem 424 rfl
set_option maxRecDepth 100000 in
theorem kw425 : Cond.selects "java/lang/StringBuilde\x72" ⟨"java/lang/StringBuilde\x72", "append", "(I)Ljava/lang/StringBuilder;"⟩ ⟨"java/lang/StringBuilde\x72", "append", "(I)Ljava/lang/StringBuilder;"⟩ ∈ rTs := kMem 425 rfl
set_option maxRecDepth 100000 in
theorem kw426 : Cond.code ⟨"NativeWorksModel", "registerNamed", "(Ljava/lang/String;I)V"⟩ prog_14_method_9_code 3 (Option.none : Option FieldType) ∈ rTs := kMem 426 rfl
set_option maxRecDepth 100000 in
theorem kw427 : Cond.methodLink "NativeWorksModel" 594 ⟨"NativeWorksModel", "registerNamed", "(Ljava/lang/String;I)V"⟩ ∈ rTs := kMem 427 rfl
set_option maxRecDepth 100000 in
theorem kw428 : Cond.instanceMethod ⟨"NativeWorksModel", "registerNamed", "(Ljava/lang/String;I)V"⟩ ∈ rTs := kMem 428 rfl
set_option maxRecDepth 100000 in
theorem kw429 : Cond.selects "NativeWorksModel" ⟨"NativeWorksModel", "registerNamed", "(Ljava/lang/String;I)V"⟩ ⟨"NativeWorksModel", "registerNamed", "(Ljava/lang/String;I)V"⟩ ∈ rTs := kMem 429 rfl
set_option maxRecDepth 100000 in
theorem kw430 : Cond.code ⟨"NativeWorksModel", "numbered", "(ILjava/lang/String;)Ljava/lang/String;"⟩ prog_14_method_7_code 2 (Option.some (FieldType.object "java/lang/String")) ∈ rTs := kMem 430 rfl
set_option maxRecDepth 100000 in
theorem kw431 : Cond.methodLink "NativeWorksModel" 599 ⟨"NativeWorksModel", "numbered", "(ILjava/lang/String;)Ljava/lang/String;"⟩ ∈ rTs := kMem 431 rfl
set_option maxRecDepth 100000 in
theorem kw432 : Cond.static ⟨"NativeWorksModel", "numbered", "(ILjava/lang/String;)Ljava/lang/String;"⟩ ∈ rTs := kMem 432 rfl
set_option maxRecDepth 100000 in
theorem kw433 : Cond.fieldLink "NativeWorksModel" 258 "NativeWorksModel" "rowOp" "[I" ∈ rTs := kMem 433 rfl
set_option maxRecDepth 100000 in
theorem kw434 : Cond.fieldLink "NativeWorksModel" 1075 "NativeWorksModel" "rows" "I" ∈ rTs := kMem 434 rfl
set_option maxRecDepth 100000 in
theorem kw435 : Cond.fieldLink "NativeWorksModel" 261 "NativeWorksModel" "rowSizes" "[I" ∈ rTs := kMem 435 rfl
set_option maxRecDepth 100000 in
theorem kw436 : Cond.fieldLink "NativeWorksModel" 264 "NativeWorksModel" "rowPattern" "[I" ∈ rTs := kMem 436 rfl
set_option maxRecDepth 100000 in
theorem kw437 : Cond.fieldLink "NativeWorksModel" 267 "NativeWorksModel" "rowLead" "[I" ∈ rTs := kMem 437 rfl
set_option maxRecDepth 100000 in
theorem kw438 : Cond.fieldLink "NativeWorksModel" 270 "NativeWorksModel" "rowCode" "[I" ∈ rTs := kMem 438 rfl
set_option maxRecDepth 100000 in
theorem kw439 : Cond.fieldLink "NativeWorksModel" 273 "NativeWorksModel" "rowTell" "[I" ∈ rTs := kMem 439 rfl
set_option maxRecDepth 100000 in
theorem kw440 : Cond.fieldLink "NativeWorksModel" 276 "NativeWorksModel" "rowNumbe\x72" "[I" ∈ rTs := kMem 440 rfl
set_option maxRecDepth 100000 in
theorem kw441 : Cond.code ⟨"NativeWorksModel", "row", "(IIIIIII)V"⟩ prog_14_method_102_code 8 (Option.none : Option FieldType) ∈ rTs := kMem 441 rfl
set_option maxRecDepth 100000 in
theorem kw442 : Cond.methodLink "NativeWorksModel" 1103 ⟨"NativeWorksModel", "row", "(IIIIIII)V"⟩ ∈ rTs := kMem 442 rfl
set_option maxRecDepth 100000 in
theorem kw443 : Cond.instanceMethod ⟨"NativeWorksModel", "row", "(IIIIIII)V"⟩ ∈ rTs := kMem 443 rfl
set_option maxRecDepth 100000 in
theorem kw444 : Cond.selects "NativeWorksModel" ⟨"NativeWorksModel", "row", "(IIIIIII)V"⟩ ⟨"NativeWorksModel", "row", "(IIIIIII)V"⟩ ∈ rTs := kMem 444 rfl
set_option maxRecDepth 100000 in
theorem kw445 : Cond.code ⟨"NativeWorksModel", "fillRest", "()V"⟩ prog_14_method_104_code 2 (Option.none : Option FieldType) ∈ rTs := kMem 445 rfl
set_option maxRecDepth 100000 in
theorem kw446 : Cond.methodLink "NativeWorksModel" 1107 ⟨"NativeWorksModel", "fillRest", "()V"⟩ ∈ rTs := kMem 446 rfl
set_option maxRecDepth 100000 in
theorem kw447 : Cond.instanceMethod ⟨"NativeWorksModel", "fillRest", "()V"⟩ ∈ rTs := kMem 447 rfl
set_option maxRecDepth 100000 in
theorem kw448 : Cond.selects "NativeWorksModel" ⟨"NativeWorksModel", "fillRest", "()V"⟩ ⟨"NativeWorksModel", "fillRest", "()V"⟩ ∈ rTs := kMem 448 rfl
set_option maxRecDepth 100000 in
theorem kw449 : Cond.methodLink "NativeWorksModel" 1 ⟨"java/lang/Object", "<init>", "()V"⟩ ∈ rTs := kMem 449 rfl
set_option maxRecDepth 100000 in
theorem kw450 : Cond.constant "NativeWorksModel" 9 (nI 65536) ∈ rTs := kMem 450 (by decide +kernel)
set_option maxRecDepth 100000 in
theorem kw451 : Cond.fieldLink "NativeWorksModel" 10 "NativeWorksModel" "tape" "[B" ∈ rTs := kMem 451 rfl
set_option maxRecDepth 100000 in
theorem kw452 : Cond.fieldLink "NativeWorksModel" 28 "NativeWorksModel" "symbolUnit" "[I" ∈ rTs := kMem 452 rfl
set_option maxRecDepth 100000 in
theorem kw453 : Cond.fieldLink "NativeWorksModel" 31 "NativeWorksModel" "isLibrary" "[Z" ∈ rTs := kMem 453 rfl
set_option maxRecDepth 100000 in
theorem kw454 : Cond.fieldLink "NativeWorksModel" 35 "NativeWorksModel" "firstItem" "[I" ∈ rTs := kMem 454 rfl
set_option maxRecDepth 100000 in
theorem kw455 : Cond.fieldLink "NativeWorksModel" 38 "NativeWorksModel" "firstSymbol" "[I" ∈ rTs := kMem 455 rfl
set_option maxRecDepth 100000 in
theorem kw456 : Cond.fieldLink "NativeWorksModel" 41 "NativeWorksModel" "firstWait" "[I" ∈ rTs := kMem 456 rfl
set_option maxRecDepth 100000 in
theorem kw457 : Cond.fieldLink "NativeWorksModel" 44 "NativeWorksModel" "sectionSize" "[I" ∈ rTs := kMem 457 rfl
set_option maxRecDepth 100000 in
theorem kw458 : Cond.fieldLink "NativeWorksModel" 47 "NativeWorksModel" "kept" "[Z" ∈ rTs := kMem 458 rfl
set_option maxRecDepth 100000 in
theorem kw459 : Cond.fieldLink "NativeWorksModel" 50 "NativeWorksModel" "faultUnit" "I" ∈ rTs := kMem 459 rfl
set_option maxRecDepth 100000 in
theorem kw460 : Cond.constant "NativeWorksModel" 54 (nI 129024) ∈ rTs := kMem 460 (by decide +kernel)
set_option maxRecDepth 100000 in
theorem kw461 : Cond.fieldLink "NativeWorksModel" 55 "NativeWorksModel" "pool" "[B" ∈ rTs := kMem 461 rfl
set_option maxRecDepth 100000 in
theorem kw462 : Cond.fieldLink "NativeWorksModel" 58 "NativeWorksModel" "nameAt" "[I" ∈ rTs := kMem 462 rfl
set_option maxRecDepth 100000 in
theorem kw463 : Cond.fieldLink "NativeWorksModel" 61 "NativeWorksModel" "nameLength" "[I" ∈ rTs := kMem 463 rfl
set_option maxRecDepth 100000 in
theorem kw464 : Cond.fieldLink "NativeWorksModel" 64 "NativeWorksModel" "nameSum" "[J" ∈ rTs := kMem 464 rfl
set_option maxRecDepth 100000 in
theorem kw465 : Cond.fieldLink "NativeWorksModel" 67 "NativeWorksModel" "labelItem" "[I" ∈ rTs := kMem 465 rfl
set_option maxRecDepth 100000 in
theorem kw466 : Cond.fieldLink "NativeWorksModel" 70 "NativeWorksModel" "isConstant" "[Z" ∈ rTs := kMem 466 rfl
set_option maxRecDepth 100000 in
theorem kw467 : Cond.fieldLink "NativeWorksModel" 73 "NativeWorksModel" "isUsed" "[Z" ∈ rTs := kMem 467 rfl
set_option maxRecDepth 100000 in
theorem kw468 : Cond.fieldLink "NativeWorksModel" 76 "NativeWorksModel" "isGlobal" "[Z" ∈ rTs := kMem 468 rfl
set_option maxRecDepth 100000 in
theorem kw469 : Cond.fieldLink "NativeWorksModel" 79 "NativeWorksModel" "isWeak" "[Z" ∈ rTs := kMem 469 rfl
set_option maxRecDepth 100000 in
theorem kw470 : Cond.fieldLink "NativeWorksModel" 82 "NativeWorksModel" "constant" "[J" ∈ rTs := kMem 470 rfl
set_option maxRecDepth 100000 in
theorem kw471 : Cond.fieldLink "NativeWorksModel" 85 "NativeWorksModel" "itemKind" "[B" ∈ rTs := kMem 471 rfl
set_option maxRecDepth 100000 in
theorem kw472 : Cond.fieldLink "NativeWorksModel" 88 "NativeWorksModel" "itemSection" "[B" ∈ rTs := kMem 472 rfl
set_option maxRecDepth 100000 in
theorem kw473 : Cond.fieldLink "NativeWorksModel" 91 "NativeWorksModel" "itemLine" "[I" ∈ rTs := kMem 473 rfl
set_option maxRecDepth 100000 in
theorem kw474 : Cond.fieldLink "NativeWorksModel" 94 "NativeWorksModel" "itemSize" "[I" ∈ rTs := kMem 474 rfl
set_option maxRecDepth 100000 in
theorem kw475 : Cond.fieldLink "NativeWorksModel" 97 "NativeWorksModel" "itemOffset" "[I" ∈ rTs := kMem 475 rfl
set_option maxRecDepth 100000 in
theorem kw476 : Cond.fieldLink "NativeWorksModel" 100 "NativeWorksModel" "itemData" "[I" ∈ rTs := kMem 476 rfl
set_option maxRecDepth 100000 in
theorem kw477 : Cond.fieldLink "NativeWorksModel" 103 "NativeWorksModel" "itemShape" "[J" ∈ rTs := kMem 477 rfl
set_option maxRecDepth 100000 in
theorem kw478 : Cond.fieldLink "NativeWorksModel" 106 "NativeWorksModel" "itemDisplacement" "[I" ∈ rTs := kMem 478 rfl
set_option maxRecDepth 100000 in
theorem kw479 : Cond.fieldLink "NativeWorksModel" 109 "NativeWorksModel" "itemNumbe\x72" "[J" ∈ rTs := kMem 479 rfl
set_option maxRecDepth 100000 in
theorem kw480 : Cond.constant "NativeWorksModel" 112 (nI 132172) ∈ rTs := kMem 480 (by decide +kernel)
set_option maxRecDepth 100000 in
theorem kw481 : Cond.fieldLink "NativeWorksModel" 113 "NativeWorksModel" "data" "[B" ∈ rTs := kMem 481 rfl
set_option maxRecDepth 100000 in
theorem kw482 : Cond.fieldLink "NativeWorksModel" 116 "NativeWorksModel" "waitItem" "[I" ∈ rTs := kMem 482 rfl
set_option maxRecDepth 100000 in
theorem kw483 : Cond.fieldLink "NativeWorksModel" 119 "NativeWorksModel" "waitAt" "[I" ∈ rTs := kMem 483 rfl
set_option maxRecDepth 100000 in
theorem kw484 : Cond.fieldLink "NativeWorksModel" 122 "NativeWorksModel" "waitPlus" "[I" ∈ rTs := kMem 484 rfl
set_option maxRecDepth 100000 in
theorem kw485 : Cond.fieldLink "NativeWorksModel" 125 "NativeWorksModel" "waitMinus" "[I" ∈ rTs := kMem 485 rfl
set_option maxRecDepth 100000 in
theorem kw486 : Cond.fieldLink "NativeWorksModel" 128 "NativeWorksModel" "waitSize" "[B" ∈ rTs := kMem 486 rfl
set_option maxRecDepth 100000 in
theorem kw487 : Cond.fieldLink "NativeWorksModel" 131 "NativeWorksModel" "waitWhat" "[B" ∈ rTs := kMem 487 rfl
set_option maxRecDepth 100000 in
theorem kw488 : Cond.fieldLink "NativeWorksModel" 134 "NativeWorksModel" "waitConstant" "[J" ∈ rTs := kMem 488 rfl
set_option maxRecDepth 100000 in
theorem kw489 : Cond.fieldLink "NativeWorksModel" 137 "NativeWorksModel" "line" "[B" ∈ rTs := kMem 489 rfl
set_option maxRecDepth 100000 in
theorem kw490 : Cond.fieldLink "NativeWorksModel" 140 "NativeWorksModel" "frameKind" "[I" ∈ rTs := kMem 490 rfl
set_option maxRecDepth 100000 in
theorem kw491 : Cond.fieldLink "NativeWorksModel" 143 "NativeWorksModel" "frameStop" "[I" ∈ rTs := kMem 491 rfl
set_option maxRecDepth 100000 in
theorem kw492 : Cond.fieldLink "NativeWorksModel" 146 "NativeWorksModel" "frameStopLine" "[I" ∈ rTs := kMem 492 rfl
set_option maxRecDepth 100000 in
theorem kw493 : Cond.fieldLink "NativeWorksModel" 149 "NativeWorksModel" "frameBody" "[I" ∈ rTs := kMem 493 rfl
set_option maxRecDepth 100000 in
theorem kw494 : Cond.fieldLink "NativeWorksModel" 152 "NativeWorksModel" "frameBodyLine" "[I" ∈ rTs := kMem 494 rfl
set_option maxRecDepth 100000 in
theorem kw495 : Cond.fieldLink "NativeWorksModel" 155 "NativeWorksModel" "frameLeft" "[I" ∈ rTs := kMem 495 rfl
set_option maxRecDepth 100000 in
theorem kw496 : Cond.fieldLink "NativeWorksModel" 158 "NativeWorksModel" "frameOwn" "[I" ∈ rTs := kMem 496 rfl
set_option maxRecDepth 100000 in
theorem kw497 : Cond.fieldLink "NativeWorksModel" 161 "NativeWorksModel" "frameMacro" "[I" ∈ rTs := kMem 497 rfl
set_option maxRecDepth 100000 in
theorem kw498 : Cond.fieldLink "NativeWorksModel" 164 "NativeWorksModel" "frameNumbe\x72" "[I" ∈ rTs := kMem 498 rfl
set_option maxRecDepth 100000 in
theorem kw499 : Cond.fieldLink "NativeWorksModel" 167 "NativeWorksModel" "frameElse" "[Z" ∈ rTs := kMem 499 rfl
set_option maxRecDepth 100000 in
theorem kw500 : Cond.classLink "NativeWorksModel" 170 "[[B" ∈ rTs := kMem 500 rfl
set_option maxRecDepth 100000 in
theorem kw501 : Cond.fieldLink "NativeWorksModel" 172 "NativeWorksModel" "argument" "[[B" ∈ rTs := kMem 501 rfl
set_option maxRecDepth 100000 in
theorem kw502 : Cond.classLink "NativeWorksModel" 175 "[[I" ∈ rTs := kMem 502 rfl
set_option maxRecDepth 100000 in
theorem kw503 : Cond.fieldLink "NativeWorksModel" 177 "NativeWorksModel" "argumentAt" "[[I" ∈ rTs := kMem 503 rfl
set_option maxRecDepth 100000 in
theorem kw504 : Cond.fieldLink "NativeWorksModel" 180 "NativeWorksModel" "arguments" "[I" ∈ rTs := kMem 504 rfl
set_option maxRecDepth 100000 in
theorem kw505 : Cond.fieldLink "NativeWorksModel" 183 "NativeWorksModel" "macroName" "[I" ∈ rTs := kMem 505 rfl
set_option maxRecDepth 100000 in
theorem kw506 : Cond.fieldLink "NativeWorksModel" 186 "NativeWorksModel" "macroLength" "[I" ∈ rTs := kMem 506 rfl
set_option maxRecDepth 100000 in
theorem kw507 : Cond.fieldLink "NativeWorksModel" 189 "NativeWorksModel" "macroParameters" "[I" ∈ rTs := kMem 507 rfl
set_option maxRecDepth 100000 in
theorem kw508 : Cond.fieldLink "NativeWorksModel" 192 "NativeWorksModel" "macroBody" "[I" ∈ rTs := kMem 508 rfl
set_option maxRecDepth 100000 in
theorem kw509 : Cond.fieldLink "NativeWorksModel" 195 "NativeWorksModel" "macroBodyLine" "[I" ∈ rTs := kMem 509 rfl
set_option maxRecDepth 100000 in
theorem kw510 : Cond.fieldLink "NativeWorksModel" 198 "NativeWorksModel" "macroEnd" "[I" ∈ rTs := kMem 510 rfl
set_option maxRecDepth 100000 in
theorem kw511 : Cond.fieldLink "NativeWorksModel" 201 "NativeWorksModel" "macroEndLine" "[I" ∈ rTs := kMem 511 rfl
set_option maxRecDepth 100000 in
theorem kw512 : Cond.fieldLink "NativeWorksModel" 204 "NativeWorksModel" "token" "[I" ∈ rTs := kMem 512 rfl
set_option maxRecDepth 100000 in
theorem kw513 : Cond.fieldLink "NativeWorksModel" 207 "NativeWorksModel" "tokenStart" "[I" ∈ rTs := kMem 513 rfl
set_option maxRecDepth 100000 in
theorem kw514 : Cond.fieldLink "NativeWorksModel" 210 "NativeWorksModel" "tokenLength" "[I" ∈ rTs := kMem 514 rfl
set_option maxRecDepth 100000 in
theorem kw515 : Cond.fieldLink "NativeWorksModel" 213 "NativeWorksModel" "tokenValue" "[J" ∈ rTs := kMem 515 rfl
set_option maxRecDepth 100000 in
theorem kw516 : Cond.fieldLink "NativeWorksModel" 216 "NativeWorksModel" "name" "[B" ∈ rTs := kMem 516 rfl
set_option maxRecDepth 100000 in
theorem kw517 : Cond.fieldLink "NativeWorksModel" 219 "NativeWorksModel" "value" "[J" ∈ rTs := kMem 517 rfl
set_option maxRecDepth 100000 in
theorem kw518 : Cond.fieldLink "NativeWorksModel" 222 "NativeWorksModel" "plus" "[I" ∈ rTs := kMem 518 rfl
set_option maxRecDepth 100000 in
theorem kw519 : Cond.fieldLink "NativeWorksModel" 225 "NativeWorksModel" "minus" "[I" ∈ rTs := kMem 519 rfl
set_option maxRecDepth 100000 in
theorem kw520 : Cond.fieldLink "NativeWorksModel" 228 "NativeWorksModel" "operato\x72" "[I" ∈ rTs := kMem 520 rfl
set_option maxRecDepth 100000 in
theorem kw521 : Cond.fieldLink "NativeWorksModel" 231 "NativeWorksModel" "piece" "[I" ∈ rTs := kMem 521 rfl
set_option maxRecDepth 100000 in
theorem kw522 : Cond.fieldLink "NativeWorksModel" 234 "NativeWorksModel" "spanPlus" "[I" ∈ rTs := kMem 522 rfl
set_option maxRecDepth 100000 in
theorem kw523 : Cond.fieldLink "NativeWorksModel" 237 "NativeWorksModel" "spanMinus" "[I" ∈ rTs := kMem 523 rfl
set_option maxRecDepth 100000 in
theorem kw524 : Cond.fieldLink "NativeWorksModel" 240 "NativeWorksModel" "spanLine" "[I" ∈ rTs := kMem 524 rfl
set_option maxRecDepth 100000 in
theorem kw525 : Cond.fieldLink "NativeWorksModel" 243 "NativeWorksModel" "kind" "[I" ∈ rTs := kMem 525 rfl
set_option maxRecDepth 100000 in
theorem kw526 : Cond.fieldLink "NativeWorksModel" 246 "NativeWorksModel" "registe\x72" "[I" ∈ rTs := kMem 526 rfl
set_option maxRecDepth 100000 in
theorem kw527 : Cond.fieldLink "NativeWorksModel" 249 "NativeWorksModel" "told" "[I" ∈ rTs := kMem 527 rfl
set_option maxRecDepth 100000 in
theorem kw528 : Cond.fieldLink "NativeWorksModel" 252 "NativeWorksModel" "from" "[I" ∈ rTs := kMem 528 rfl
set_option maxRecDepth 100000 in
theorem kw529 : Cond.fieldLink "NativeWorksModel" 255 "NativeWorksModel" "to" "[I" ∈ rTs := kMem 529 rfl
set_option maxRecDepth 100000 in
theorem kw530 : Cond.fieldLink "NativeWorksModel" 279 "NativeWorksModel" "best" "[B" ∈ rTs := kMem 530 rfl
set_option maxRecDepth 100000 in
theorem kw531 : Cond.fieldLink "NativeWorksModel" 282 "NativeWorksModel" "trial" "[B" ∈ rTs := kMem 531 rfl
set_option maxRecDepth 100000 in
theorem kw532 : Cond.fieldLink "NativeWorksModel" 285 "NativeWorksModel" "termRegiste\x72" "[I" ∈ rTs := kMem 532 rfl
set_option maxRecDepth 100000 in
theorem kw533 : Cond.fieldLink "NativeWorksModel" 288 "NativeWorksModel" "termScale" "[I" ∈ rTs := kMem 533 rfl
set_option maxRecDepth 100000 in
theorem kw534 : Cond.classLink "NativeWorksModel" 291 "NativeWorksModel$Code" ∈ rTs := kMem 534 rfl
set_option maxRecDepth 100000 in
theorem kw535 : Cond.instantiable "NativeWorksModel$Code" 13 ∈ rTs := kMem 535 rfl
set_option maxRecDepth 100000 in
theorem kw536 : Cond.initialized "NativeWorksModel$Code" ∈ rTs := kMem 536 rfl
set_option maxRecDepth 100000 in
theorem kw537 : Cond.code ⟨"NativeWorksModel$Code", "<init>", "()V"⟩ prog_15_method_1_code 1 (Option.none : Option FieldType) ∈ rTs := kMem 537 rfl
set_option maxRecDepth 100000 in
theorem kw538 : Cond.instanceMethod ⟨"NativeWorksModel$Code", "<init>", "()V"⟩ ∈ rTs := kMem 538 rfl
set_option maxRecDepth 100000 in
theorem kw539 : Cond.fieldLink "NativeWorksModel" 294 "NativeWorksModel" "image" "LNativeWorksModel$Code;" ∈ rTs := kMem 539 rfl
set_option maxRecDepth 100000 in
theorem kw540 : Cond.fieldLink "NativeWorksModel" 298 "NativeWorksModel" "code" "LNativeWorksModel$Code;" ∈ rTs := kMem 540 rfl
set_option maxRecDepth 100000 in
theorem kw541 : Cond.constant "NativeWorksModel" 301 (nI 131072) ∈ rTs := kMem 541 (by decide +kernel)
set_option maxRecDepth 100000 in
theorem kw542 : Cond.fieldLink "NativeWorksModel" 302 "NativeWorksModel" "imageBytes" "[B" ∈ rTs := kMem 542 rfl
set_option maxRecDepth 100000 in
theorem kw543 : Cond.fieldLink "NativeWorksModel" 305 "NativeWorksModel" "taken" "[Z" ∈ rTs := kMem 543 rfl
set_option maxRecDepth 100000 in
theorem kw544 : Cond.fieldLink "NativeWorksModel" 308 "NativeWorksModel" "needed" "[Z" ∈ rTs := kMem 544 rfl
set_option maxRecDepth 100000 in
theorem kw545 : Cond.fieldLink "NativeWorksModel" 311 "NativeWorksModel" "addressOf" "[I" ∈ rTs := kMem 545 rfl
set_option maxRecDepth 100000 in
theorem kw546 : Cond.fieldLink "NativeWorksModel" 314 "NativeWorksModel" "imagePool" "[B" ∈ rTs := kMem 546 rfl
set_option maxRecDepth 100000 in
theorem kw547 : Cond.fieldLink "NativeWorksModel" 317 "NativeWorksModel" "imageNameAt" "[I" ∈ rTs := kMem 547 rfl
set_option maxRecDepth 100000 in
theorem kw548 : Cond.fieldLink "NativeWorksModel" 320 "NativeWorksModel" "imageNameLength" "[I" ∈ rTs := kMem 548 rfl
set_option maxRecDepth 100000 in
theorem kw549 : Cond.fieldLink "NativeWorksModel" 323 "NativeWorksModel" "imageNameAddress" "[I" ∈ rTs := kMem 549 rfl
set_option maxRecDepth 100000 in
theorem kw550 : Cond.fieldLink "NativeWorksModel" 326 "NativeWorksModel" "memory" "[B" ∈ rTs := kMem 550 rfl
set_option maxRecDepth 100000 in
theorem kw551 : Cond.fieldLink "NativeWorksModel" 329 "NativeWorksModel" "heap" "[B" ∈ rTs := kMem 551 rfl
set_option maxRecDepth 100000 in
theorem kw552 : Cond.fieldLink "NativeWorksModel" 332 "NativeWorksModel" "stack" "[B" ∈ rTs := kMem 552 rfl
set_option maxRecDepth 100000 in
theorem kw553 : Cond.fieldLink "NativeWorksModel" 335 "NativeWorksModel" "given" "[B" ∈ rTs := kMem 553 rfl
set_option maxRecDepth 100000 in
theorem kw554 : Cond.fieldLink "NativeWorksModel" 338 "NativeWorksModel" "shown" "[B" ∈ rTs := kMem 554 rfl
set_option maxRecDepth 100000 in
theorem kw555 : Cond.fieldLink "NativeWorksModel" 341 "NativeWorksModel" "registers0" "[J" ∈ rTs := kMem 555 rfl
set_option maxRecDepth 100000 in
theorem kw556 : Cond.fieldLink "NativeWorksModel" 344 "NativeWorksModel" "kept0" "[J" ∈ rTs := kMem 556 rfl
set_option maxRecDepth 100000 in
theorem kw557 : Cond.fieldLink "NativeWorksModel" 347 "NativeWorksModel" "places" "[J" ∈ rTs := kMem 557 rfl
set_option maxRecDepth 100000 in
theorem kw558 : Cond.code ⟨"NativeWorksModel", "wordsOf", "(Ljava/lang/String;I)V"⟩ prog_14_method_3_code 6 (Option.none : Option FieldType) ∈ rTs := kMem 558 rfl
set_option maxRecDepth 100000 in
theorem kw559 : Cond.methodLink "NativeWorksModel" 352 ⟨"NativeWorksModel", "wordsOf", "(Ljava/lang/String;I)V"⟩ ∈ rTs := kMem 559 rfl
set_option maxRecDepth 100000 in
theorem kw560 : Cond.instanceMethod ⟨"NativeWorksModel", "wordsOf", "(Ljava/lang/String;I)V"⟩ ∈ rTs := kMem 560 rfl
set_option maxRecDepth 100000 in
theorem kw561 : Cond.selects "NativeWorksModel" ⟨"NativeWorksModel", "wordsOf", "(Ljava/lang/String;I)V"⟩ ⟨"NativeWorksModel", "wordsOf", "(Ljava/lang/String;I)V"⟩ ∈ rTs := kMem 561 rfl
set_option maxRecDepth 100000 in
theorem kw562 : Cond.code ⟨"NativeWorksModel", "conditions", "(Ljava/lang/String;I)V"⟩ prog_14_method_5_code 5 (Option.none : Option FieldType) ∈ rTs := kMem 562 rfl
set_option maxRecDepth 100000 in
theorem kw563 : Cond.methodLink "NativeWorksModel" 360 ⟨"NativeWorksModel", "conditions", "(Ljava/lang/String;I)V"⟩ ∈ rTs := kMem 563 rfl
set_option maxRecDepth 100000 in
theorem kw564 : Cond.instanceMethod ⟨"NativeWorksModel", "conditions", "(Ljava/lang/String;I)V"⟩ ∈ rTs := kMem 564 rfl
set_option maxRecDepth 100000 in
theorem kw565 : Cond.selects "NativeWorksModel" ⟨"NativeWorksModel", "conditions", "(Ljava/lang/String;I)V"⟩ ⟨"NativeWorksModel", "conditions", "(Ljava/lang/String;I)V"⟩ ∈ rTs := kMem 565 rfl
set_option maxRecDepth 100000 in
theorem kw566 : Cond.constant "NativeWorksModel" 369 (nI 262181) ∈ rTs := kMem 566 (by decide +kernel)
set_option maxRecDepth 100000 in
theorem kw567 : Cond.constant "NativeWorksModel" 375 (nI 524325) ∈ rTs := kMem 567 (by decide +kernel)
set_option maxRecDepth 100000 in
theorem kw568 : Cond.constant "NativeWorksModel" 378 (nI 262182) ∈ rTs := kMem 568 (by decide +kernel)
set_option maxRecDepth 100000 in
theorem kw569 : Cond.constant "NativeWorksModel" 381 (nI 524326) ∈ rTs := kMem 569 (by decide +kernel)
set_option maxRecDepth 100000 in
theorem kw570 : Cond.constant "NativeWorksModel" 386 (nI 65586) ∈ rTs := kMem 570 (by decide +kernel)
set_option maxRecDepth 100000 in
theorem kw571 : Cond.constant "NativeWorksModel" 389 (nI 262194) ∈ rTs := kMem 571 (by decide +kernel)
set_option maxRecDepth 100000 in
theorem kw572 : Cond.constant "NativeWorksModel" 392 (nI 524338) ∈ rTs := kMem 572 (by decide +kernel)
set_option maxRecDepth 100000 in
theorem kw573 : Cond.constant "NativeWorksModel" 395 (nI 65587) ∈ rTs := kMem 573 (by decide +kernel)
set_option maxRecDepth 100000 in
theorem kw574 : Cond.constant "NativeWorksModel" 398 (nI 262195) ∈ rTs := kMem 574 (by decide +kernel)
set_option maxRecDepth 100000 in
theorem kw575 : Cond.constant "NativeWorksModel" 401 (nI 524339) ∈ rTs := kMem 575 (by decide +kernel)
set_option maxRecDepth 100000 in
theorem kw576 : Cond.code ⟨"NativeWorksModel", "registerNames", "()V"⟩ prog_14_method_8_code 5 (Option.none : Option FieldType) ∈ rTs := kMem 576 rfl
set_option maxRecDepth 100000 in
theorem kw577 : Cond.methodLink "NativeWorksModel" 414 ⟨"NativeWorksModel", "registerNames", "()V"⟩ ∈ rTs := kMem 577 rfl
set_option maxRecDepth 100000 in
theorem kw578 : Cond.instanceMethod ⟨"NativeWorksModel", "registerNames", "()V"⟩ ∈ rTs := kMem 578 rfl
set_option maxRecDepth 100000 in
theorem kw579 : Cond.selects "NativeWorksModel" ⟨"NativeWorksModel", "registerNames", "()V"⟩ ⟨"NativeWorksModel", "registerNames", "()V"⟩ ∈ rTs := kMem 579 rfl
set_option maxRecDepth 100000 in
theorem kw580 : Cond.fieldLink "NativeWorksModel" 423 "NativeWorksModel" "textWord" "J" ∈ rTs := kMem 580 rfl
set_option maxRecDepth 100000 in
theorem kw581 : Cond.fieldLink "NativeWorksModel" 429 "NativeWorksModel" "rodataWord" "J" ∈ rTs := kMem 581 rfl
set_option maxRecDepth 100000 in
theorem kw582 : Cond.fieldLink "NativeWorksModel" 433 "NativeWorksModel" "dataWord" "J" ∈ rTs := kMem 582 rfl
set_option maxRecDepth 100000 in
theorem kw583 : Cond.fieldLink "NativeWorksModel" 438 "NativeWorksModel" "bssWord" "J" ∈ rTs := kMem 583 rfl
set_option maxRecDepth 100000 in
theorem kw584 : Cond.fieldLink "NativeWorksModel" 441 "NativeWorksModel" "byteWord" "J" ∈ rTs := kMem 584 rfl
set_option maxRecDepth 100000 in
theorem kw585 : Cond.fieldLink "NativeWorksModel" 444 "NativeWorksModel" "dwordWord" "J" ∈ rTs := kMem 585 rfl
set_option maxRecDepth 100000 in
theorem kw586 : Cond.fieldLink "NativeWorksModel" 447 "NativeWorksModel" "qwordWord" "J" ∈ rTs := kMem 586 rfl
set_option maxRecDepth 100000 in
theorem kw587 : Cond.fieldLink "NativeWorksModel" 450 "NativeWorksModel" "relWord" "J" ∈ rTs := kMem 587 rfl
set_option maxRecDepth 100000 in
theorem kw588 : Cond.fieldLink "NativeWorksModel" 453 "NativeWorksModel" "equWord" "J" ∈ rTs := kMem 588 rfl
set_option maxRecDepth 100000 in
theorem kw589 : Cond.fieldLink "NativeWorksModel" 458 "NativeWorksModel" "repWord" "J" ∈ rTs := kMem 589 rfl
set_option maxRecDepth 100000 in
theorem kw590 : Cond.fieldLink "NativeWorksModel" 463 "NativeWorksModel" "startWord" "J" ∈ rTs := kMem 590 rfl
set_option maxRecDepth 100000 in
theorem kw591 : Cond.code ⟨"NativeWorksModel", "fillTable", "()V"⟩ prog_14_method_103_code 3 (Option.none : Option FieldType) ∈ rTs := kMem 591 rfl
set_option maxRecDepth 100000 in
theorem kw592 : Cond.methodLink "NativeWorksModel" 466 ⟨"NativeWorksModel", "fillTable", "()V"⟩ ∈ rTs := kMem 592 rfl
set_option maxRecDepth 100000 in
theorem kw593 : Cond.instanceMethod ⟨"NativeWorksModel", "fillTable", "()V"⟩ ∈ rTs := kMem 593 rfl
set_option maxRecDepth 100000 in
theorem kw594 : Cond.selects "NativeWorksModel" ⟨"NativeWorksModel", "fillTable", "()V"⟩ ⟨"NativeWorksModel", "fillTable", "()V"⟩ ∈ rTs := kMem 594 rfl
set_option maxRecDepth 100000 in
theorem kwObj : Cond.code Lib.objectInit ⟨#[0xb1]⟩ 1 none ∈ rTs := kMem 0 (by decide +kernel)
set_option maxRecDepth 100000 in
theorem kGood : ∀ w ∈ rTs, goodWord w = true := List.all_eq_true.mp (by decide +kernel)
def rNs : List Cond := [Cond.arrayOver (FieldType.array FieldType.int), Cond.arrayOver (FieldType.object "java/lang/String"), Cond.arrayOver (FieldType.array FieldType.byte), Cond.methodLinkNest "NativeWorksModel" 293 ⟨"NativeWorksModel$Code", "<init>", "()V"⟩ "NativeWorksModel"]
theorem kn0 : Cond.arrayOver (FieldType.array FieldType.int) ∈ rNs := List.mem_of_getElem? (i := 0) rfl
theorem kn1 : Cond.arrayOver (FieldType.object "java/lang/String") ∈ rNs := List.mem_of_getElem? (i := 1) rfl
theorem kn2 : Cond.arrayOver (FieldType.array FieldType.byte) ∈ rNs := List.mem_of_getElem? (i := 2) rfl
theorem kn3 : Cond.methodLinkNest "NativeWorksModel" 293 ⟨"NativeWorksModel$Code", "<init>", "()V"⟩ "NativeWorksModel" ∈ rNs := List.mem_of_getElem? (i := 3) rfl
def rZs : List (String × String × String × rCV) := [("java/lang/String", "COMPACT_STRINGS", "Z", .inl 1), ("jdk/internal/util/Preconditions", "SIOOBE_FORMATTER", "Ljava/util/function/BiFunction;", .inr (.inr 2)), ("NativeWorks$Instruction", "L_AT", "[I", .inr (.inr 72)), ("NativeWorks$Instruction", "ARITHMETIC", "[I", .inr (.inr 74)), ("NativeWorks$Instruction", "TABLE", "[I", .inr (.inr 76)), ("java/lang/Intege\x72", "DigitOnes", "[B", .inr (.inr 158)), ("java/lang/Intege\x72", "DigitTens", "[B", .inr (.inr 160))]
theorem kz0 : ("java/lang/String", "COMPACT_STRINGS", "Z", .inl 1) ∈ rZs := List.mem_of_getElem? (i := 0) rfl
theorem kz1 : ("jdk/internal/util/Preconditions", "SIOOBE_FORMATTER", "Ljava/util/function/BiFunction;", .inr (.inr 2)) ∈ rZs := List.mem_of_getElem? (i := 1) rfl
theorem kz2 : ("NativeWorks$Instruction", "L_AT", "[I", .inr (.inr 72)) ∈ rZs := List.mem_of_getElem? (i := 2) rfl
theorem kz3 : ("NativeWorks$Instruction", "ARITHMETIC", "[I", .inr (.inr 74)) ∈ rZs := List.mem_of_getElem? (i := 3) rfl
theorem kz4 : ("NativeWorks$Instruction", "TABLE", "[I", .inr (.inr 76)) ∈ rZs := List.mem_of_getElem? (i := 4) rfl
theorem kz5 : ("java/lang/Intege\x72", "DigitOnes", "[B", .inr (.inr 158)) ∈ rZs := List.mem_of_getElem? (i := 5) rfl
theorem kz6 : ("java/lang/Intege\x72", "DigitTens", "[B", .inr (.inr 160)) ∈ rZs := List.mem_of_getElem? (i := 6) rfl
def rRs : List (String × Nat × String × Nat) := [("NativeWorks$Line", 38, "rax rcx rdx rbx rsp rbp rsi rdi r8 r9 r10 r11 r12 r13 r14 r15", 1), ("NativeWorks$Line", 44, "eax ecx edx ebx esp ebp esi edi r8d r9d r10d r11d r12d r13d r14d r15d", 3), ("NativeWorks$Line", 46, "al cl dl bl spl bpl sil dil r8b r9b r10b r11b r12b r13b r14b r15b", 5), ("NativeWorks$Line", 48, "byte dword qword rel equ rep", 7), ("NativeWorks$Line", 50, "if else endif rept endr macro endm", 9), ("NativeWorks$Line", 52, "section global weak keep db dw dd dq resb align", 11), ("NativeWorks$Line", 54, "add or adc sbb and sub xor cmp mov test xchg lea movzx movsx movsxd", 13), ("NativeWorks$Line", 56, "not neg mul imul div idiv inc dec", 15), ("NativeWorks$Line", 58, "rol ror shl shr sar push pop jmp call ret", 17), ("NativeWorks$Line", 60, "nop int3 ud2 syscall leave bsf bsr bswap bt xadd cmpxchg", 19), ("NativeWorks$Line", 62, "cdq cqo cwde cdqe movsb movsd movsq stosb stosd stosq", 21), ("NativeWorks$Line", 64, "jo jno jb jae je jne jbe ja js jns jp jnp jl jge jle jg jc jnc jz jnz", 23), ("NativeWorks$Line", 66, "seto setno setb setae sete setne setbe seta sets setns", 25), ("NativeWorks$Line", 68, "setp setnp setl setge setle setg setc setnc setz setnz", 27), ("NativeWorks$Line", 70, "cmovo cmovno cmovb cmovae cmove cmovne cmovbe cmova cmovs cmovns", 29), ("NativeWorks$Line", 72, "cmovp cmovnp cmovl cmovge cmovle cmovg cmovc cmovnc cmovz cmovnz", 31), ("NativeWorks$Line", 74, "text rodata data bss", 33), ("NativeWorksModel", 486, "o", 38), ("NativeWorksModel", 488, "no", 40), ("NativeWorksModel", 490, "b", 42), ("NativeWorksModel", 492, "ae", 44), ("NativeWorksModel", 494, "e", 46), ("NativeWorksModel", 496, "ne", 48), ("NativeWorksModel", 498, "be", 50), ("NativeWorksModel", 500, "a", 52), ("NativeWorksModel", 502, "s", 54), ("NativeWorksModel", 504, "ns", 56), ("NativeWorksModel", 506, "p", 58), ("NativeWorksModel", 508, "np", 60), ("NativeWorksModel", 510, "l", 62), ("NativeWorksModel", 512, "ge", 64), ("NativeWorksModel", 514, "le", 66), ("NativeWorksModel", 516, "g", 68), ("NativeWorksModel", 518, "c", 70), ("NativeWorksModel", 520, "nc", 72), ("NativeWorksModel", 522, "z", 74), ("NativeWorksModel", 524, "nz", 76), ("NativeWorksModel", 541, "\x72", 80), ("NativeWorksModel", 546, "rax", 82), ("NativeWorksModel", 548, "rcx", 84), ("NativeWorksModel", 550, "rdx", 86), ("NativeWorksModel", 552, "rbx", 88), ("NativeWorksModel", 554, "rsp", 90), ("NativeWorksModel", 556, "rbp", 92), ("NativeWorksModel", 558, "rsi", 94), ("NativeWorksModel", 560, "rdi", 96), ("NativeWorksModel", 562, "eax", 98), ("NativeWorksModel", 564, "ecx", 100), ("NativeWorksModel", 566, "edx", 102), ("NativeWorksModel", 568, "ebx", 104), ("NativeWorksModel", 570, "esp", 106), ("NativeWorksModel", 572, "ebp", 108), ("NativeWorksModel", 574, "esi", 110), ("NativeWorksModel", 576, "edi", 112), ("NativeWorksModel", 578, "al", 114), ("NativeWorksModel", 580, "cl", 116), ("NativeWorksModel", 582, "dl", 118), ("NativeWorksModel", 584, "bl", 120), ("NativeWorksModel", 586, "spl", 122), ("NativeWorksModel", 588, "bpl", 124), ("NativeWorksModel", 590, "sil", 126), ("NativeWorksModel", 592, "dil", 128), ("NativeWorksModel", 597, "", 130), ("NativeWorksModel", 603, "d", 132), ("NativeWorksModel", 350, "add or adc sbb and sub xor cmp mov test xchg lea movzx movsx movsxd not neg mul imul div idiv inc dec", 134), ("NativeWorksModel", 356, "rol ror shl shr sar push pop jmp call ret", 17), ("NativeWorksModel", 358, "j", 136), ("NativeWorksModel", 363, "set", 138), ("NativeWorksModel", 365, "cmov", 140), ("NativeWorksModel", 367, "cdq", 142), ("NativeWorksModel", 373, "cqo", 144), ("NativeWorksModel", 376, "cwde", 146), ("NativeWorksModel", 379, "cdqe", 148), ("NativeWorksModel", 382, "nop int3 ud2 syscall leave bsf bsr bswap bt xadd cmpxchg", 19), ("NativeWorksModel", 384, "movsb", 150), ("NativeWorksModel", 387, "movsd", 152), ("NativeWorksModel", 390, "movsq", 154), ("NativeWorksModel", 393, "stosb", 156), ("NativeWorksModel", 396, "stosd", 158), ("NativeWorksModel", 399, "stosq", 160), ("NativeWorksModel", 402, "section global weak keep db dw dd dq resb align if else endif rept endr macro endm rep", 162), ("NativeWorksModel", 404, "byte", 164), ("NativeWorksModel", 406, "dword", 166), ("NativeWorksModel", 408, "qword", 168), ("NativeWorksModel", 410, "rel", 170), ("NativeWorksModel", 412, "equ", 172), ("NativeWorksModel", 417, "text", 174), ("NativeWorksModel", 427, "rodata", 176), ("NativeWorksModel", 432, "data", 178), ("NativeWorksModel", 436, "bss", 180), ("NativeWorksModel", 456, "rep", 182), ("NativeWorksModel", 461, "start", 184)]
theorem kr0 : ("NativeWorks$Line", 38, "rax rcx rdx rbx rsp rbp rsi rdi r8 r9 r10 r11 r12 r13 r14 r15", 1) ∈ rRs := List.mem_of_getElem? (i := 0) rfl
theorem kr1 : ("NativeWorks$Line", 44, "eax ecx edx ebx esp ebp esi edi r8d r9d r10d r11d r12d r13d r14d r15d", 3) ∈ rRs := List.mem_of_getElem? (i := 1) rfl
theorem kr2 : ("NativeWorks$Line", 46, "al cl dl bl spl bpl sil dil r8b r9b r10b r11b r12b r13b r14b r15b", 5) ∈ rRs := List.mem_of_getElem? (i := 2) rfl
theorem kr3 : ("NativeWorks$Line", 48, "byte dword qword rel equ rep", 7) ∈ rRs := List.mem_of_getElem? (i := 3) rfl
theorem kr4 : ("NativeWorks$Line", 50, "if else endif rept endr macro endm", 9) ∈ rRs := List.mem_of_getElem? (i := 4) rfl
theorem kr5 : ("NativeWorks$Line", 52, "section global weak keep db dw dd dq resb align", 11) ∈ rRs := List.mem_of_getElem? (i := 5) rfl
theorem kr6 : ("NativeWorks$Line", 54, "add or adc sbb and sub xor cmp mov test xchg lea movzx movsx movsxd", 13) ∈ rRs := List.mem_of_getElem? (i := 6) rfl
theorem kr7 : ("NativeWorks$Line", 56, "not neg mul imul div idiv inc dec", 15) ∈ rRs := List.mem_of_getElem? (i := 7) rfl
theorem kr8 : ("NativeWorks$Line", 58, "rol ror shl shr sar push pop jmp call ret", 17) ∈ rRs := List.mem_of_getElem? (i := 8) rfl
theorem kr9 : ("NativeWorks$Line", 60, "nop int3 ud2 syscall leave bsf bsr bswap bt xadd cmpxchg", 19) ∈ rRs := List.mem_of_getElem? (i := 9) rfl
theorem kr10 : ("NativeWorks$Line", 62, "cdq cqo cwde cdqe movsb movsd movsq stosb stosd stosq", 21) ∈ rRs := List.mem_of_getElem? (i := 10) rfl
theorem kr11 : ("NativeWorks$Line", 64, "jo jno jb jae je jne jbe ja js jns jp jnp jl jge jle jg jc jnc jz jnz", 23) ∈ rRs := List.mem_of_getElem? (i := 11) rfl
theorem kr12 : ("NativeWorks$Line", 66, "seto setno setb setae sete setne setbe seta sets setns", 25) ∈ rRs := List.mem_of_getElem? (i := 12) rfl
theorem kr13 : ("NativeWorks$Line", 68, "setp setnp setl setge setle setg setc setnc setz setnz", 27) ∈ rRs := List.mem_of_getElem? (i := 13) rfl
theorem kr14 : ("NativeWorks$Line", 70, "cmovo cmovno cmovb cmovae cmove cmovne cmovbe cmova cmovs cmovns", 29) ∈ rRs := List.mem_of_getElem? (i := 14) rfl
theorem kr15 : ("NativeWorks$Line", 72, "cmovp cmovnp cmovl cmovge cmovle cmovg cmovc cmovnc cmovz cmovnz", 31) ∈ rRs := List.mem_of_getElem? (i := 15) rfl
theorem kr16 : ("NativeWorks$Line", 74, "text rodata data bss", 33) ∈ rRs := List.mem_of_getElem? (i := 16) rfl
theorem kr17 : ("NativeWorksModel", 486, "o", 38) ∈ rRs := List.mem_of_getElem? (i := 17) rfl
theorem kr18 : ("NativeWorksModel", 488, "no", 40) ∈ rRs := List.mem_of_getElem? (i := 18) rfl
theorem kr19 : ("NativeWorksModel", 490, "b", 42) ∈ rRs := List.mem_of_getElem? (i := 19) rfl
theorem kr20 : ("NativeWorksModel", 492, "ae", 44) ∈ rRs := List.mem_of_getElem? (i := 20) rfl
theorem kr21 : ("NativeWorksModel", 494, "e", 46) ∈ rRs := List.mem_of_getElem? (i := 21) rfl
theorem kr22 : ("NativeWorksModel", 496, "ne", 48) ∈ rRs := List.mem_of_getElem? (i := 22) rfl
theorem kr23 : ("NativeWorksModel", 498, "be", 50) ∈ rRs := List.mem_of_getElem? (i := 23) rfl
theorem kr24 : ("NativeWorksModel", 500, "a", 52) ∈ rRs := List.mem_of_getElem? (i := 24) rfl
theorem kr25 : ("NativeWorksModel", 502, "s", 54) ∈ rRs := List.mem_of_getElem? (i := 25) rfl
theorem kr26 : ("NativeWorksModel", 504, "ns", 56) ∈ rRs := List.mem_of_getElem? (i := 26) rfl
theorem kr27 : ("NativeWorksModel", 506, "p", 58) ∈ rRs := List.mem_of_getElem? (i := 27) rfl
theorem kr28 : ("NativeWorksModel", 508, "np", 60) ∈ rRs := List.mem_of_getElem? (i := 28) rfl
theorem kr29 : ("NativeWorksModel", 510, "l", 62) ∈ rRs := List.mem_of_getElem? (i := 29) rfl
theorem kr30 : ("NativeWorksModel", 512, "ge", 64) ∈ rRs := List.mem_of_getElem? (i := 30) rfl
theorem kr31 : ("NativeWorksModel", 514, "le", 66) ∈ rRs := List.mem_of_getElem? (i := 31) rfl
theorem kr32 : ("NativeWorksModel", 516, "g", 68) ∈ rRs := List.mem_of_getElem? (i := 32) rfl
theorem kr33 : ("NativeWorksModel", 518, "c", 70) ∈ rRs := List.mem_of_getElem? (i := 33) rfl
theorem kr34 : ("NativeWorksModel", 520, "nc", 72) ∈ rRs := List.mem_of_getElem? (i := 34) rfl
theorem kr35 : ("NativeWorksModel", 522, "z", 74) ∈ rRs := List.mem_of_getElem? (i := 35) rfl
theorem kr36 : ("NativeWorksModel", 524, "nz", 76) ∈ rRs := List.mem_of_getElem? (i := 36) rfl
theorem kr37 : ("NativeWorksModel", 541, "\x72", 80) ∈ rRs := List.mem_of_getElem? (i := 37) rfl
theorem kr38 : ("NativeWorksModel", 546, "rax", 82) ∈ rRs := List.mem_of_getElem? (i := 38) rfl
theorem kr39 : ("NativeWorksModel", 548, "rcx", 84) ∈ rRs := List.mem_of_getElem? (i := 39) rfl
theorem kr40 : ("NativeWorksModel", 550, "rdx", 86) ∈ rRs := List.mem_of_getElem? (i := 40) rfl
theorem kr41 : ("NativeWorksModel", 552, "rbx", 88) ∈ rRs := List.mem_of_getElem? (i := 41) rfl
theorem kr42 : ("NativeWorksModel", 554, "rsp", 90) ∈ rRs := List.mem_of_getElem? (i := 42) rfl
theorem kr43 : ("NativeWorksModel", 556, "rbp", 92) ∈ rRs := List.mem_of_getElem? (i := 43) rfl
theorem kr44 : ("NativeWorksModel", 558, "rsi", 94) ∈ rRs := List.mem_of_getElem? (i := 44) rfl
theorem kr45 : ("NativeWorksModel", 560, "rdi", 96) ∈ rRs := List.mem_of_getElem? (i := 45) rfl
theorem kr46 : ("NativeWorksModel", 562, "eax", 98) ∈ rRs := List.mem_of_getElem? (i := 46) rfl
theorem kr47 : ("NativeWorksModel", 564, "ecx", 100) ∈ rRs := List.mem_of_getElem? (i := 47) rfl
theorem kr48 : ("NativeWorksModel", 566, "edx", 102) ∈ rRs := List.mem_of_getElem? (i := 48) rfl
theorem kr49 : ("NativeWorksModel", 568, "ebx", 104) ∈ rRs := List.mem_of_getElem? (i := 49) rfl
theorem kr50 : ("NativeWorksModel", 570, "esp", 106) ∈ rRs := List.mem_of_getElem? (i := 50) rfl
theorem kr51 : ("NativeWorksModel", 572, "ebp", 108) ∈ rRs := List.mem_of_getElem? (i := 51) rfl
theorem kr52 : ("NativeWorksModel", 574, "esi", 110) ∈ rRs := List.mem_of_getElem? (i := 52) rfl
theorem kr53 : ("NativeWorksModel", 576, "edi", 112) ∈ rRs := List.mem_of_getElem? (i := 53) rfl
theorem kr54 : ("NativeWorksModel", 578, "al", 114) ∈ rRs := List.mem_of_getElem? (i := 54) rfl
theorem kr55 : ("NativeWorksModel", 580, "cl", 116) ∈ rRs := List.mem_of_getElem? (i := 55) rfl
theorem kr56 : ("NativeWorksModel", 582, "dl", 118) ∈ rRs := List.mem_of_getElem? (i := 56) rfl
theorem kr57 : ("NativeWorksModel", 584, "bl", 120) ∈ rRs := List.mem_of_getElem? (i := 57) rfl
theorem kr58 : ("NativeWorksModel", 586, "spl", 122) ∈ rRs := List.mem_of_getElem? (i := 58) rfl
theorem kr59 : ("NativeWorksModel", 588, "bpl", 124) ∈ rRs := List.mem_of_getElem? (i := 59) rfl
theorem kr60 : ("NativeWorksModel", 590, "sil", 126) ∈ rRs := List.mem_of_getElem? (i := 60) rfl
theorem kr61 : ("NativeWorksModel", 592, "dil", 128) ∈ rRs := List.mem_of_getElem? (i := 61) rfl
theorem kr62 : ("NativeWorksModel", 597, "", 130) ∈ rRs := List.mem_of_getElem? (i := 62) rfl
theorem kr63 : ("NativeWorksModel", 603, "d", 132) ∈ rRs := List.mem_of_getElem? (i := 63) rfl
theorem kr64 : ("NativeWorksModel", 350, "add or adc sbb and sub xor cmp mov test xchg lea movzx movsx movsxd not neg mul imul div idiv inc dec", 134) ∈ rRs := List.mem_of_getElem? (i := 64) rfl
theorem kr65 : ("NativeWorksModel", 356, "rol ror shl shr sar push pop jmp call ret", 17) ∈ rRs := List.mem_of_getElem? (i := 65) rfl
theorem kr66 : ("NativeWorksModel", 358, "j", 136) ∈ rRs := List.mem_of_getElem? (i := 66) rfl
theorem kr67 : ("NativeWorksModel", 363, "set", 138) ∈ rRs := List.mem_of_getElem? (i := 67) rfl
theorem kr68 : ("NativeWorksModel", 365, "cmov", 140) ∈ rRs := List.mem_of_getElem? (i := 68) rfl
theorem kr69 : ("NativeWorksModel", 367, "cdq", 142) ∈ rRs := List.mem_of_getElem? (i := 69) rfl
theorem kr70 : ("NativeWorksModel", 373, "cqo", 144) ∈ rRs := List.mem_of_getElem? (i := 70) rfl
theorem kr71 : ("NativeWorksModel", 376, "cwde", 146) ∈ rRs := List.mem_of_getElem? (i := 71) rfl
theorem kr72 : ("NativeWorksModel", 379, "cdqe", 148) ∈ rRs := List.mem_of_getElem? (i := 72) rfl
theorem kr73 : ("NativeWorksModel", 382, "nop int3 ud2 syscall leave bsf bsr bswap bt xadd cmpxchg", 19) ∈ rRs := List.mem_of_getElem? (i := 73) rfl
theorem kr74 : ("NativeWorksModel", 384, "movsb", 150) ∈ rRs := List.mem_of_getElem? (i := 74) rfl
theorem kr75 : ("NativeWorksModel", 387, "movsd", 152) ∈ rRs := List.mem_of_getElem? (i := 75) rfl
theorem kr76 : ("NativeWorksModel", 390, "movsq", 154) ∈ rRs := List.mem_of_getElem? (i := 76) rfl
theorem kr77 : ("NativeWorksModel", 393, "stosb", 156) ∈ rRs := List.mem_of_getElem? (i := 77) rfl
theorem kr78 : ("NativeWorksModel", 396, "stosd", 158) ∈ rRs := List.mem_of_getElem? (i := 78) rfl
theorem kr79 : ("NativeWorksModel", 399, "stosq", 160) ∈ rRs := List.mem_of_getElem? (i := 79) rfl
theorem kr80 : ("NativeWorksModel", 402, "section global weak keep db dw dd dq resb align if else endif rept endr macro endm rep", 162) ∈ rRs := List.mem_of_getElem? (i := 80) rfl
theorem kr81 : ("NativeWorksModel", 404, "byte", 164) ∈ rRs := List.mem_of_getElem? (i := 81) rfl
theorem kr82 : ("NativeWorksModel", 406, "dword", 166) ∈ rRs := List.mem_of_getElem? (i := 82) rfl
theorem kr83 : ("NativeWorksModel", 408, "qword", 168) ∈ rRs := List.mem_of_getElem? (i := 83) rfl
theorem kr84 : ("NativeWorksModel", 410, "rel", 170) ∈ rRs := List.mem_of_getElem? (i := 84) rfl
theorem kr85 : ("NativeWorksModel", 412, "equ", 172) ∈ rRs := List.mem_of_getElem? (i := 85) rfl
theorem kr86 : ("NativeWorksModel", 417, "text", 174) ∈ rRs := List.mem_of_getElem? (i := 86) rfl
theorem kr87 : ("NativeWorksModel", 427, "rodata", 176) ∈ rRs := List.mem_of_getElem? (i := 87) rfl
theorem kr88 : ("NativeWorksModel", 432, "data", 178) ∈ rRs := List.mem_of_getElem? (i := 88) rfl
theorem kr89 : ("NativeWorksModel", 436, "bss", 180) ∈ rRs := List.mem_of_getElem? (i := 89) rfl
theorem kr90 : ("NativeWorksModel", 456, "rep", 182) ∈ rRs := List.mem_of_getElem? (i := 90) rfl
theorem kr91 : ("NativeWorksModel", 461, "start", 184) ∈ rRs := List.mem_of_getElem? (i := 91) rfl
noncomputable def rFo : List rCC := [.inl (99, []),
  .inl (0, [.inr (.inr 6), .inl 0]),
  .inr (2, 61, .inl 0, [(0, [(0, .inl 114), (1, .inl 97), (2, .inl 120), (3, .inl 32), (4, .inl 114), (5, .inl 99), (6, .inl 120), (7, .inl 32), (8, .inl 114), (9, .inl 100), (10, .inl 120), (11, .inl 32), (12, .inl 114), (13, .inl 98), (14, .inl 120), (15, .inl 32), (16, .inl 114), (17, .inl 115), (18, .inl 112), (19, .inl 32), (20, .inl 114), (21, .inl 98), (22, .inl 112), (23, .inl 32), (24, .inl 114), (25, .inl 115), (26, .inl 105), (27, .inl 32), (28, .inl 114), (29, .inl 100), (30, .inl 105), (31, .inl 32), (32, .inl 114), (33, .inl 56), (34, .inl 32), (35, .inl 114), (36, .inl 57), (37, .inl 32), (38, .inl 114), (39, .inl 49), (40, .inl 48), (41, .inl 32), (42, .inl 114), (43, .inl 49), (44, .inl 49), (45, .inl 32), (46, .inl 114), (47, .inl 49), (48, .inl 50), (49, .inl 32), (50, .inl 114), (51, .inl 49), (52, .inl 51), (53, .inl 32), (54, .inl 114), (55, .inl 49), (56, .inl 52), (57, .inl 32), (58, .inl 114), (59, .inl 49), (60, .inl 53)])]),
  .inl (0, [.inr (.inr 10), .inl 0]),
  .inr (2, 69, .inl 0, [(0, [(0, .inl 101), (1, .inl 97), (2, .inl 120), (3, .inl 32), (4, .inl 101), (5, .inl 99), (6, .inl 120), (7, .inl 32), (8, .inl 101), (9, .inl 100), (10, .inl 120), (11, .inl 32), (12, .inl 101), (13, .inl 98), (14, .inl 120), (15, .inl 32), (16, .inl 101), (17, .inl 115), (18, .inl 112), (19, .inl 32), (20, .inl 101), (21, .inl 98), (22, .inl 112), (23, .inl 32), (24, .inl 101), (25, .inl 115), (26, .inl 105), (27, .inl 32), (28, .inl 101), (29, .inl 100), (30, .inl 105), (31, .inl 32), (32, .inl 114), (33, .inl 56), (34, .inl 100), (35, .inl 32), (36, .inl 114), (37, .inl 57), (38, .inl 100), (39, .inl 32), (40, .inl 114), (41, .inl 49), (42, .inl 48), (43, .inl 100), (44, .inl 32), (45, .inl 114), (46, .inl 49), (47, .inl 49), (48, .inl 100), (49, .inl 32), (50, .inl 114), (51, .inl 49), (52, .inl 50), (53, .inl 100), (54, .inl 32), (55, .inl 114), (56, .inl 49), (57, .inl 51), (58, .inl 100), (59, .inl 32), (60, .inl 114), (61, .inl 49), (62, .inl 52), (63, .inl 100)]), (1, [(64, .inl 32), (65, .inl 114), (66, .inl 49), (67, .inl 53), (68, .inl 100)])]),
  .inl (0, [.inr (.inr 14), .inl 0]),
  .inr (2, 65, .inl 0, [(0, [(0, .inl 97), (1, .inl 108), (2, .inl 32), (3, .inl 99), (4, .inl 108), (5, .inl 32), (6, .inl 100), (7, .inl 108), (8, .inl 32), (9, .inl 98), (10, .inl 108), (11, .inl 32), (12, .inl 115), (13, .inl 112), (14, .inl 108), (15, .inl 32), (16, .inl 98), (17, .inl 112), (18, .inl 108), (19, .inl 32), (20, .inl 115), (21, .inl 105), (22, .inl 108), (23, .inl 32), (24, .inl 100), (25, .inl 105), (26, .inl 108), (27, .inl 32), (28, .inl 114), (29, .inl 56), (30, .inl 98), (31, .inl 32), (32, .inl 114), (33, .inl 57), (34, .inl 98), (35, .inl 32), (36, .inl 114), (37, .inl 49), (38, .inl 48), (39, .inl 98), (40, .inl 32), (41, .inl 114), (42, .inl 49), (43, .inl 49), (44, .inl 98), (45, .inl 32), (46, .inl 114), (47, .inl 49), (48, .inl 50), (49, .inl 98), (50, .inl 32), (51, .inl 114), (52, .inl 49), (53, .inl 51), (54, .inl 98), (55, .inl 32), (56, .inl 114), (57, .inl 49), (58, .inl 52), (59, .inl 98), (60, .inl 32), (61, .inl 114), (62, .inl 49), (63, .inl 53)]), (1, [(64, .inl 98)])]),
  .inl (0, [.inr (.inr 18), .inl 0]),
  .inr (2, 28, .inl 0, [(0, [(0, .inl 98), (1, .inl 121), (2, .inl 116), (3, .inl 101), (4, .inl 32), (5, .inl 100), (6, .inl 119), (7, .inl 111), (8, .inl 114), (9, .inl 100), (10, .inl 32), (11, .inl 113), (12, .inl 119), (13, .inl 111), (14, .inl 114), (15, .inl 100), (16, .inl 32), (17, .inl 114), (18, .inl 101), (19, .inl 108), (20, .inl 32), (21, .inl 101), (22, .inl 113), (23, .inl 117), (24, .inl 32), (25, .inl 114), (26, .inl 101), (27, .inl 112)])]),
  .inl (0, [.inr (.inr 22), .inl 0]),
  .inr (2, 34, .inl 0, [(0, [(0, .inl 105), (1, .inl 102), (2, .inl 32), (3, .inl 101), (4, .inl 108), (5, .inl 115), (6, .inl 101), (7, .inl 32), (8, .inl 101), (9, .inl 110), (10, .inl 100), (11, .inl 105), (12, .inl 102), (13, .inl 32), (14, .inl 114), (15, .inl 101), (16, .inl 112), (17, .inl 116), (18, .inl 32), (19, .inl 101), (20, .inl 110), (21, .inl 100), (22, .inl 114), (23, .inl 32), (24, .inl 109), (25, .inl 97), (26, .inl 99), (27, .inl 114), (28, .inl 111), (29, .inl 32), (30, .inl 101), (31, .inl 110), (32, .inl 100), (33, .inl 109)])]),
  .inl (0, [.inr (.inr 26), .inl 0]),
  .inr (2, 47, .inl 0, [(0, [(0, .inl 115), (1, .inl 101), (2, .inl 99), (3, .inl 116), (4, .inl 105), (5, .inl 111), (6, .inl 110), (7, .inl 32), (8, .inl 103), (9, .inl 108), (10, .inl 111), (11, .inl 98), (12, .inl 97), (13, .inl 108), (14, .inl 32), (15, .inl 119), (16, .inl 101), (17, .inl 97), (18, .inl 107), (19, .inl 32), (20, .inl 107), (21, .inl 101), (22, .inl 101), (23, .inl 112), (24, .inl 32), (25, .inl 100), (26, .inl 98), (27, .inl 32), (28, .inl 100), (29, .inl 119), (30, .inl 32), (31, .inl 100), (32, .inl 100), (33, .inl 32), (34, .inl 100), (35, .inl 113), (36, .inl 32), (37, .inl 114), (38, .inl 101), (39, .inl 115), (40, .inl 98), (41, .inl 32), (42, .inl 97), (43, .inl 108), (44, .inl 105), (45, .inl 103), (46, .inl 110)])]),
  .inl (0, [.inr (.inr 30), .inl 0]),
  .inr (2, 67, .inl 0, [(0, [(0, .inl 97), (1, .inl 100), (2, .inl 100), (3, .inl 32), (4, .inl 111), (5, .inl 114), (6, .inl 32), (7, .inl 97), (8, .inl 100), (9, .inl 99), (10, .inl 32), (11, .inl 115), (12, .inl 98), (13, .inl 98), (14, .inl 32), (15, .inl 97), (16, .inl 110), (17, .inl 100), (18, .inl 32), (19, .inl 115), (20, .inl 117), (21, .inl 98), (22, .inl 32), (23, .inl 120), (24, .inl 111), (25, .inl 114), (26, .inl 32), (27, .inl 99), (28, .inl 109), (29, .inl 112), (30, .inl 32), (31, .inl 109), (32, .inl 111), (33, .inl 118), (34, .inl 32), (35, .inl 116), (36, .inl 101), (37, .inl 115), (38, .inl 116), (39, .inl 32), (40, .inl 120), (41, .inl 99), (42, .inl 104), (43, .inl 103), (44, .inl 32), (45, .inl 108), (46, .inl 101), (47, .inl 97), (48, .inl 32), (49, .inl 109), (50, .inl 111), (51, .inl 118), (52, .inl 122), (53, .inl 120), (54, .inl 32), (55, .inl 109), (56, .inl 111), (57, .inl 118), (58, .inl 115), (59, .inl 120), (60, .inl 32), (61, .inl 109), (62, .inl 111), (63, .inl 118)]), (1, [(64, .inl 115), (65, .inl 120), (66, .inl 100)])]),
  .inl (0, [.inr (.inr 34), .inl 0]),
  .inr (2, 33, .inl 0, [(0, [(0, .inl 110), (1, .inl 111), (2, .inl 116), (3, .inl 32), (4, .inl 110), (5, .inl 101), (6, .inl 103), (7, .inl 32), (8, .inl 109), (9, .inl 117), (10, .inl 108), (11, .inl 32), (12, .inl 105), (13, .inl 109), (14, .inl 117), (15, .inl 108), (16, .inl 32), (17, .inl 100), (18, .inl 105), (19, .inl 118), (20, .inl 32), (21, .inl 105), (22, .inl 100), (23, .inl 105), (24, .inl 118), (25, .inl 32), (26, .inl 105), (27, .inl 110), (28, .inl 99), (29, .inl 32), (30, .inl 100), (31, .inl 101), (32, .inl 99)])]),
  .inl (0, [.inr (.inr 38), .inl 0]),
  .inr (2, 41, .inl 0, [(0, [(0, .inl 114), (1, .inl 111), (2, .inl 108), (3, .inl 32), (4, .inl 114), (5, .inl 111), (6, .inl 114), (7, .inl 32), (8, .inl 115), (9, .inl 104), (10, .inl 108), (11, .inl 32), (12, .inl 115), (13, .inl 104), (14, .inl 114), (15, .inl 32), (16, .inl 115), (17, .inl 97), (18, .inl 114), (19, .inl 32), (20, .inl 112), (21, .inl 117), (22, .inl 115), (23, .inl 104), (24, .inl 32), (25, .inl 112), (26, .inl 111), (27, .inl 112), (28, .inl 32), (29, .inl 106), (30, .inl 109), (31, .inl 112), (32, .inl 32), (33, .inl 99), (34, .inl 97), (35, .inl 108), (36, .inl 108), (37, .inl 32), (38, .inl 114), (39, .inl 101), (40, .inl 116)])]),
  .inl (0, [.inr (.inr 42), .inl 0]),
  .inr (2, 56, .inl 0, [(0, [(0, .inl 110), (1, .inl 111), (2, .inl 112), (3, .inl 32), (4, .inl 105), (5, .inl 110), (6, .inl 116), (7, .inl 51), (8, .inl 32), (9, .inl 117), (10, .inl 100), (11, .inl 50), (12, .inl 32), (13, .inl 115), (14, .inl 121), (15, .inl 115), (16, .inl 99), (17, .inl 97), (18, .inl 108), (19, .inl 108), (20, .inl 32), (21, .inl 108), (22, .inl 101), (23, .inl 97), (24, .inl 118), (25, .inl 101), (26, .inl 32), (27, .inl 98), (28, .inl 115), (29, .inl 102), (30, .inl 32), (31, .inl 98), (32, .inl 115), (33, .inl 114), (34, .inl 32), (35, .inl 98), (36, .inl 115), (37, .inl 119), (38, .inl 97), (39, .inl 112), (40, .inl 32), (41, .inl 98), (42, .inl 116), (43, .inl 32), (44, .inl 120), (45, .inl 97), (46, .inl 100), (47, .inl 100), (48, .inl 32), (49, .inl 99), (50, .inl 109), (51, .inl 112), (52, .inl 120), (53, .inl 99), (54, .inl 104), (55, .inl 103)])]),
  .inl (0, [.inr (.inr 46), .inl 0]),
  .inr (2, 53, .inl 0, [(0, [(0, .inl 99), (1, .inl 100), (2, .inl 113), (3, .inl 32), (4, .inl 99), (5, .inl 113), (6, .inl 111), (7, .inl 32), (8, .inl 99), (9, .inl 119), (10, .inl 100), (11, .inl 101), (12, .inl 32), (13, .inl 99), (14, .inl 100), (15, .inl 113), (16, .inl 101), (17, .inl 32), (18, .inl 109), (19, .inl 111), (20, .inl 118), (21, .inl 115), (22, .inl 98), (23, .inl 32), (24, .inl 109), (25, .inl 111), (26, .inl 118), (27, .inl 115), (28, .inl 100), (29, .inl 32), (30, .inl 109), (31, .inl 111), (32, .inl 118), (33, .inl 115), (34, .inl 113), (35, .inl 32), (36, .inl 115), (37, .inl 116), (38, .inl 111), (39, .inl 115), (40, .inl 98), (41, .inl 32), (42, .inl 115), (43, .inl 116), (44, .inl 111), (45, .inl 115), (46, .inl 100), (47, .inl 32), (48, .inl 115), (49, .inl 116), (50, .inl 111), (51, .inl 115), (52, .inl 113)])]),
  .inl (0, [.inr (.inr 50), .inl 0]),
  .inr (2, 69, .inl 0, [(0, [(0, .inl 106), (1, .inl 111), (2, .inl 32), (3, .inl 106), (4, .inl 110), (5, .inl 111), (6, .inl 32), (7, .inl 106), (8, .inl 98), (9, .inl 32), (10, .inl 106), (11, .inl 97), (12, .inl 101), (13, .inl 32), (14, .inl 106), (15, .inl 101), (16, .inl 32), (17, .inl 106), (18, .inl 110), (19, .inl 101), (20, .inl 32), (21, .inl 106), (22, .inl 98), (23, .inl 101), (24, .inl 32), (25, .inl 106), (26, .inl 97), (27, .inl 32), (28, .inl 106), (29, .inl 115), (30, .inl 32), (31, .inl 106), (32, .inl 110), (33, .inl 115), (34, .inl 32), (35, .inl 106), (36, .inl 112), (37, .inl 32), (38, .inl 106), (39, .inl 110), (40, .inl 112), (41, .inl 32), (42, .inl 106), (43, .inl 108), (44, .inl 32), (45, .inl 106), (46, .inl 103), (47, .inl 101), (48, .inl 32), (49, .inl 106), (50, .inl 108), (51, .inl 101), (52, .inl 32), (53, .inl 106), (54, .inl 103), (55, .inl 32), (56, .inl 106), (57, .inl 99), (58, .inl 32), (59, .inl 106), (60, .inl 110), (61, .inl 99), (62, .inl 32), (63, .inl 106)]), (1, [(64, .inl 122), (65, .inl 32), (66, .inl 106), (67, .inl 110), (68, .inl 122)])]),
  .inl (0, [.inr (.inr 54), .inl 0]),
  .inr (2, 54, .inl 0, [(0, [(0, .inl 115), (1, .inl 101), (2, .inl 116), (3, .inl 111), (4, .inl 32), (5, .inl 115), (6, .inl 101), (7, .inl 116), (8, .inl 110), (9, .inl 111), (10, .inl 32), (11, .inl 115), (12, .inl 101), (13, .inl 116), (14, .inl 98), (15, .inl 32), (16, .inl 115), (17, .inl 101), (18, .inl 116), (19, .inl 97), (20, .inl 101), (21, .inl 32), (22, .inl 115), (23, .inl 101), (24, .inl 116), (25, .inl 101), (26, .inl 32), (27, .inl 115), (28, .inl 101), (29, .inl 116), (30, .inl 110), (31, .inl 101), (32, .inl 32), (33, .inl 115), (34, .inl 101), (35, .inl 116), (36, .inl 98), (37, .inl 101), (38, .inl 32), (39, .inl 115), (40, .inl 101), (41, .inl 116), (42, .inl 97), (43, .inl 32), (44, .inl 115), (45, .inl 101), (46, .inl 116), (47, .inl 115), (48, .inl 32), (49, .inl 115), (50, .inl 101), (51, .inl 116), (52, .inl 110), (53, .inl 115)])]),
  .inl (0, [.inr (.inr 58), .inl 0]),
  .inr (2, 54, .inl 0, [(0, [(0, .inl 115), (1, .inl 101), (2, .inl 116), (3, .inl 112), (4, .inl 32), (5, .inl 115), (6, .inl 101), (7, .inl 116), (8, .inl 110), (9, .inl 112), (10, .inl 32), (11, .inl 115), (12, .inl 101), (13, .inl 116), (14, .inl 108), (15, .inl 32), (16, .inl 115), (17, .inl 101), (18, .inl 116), (19, .inl 103), (20, .inl 101), (21, .inl 32), (22, .inl 115), (23, .inl 101), (24, .inl 116), (25, .inl 108), (26, .inl 101), (27, .inl 32), (28, .inl 115), (29, .inl 101), (30, .inl 116), (31, .inl 103), (32, .inl 32), (33, .inl 115), (34, .inl 101), (35, .inl 116), (36, .inl 99), (37, .inl 32), (38, .inl 115), (39, .inl 101), (40, .inl 116), (41, .inl 110), (42, .inl 99), (43, .inl 32), (44, .inl 115), (45, .inl 101), (46, .inl 116), (47, .inl 122), (48, .inl 32), (49, .inl 115), (50, .inl 101), (51, .inl 116), (52, .inl 110), (53, .inl 122)])]),
  .inl (0, [.inr (.inr 62), .inl 0]),
  .inr (2, 64, .inl 0, [(0, [(0, .inl 99), (1, .inl 109), (2, .inl 111), (3, .inl 118), (4, .inl 111), (5, .inl 32), (6, .inl 99), (7, .inl 109), (8, .inl 111), (9, .inl 118), (10, .inl 110), (11, .inl 111), (12, .inl 32), (13, .inl 99), (14, .inl 109), (15, .inl 111), (16, .inl 118), (17, .inl 98), (18, .inl 32), (19, .inl 99), (20, .inl 109), (21, .inl 111), (22, .inl 118), (23, .inl 97), (24, .inl 101), (25, .inl 32), (26, .inl 99), (27, .inl 109), (28, .inl 111), (29, .inl 118), (30, .inl 101), (31, .inl 32), (32, .inl 99), (33, .inl 109), (34, .inl 111), (35, .inl 118), (36, .inl 110), (37, .inl 101), (38, .inl 32), (39, .inl 99), (40, .inl 109), (41, .inl 111), (42, .inl 118), (43, .inl 98), (44, .inl 101), (45, .inl 32), (46, .inl 99), (47, .inl 109), (48, .inl 111), (49, .inl 118), (50, .inl 97), (51, .inl 32), (52, .inl 99), (53, .inl 109), (54, .inl 111), (55, .inl 118), (56, .inl 115), (57, .inl 32), (58, .inl 99), (59, .inl 109), (60, .inl 111), (61, .inl 118), (62, .inl 110), (63, .inl 115)])]),
  .inl (0, [.inr (.inr 66), .inl 0]),
  .inr (2, 64, .inl 0, [(0, [(0, .inl 99), (1, .inl 109), (2, .inl 111), (3, .inl 118), (4, .inl 112), (5, .inl 32), (6, .inl 99), (7, .inl 109), (8, .inl 111), (9, .inl 118), (10, .inl 110), (11, .inl 112), (12, .inl 32), (13, .inl 99), (14, .inl 109), (15, .inl 111), (16, .inl 118), (17, .inl 108), (18, .inl 32), (19, .inl 99), (20, .inl 109), (21, .inl 111), (22, .inl 118), (23, .inl 103), (24, .inl 101), (25, .inl 32), (26, .inl 99), (27, .inl 109), (28, .inl 111), (29, .inl 118), (30, .inl 108), (31, .inl 101), (32, .inl 32), (33, .inl 99), (34, .inl 109), (35, .inl 111), (36, .inl 118), (37, .inl 103), (38, .inl 32), (39, .inl 99), (40, .inl 109), (41, .inl 111), (42, .inl 118), (43, .inl 99), (44, .inl 32), (45, .inl 99), (46, .inl 109), (47, .inl 111), (48, .inl 118), (49, .inl 110), (50, .inl 99), (51, .inl 32), (52, .inl 99), (53, .inl 109), (54, .inl 111), (55, .inl 118), (56, .inl 122), (57, .inl 32), (58, .inl 99), (59, .inl 109), (60, .inl 111), (61, .inl 118), (62, .inl 110), (63, .inl 122)])]),
  .inl (0, [.inr (.inr 70), .inl 0]),
  .inr (2, 20, .inl 0, [(0, [(0, .inl 116), (1, .inl 101), (2, .inl 120), (3, .inl 116), (4, .inl 32), (5, .inl 114), (6, .inl 111), (7, .inl 100), (8, .inl 97), (9, .inl 116), (10, .inl 97), (11, .inl 32), (12, .inl 100), (13, .inl 97), (14, .inl 116), (15, .inl 97), (16, .inl 32), (17, .inl 98), (18, .inl 115), (19, .inl 115)])]),
  .inr (0, 13, .inl 0, [(0, [(0, .inl 4294967295), (1, .inl 4294967295), (2, .inl 4294967295), (3, .inl 4294967295), (4, .inl 4294967295), (5, .inl 4294967295), (6, .inl 0), (7, .inl 0), (8, .inl 4294967295), (9, .inl 4294967295), (10, .inl 4294967295), (11, .inl 4294967295), (12, .inl 4294967295)])]),
  .inr (0, 54, .inl 0, [(0, [(0, .inl 0), (1, .inl 1), (2, .inl 1), (3, .inl 0), (4, .inl 0), (5, .inl 4294967295), (6, .inl 0), (7, .inl 2), (8, .inl 1), (9, .inl 0), (10, .inl 1), (11, .inl 4294967295), (12, .inl 0), (13, .inl 1), (14, .inl 2), (15, .inl 0), (16, .inl 2), (17, .inl 4294967295), (18, .inl 0), (19, .inl 2), (20, .inl 2), (21, .inl 0), (22, .inl 3), (23, .inl 4294967295), (24, .inl 0), (25, .inl 1), (26, .inl 3), (27, .inl 1), (28, .inl 4), (29, .inl 4294967295), (30, .inl 0), (31, .inl 2), (32, .inl 3), (33, .inl 4), (34, .inl 5), (35, .inl 4294967295), (36, .inl 0), (37, .inl 1), (38, .inl 4), (39, .inl 1), (40, .inl 128), (41, .inl 0), (42, .inl 0), (43, .inl 2), (44, .inl 4), (45, .inl 4), (46, .inl 129), (47, .inl 0), (48, .inl 0), (49, .inl 2), (50, .inl 4), (51, .inl 1), (52, .inl 131), (53, .inl 0)])]),
  .inr (0, 666, .inl 0, [(0, [(0, .inl 8), (1, .inl 1), (2, .inl 1), (3, .inl 0), (4, .inl 136), (5, .inl 4294967295), (6, .inl 8), (7, .inl 2), (8, .inl 1), (9, .inl 0), (10, .inl 137), (11, .inl 4294967295), (12, .inl 8), (13, .inl 1), (14, .inl 2), (15, .inl 0), (16, .inl 138), (17, .inl 4294967295), (18, .inl 8), (19, .inl 2), (20, .inl 2), (21, .inl 0), (22, .inl 139), (23, .inl 4294967295), (24, .inl 8), (25, .inl 1), (26, .inl 4), (27, .inl 1), (28, .inl 198), (29, .inl 0), (30, .inl 8), (31, .inl 2), (32, .inl 4), (33, .inl 4), (34, .inl 199), (35, .inl 0), (36, .inl 8), (37, .inl 1), (38, .inl 6), (39, .inl 1), (40, .inl 176), (41, .inl 4294967295), (42, .inl 8), (43, .inl 4), (44, .inl 6), (45, .inl 4), (46, .inl 184), (47, .inl 4294967295), (48, .inl 8), (49, .inl 9), (50, .inl 6), (51, .inl 5), (52, .inl 184), (53, .inl 4294967295), (54, .inl 9), (55, .inl 1), (56, .inl 1), (57, .inl 0), (58, .inl 132), (59, .inl 4294967295), (60, .inl 9), (61, .inl 2), (62, .inl 1), (63, .inl 0)]), (1, [(64, .inl 133), (65, .inl 4294967295), (66, .inl 9), (67, .inl 1), (68, .inl 3), (69, .inl 1), (70, .inl 168), (71, .inl 4294967295), (72, .inl 9), (73, .inl 2), (74, .inl 3), (75, .inl 4), (76, .inl 169), (77, .inl 4294967295), (78, .inl 9), (79, .inl 1), (80, .inl 4), (81, .inl 1), (82, .inl 246), (83, .inl 0), (84, .inl 9), (85, .inl 2), (86, .inl 4), (87, .inl 4), (88, .inl 247), (89, .inl 0), (90, .inl 10), (91, .inl 1), (92, .inl 1), (93, .inl 0), (94, .inl 134), (95, .inl 4294967295), (96, .inl 10), (97, .inl 2), (98, .inl 1), (99, .inl 0), (100, .inl 135), (101, .inl 4294967295), (102, .inl 11), (103, .inl 2), (104, .inl 8), (105, .inl 0), (106, .inl 141), (107, .inl 4294967295), (108, .inl 12), (109, .inl 2), (110, .inl 2), (111, .inl 0), (112, .inl 4022), (113, .inl 4294967295), (114, .inl 13), (115, .inl 2), (116, .inl 2), (117, .inl 0), (118, .inl 4030), (119, .inl 4294967295), (120, .inl 14), (121, .inl 9), (122, .inl 2), (123, .inl 0), (124, .inl 99), (125, .inl 4294967295), (126, .inl 15), (127, .inl 1)]), (2, [(128, .inl 5), (129, .inl 0), (130, .inl 246), (131, .inl 2), (132, .inl 15), (133, .inl 2), (134, .inl 5), (135, .inl 0), (136, .inl 247), (137, .inl 2), (138, .inl 16), (139, .inl 1), (140, .inl 5), (141, .inl 0), (142, .inl 246), (143, .inl 3), (144, .inl 16), (145, .inl 2), (146, .inl 5), (147, .inl 0), (148, .inl 247), (149, .inl 3), (150, .inl 17), (151, .inl 1), (152, .inl 5), (153, .inl 0), (154, .inl 246), (155, .inl 4), (156, .inl 17), (157, .inl 2), (158, .inl 5), (159, .inl 0), (160, .inl 247), (161, .inl 4), (162, .inl 18), (163, .inl 1), (164, .inl 5), (165, .inl 0), (166, .inl 246), (167, .inl 5), (168, .inl 18), (169, .inl 2), (170, .inl 5), (171, .inl 0), (172, .inl 247), (173, .inl 5), (174, .inl 19), (175, .inl 1), (176, .inl 5), (177, .inl 0), (178, .inl 246), (179, .inl 6), (180, .inl 19), (181, .inl 2), (182, .inl 5), (183, .inl 0), (184, .inl 247), (185, .inl 6), (186, .inl 20), (187, .inl 1), (188, .inl 5), (189, .inl 0), (190, .inl 246), (191, .inl 7)]), (3, [(192, .inl 20), (193, .inl 2), (194, .inl 5), (195, .inl 0), (196, .inl 247), (197, .inl 7), (198, .inl 21), (199, .inl 1), (200, .inl 5), (201, .inl 0), (202, .inl 254), (203, .inl 0), (204, .inl 21), (205, .inl 2), (206, .inl 5), (207, .inl 0), (208, .inl 255), (209, .inl 0), (210, .inl 22), (211, .inl 1), (212, .inl 5), (213, .inl 0), (214, .inl 254), (215, .inl 1), (216, .inl 22), (217, .inl 2), (218, .inl 5), (219, .inl 0), (220, .inl 255), (221, .inl 1), (222, .inl 23), (223, .inl 2), (224, .inl 2), (225, .inl 0), (226, .inl 4015), (227, .inl 4294967295), (228, .inl 23), (229, .inl 2), (230, .inl 9), (231, .inl 4), (232, .inl 105), (233, .inl 4294967295), (234, .inl 23), (235, .inl 2), (236, .inl 9), (237, .inl 1), (238, .inl 107), (239, .inl 4294967295), (240, .inl 24), (241, .inl 1), (242, .inl 4), (243, .inl 2), (244, .inl 192), (245, .inl 0), (246, .inl 24), (247, .inl 2), (248, .inl 4), (249, .inl 2), (250, .inl 193), (251, .inl 0), (252, .inl 24), (253, .inl 1), (254, .inl 10), (255, .inl 0)]), (4, [(256, .inl 208), (257, .inl 0), (258, .inl 24), (259, .inl 2), (260, .inl 10), (261, .inl 0), (262, .inl 209), (263, .inl 0), (264, .inl 24), (265, .inl 1), (266, .inl 11), (267, .inl 0), (268, .inl 210), (269, .inl 0), (270, .inl 24), (271, .inl 2), (272, .inl 11), (273, .inl 0), (274, .inl 211), (275, .inl 0), (276, .inl 25), (277, .inl 1), (278, .inl 4), (279, .inl 2), (280, .inl 192), (281, .inl 1), (282, .inl 25), (283, .inl 2), (284, .inl 4), (285, .inl 2), (286, .inl 193), (287, .inl 1), (288, .inl 25), (289, .inl 1), (290, .inl 10), (291, .inl 0), (292, .inl 208), (293, .inl 1), (294, .inl 25), (295, .inl 2), (296, .inl 10), (297, .inl 0), (298, .inl 209), (299, .inl 1), (300, .inl 25), (301, .inl 1), (302, .inl 11), (303, .inl 0), (304, .inl 210), (305, .inl 1), (306, .inl 25), (307, .inl 2), (308, .inl 11), (309, .inl 0), (310, .inl 211), (311, .inl 1), (312, .inl 26), (313, .inl 1), (314, .inl 4), (315, .inl 2), (316, .inl 192), (317, .inl 4), (318, .inl 26), (319, .inl 2)]), (5, [(320, .inl 4), (321, .inl 2), (322, .inl 193), (323, .inl 4), (324, .inl 26), (325, .inl 1), (326, .inl 10), (327, .inl 0), (328, .inl 208), (329, .inl 4), (330, .inl 26), (331, .inl 2), (332, .inl 10), (333, .inl 0), (334, .inl 209), (335, .inl 4), (336, .inl 26), (337, .inl 1), (338, .inl 11), (339, .inl 0), (340, .inl 210), (341, .inl 4), (342, .inl 26), (343, .inl 2), (344, .inl 11), (345, .inl 0), (346, .inl 211), (347, .inl 4), (348, .inl 27), (349, .inl 1), (350, .inl 4), (351, .inl 2), (352, .inl 192), (353, .inl 5), (354, .inl 27), (355, .inl 2), (356, .inl 4), (357, .inl 2), (358, .inl 193), (359, .inl 5), (360, .inl 27), (361, .inl 1), (362, .inl 10), (363, .inl 0), (364, .inl 208), (365, .inl 5), (366, .inl 27), (367, .inl 2), (368, .inl 10), (369, .inl 0), (370, .inl 209), (371, .inl 5), (372, .inl 27), (373, .inl 1), (374, .inl 11), (375, .inl 0), (376, .inl 210), (377, .inl 5), (378, .inl 27), (379, .inl 2), (380, .inl 11), (381, .inl 0), (382, .inl 211), (383, .inl 5)]), (6, [(384, .inl 28), (385, .inl 1), (386, .inl 4), (387, .inl 2), (388, .inl 192), (389, .inl 7), (390, .inl 28), (391, .inl 2), (392, .inl 4), (393, .inl 2), (394, .inl 193), (395, .inl 7), (396, .inl 28), (397, .inl 1), (398, .inl 10), (399, .inl 0), (400, .inl 208), (401, .inl 7), (402, .inl 28), (403, .inl 2), (404, .inl 10), (405, .inl 0), (406, .inl 209), (407, .inl 7), (408, .inl 28), (409, .inl 1), (410, .inl 11), (411, .inl 0), (412, .inl 210), (413, .inl 7), (414, .inl 28), (415, .inl 2), (416, .inl 11), (417, .inl 0), (418, .inl 211), (419, .inl 7), (420, .inl 29), (421, .inl 8), (422, .inl 7), (423, .inl 0), (424, .inl 80), (425, .inl 4294967295), (426, .inl 29), (427, .inl 8), (428, .inl 12), (429, .inl 4), (430, .inl 104), (431, .inl 4294967295), (432, .inl 29), (433, .inl 8), (434, .inl 12), (435, .inl 1), (436, .inl 106), (437, .inl 4294967295), (438, .inl 29), (439, .inl 8), (440, .inl 5), (441, .inl 0), (442, .inl 255), (443, .inl 6), (444, .inl 30), (445, .inl 8), (446, .inl 7), (447, .inl 0)]), (7, [(448, .inl 88), (449, .inl 4294967295), (450, .inl 30), (451, .inl 8), (452, .inl 5), (453, .inl 0), (454, .inl 143), (455, .inl 0), (456, .inl 31), (457, .inl 0), (458, .inl 12), (459, .inl 4), (460, .inl 233), (461, .inl 4294967295), (462, .inl 31), (463, .inl 0), (464, .inl 12), (465, .inl 1), (466, .inl 235), (467, .inl 4294967295), (468, .inl 31), (469, .inl 0), (470, .inl 5), (471, .inl 0), (472, .inl 255), (473, .inl 4), (474, .inl 32), (475, .inl 0), (476, .inl 12), (477, .inl 4), (478, .inl 232), (479, .inl 4294967295), (480, .inl 32), (481, .inl 0), (482, .inl 5), (483, .inl 0), (484, .inl 255), (485, .inl 2), (486, .inl 33), (487, .inl 0), (488, .inl 0), (489, .inl 0), (490, .inl 195), (491, .inl 4294967295), (492, .inl 33), (493, .inl 0), (494, .inl 12), (495, .inl 3), (496, .inl 194), (497, .inl 4294967295), (498, .inl 34), (499, .inl 0), (500, .inl 12), (501, .inl 4), (502, .inl 3968), (503, .inl 4294967295), (504, .inl 34), (505, .inl 0), (506, .inl 12), (507, .inl 1), (508, .inl 112), (509, .inl 4294967295), (510, .inl 35), (511, .inl 1)]), (8, [(512, .inl 5), (513, .inl 0), (514, .inl 3984), (515, .inl 4294967295), (516, .inl 36), (517, .inl 2), (518, .inl 2), (519, .inl 0), (520, .inl 3904), (521, .inl 4294967295), (522, .inl 37), (523, .inl 2), (524, .inl 0), (525, .inl 0), (526, .inl 153), (527, .inl 4294967295), (528, .inl 38), (529, .inl 2), (530, .inl 0), (531, .inl 0), (532, .inl 152), (533, .inl 4294967295), (534, .inl 39), (535, .inl 0), (536, .inl 0), (537, .inl 0), (538, .inl 144), (539, .inl 4294967295), (540, .inl 40), (541, .inl 0), (542, .inl 0), (543, .inl 0), (544, .inl 204), (545, .inl 4294967295), (546, .inl 41), (547, .inl 0), (548, .inl 0), (549, .inl 0), (550, .inl 3851), (551, .inl 4294967295), (552, .inl 42), (553, .inl 0), (554, .inl 0), (555, .inl 0), (556, .inl 3845), (557, .inl 4294967295), (558, .inl 43), (559, .inl 0), (560, .inl 0), (561, .inl 0), (562, .inl 201), (563, .inl 4294967295), (564, .inl 44), (565, .inl 2), (566, .inl 2), (567, .inl 0), (568, .inl 4028), (569, .inl 4294967295), (570, .inl 45), (571, .inl 2), (572, .inl 2), (573, .inl 0), (574, .inl 4029), (575, .inl 4294967295)]), (9, [(576, .inl 46), (577, .inl 2), (578, .inl 7), (579, .inl 0), (580, .inl 4040), (581, .inl 4294967295), (582, .inl 47), (583, .inl 2), (584, .inl 1), (585, .inl 0), (586, .inl 4003), (587, .inl 4294967295), (588, .inl 47), (589, .inl 2), (590, .inl 4), (591, .inl 2), (592, .inl 4026), (593, .inl 4), (594, .inl 48), (595, .inl 1), (596, .inl 1), (597, .inl 0), (598, .inl 4032), (599, .inl 4294967295), (600, .inl 48), (601, .inl 2), (602, .inl 1), (603, .inl 0), (604, .inl 4033), (605, .inl 4294967295), (606, .inl 49), (607, .inl 1), (608, .inl 1), (609, .inl 0), (610, .inl 4016), (611, .inl 4294967295), (612, .inl 49), (613, .inl 2), (614, .inl 1), (615, .inl 0), (616, .inl 4017), (617, .inl 4294967295), (618, .inl 50), (619, .inl 1), (620, .inl 0), (621, .inl 0), (622, .inl 164), (623, .inl 4294967295), (624, .inl 50), (625, .inl 2), (626, .inl 0), (627, .inl 0), (628, .inl 165), (629, .inl 4294967295), (630, .inl 51), (631, .inl 1), (632, .inl 0), (633, .inl 0), (634, .inl 170), (635, .inl 4294967295), (636, .inl 51), (637, .inl 2), (638, .inl 0), (639, .inl 0)]), (10, [(640, .inl 171), (641, .inl 4294967295), (642, .inl 52), (643, .inl 1), (644, .inl 0), (645, .inl 0), (646, .inl 62372), (647, .inl 4294967295), (648, .inl 52), (649, .inl 2), (650, .inl 0), (651, .inl 0), (652, .inl 62373), (653, .inl 4294967295), (654, .inl 53), (655, .inl 1), (656, .inl 0), (657, .inl 0), (658, .inl 62378), (659, .inl 4294967295), (660, .inl 53), (661, .inl 2), (662, .inl 0), (663, .inl 0), (664, .inl 62379), (665, .inl 4294967295)])]),
  .inl (0, [.inr (.inr 80), .inl 0]),
  .inr (2, 1, .inl 0, [(0, [(0, .inl 111)])]),
  .inl (0, [.inr (.inr 84), .inl 0]),
  .inr (2, 2, .inl 0, [(0, [(0, .inl 110), (1, .inl 111)])]),
  .inl (0, [.inr (.inr 88), .inl 0]),
  .inr (2, 1, .inl 0, [(0, [(0, .inl 98)])]),
  .inl (0, [.inr (.inr 92), .inl 0]),
  .inr (2, 2, .inl 0, [(0, [(0, .inl 97), (1, .inl 101)])]),
  .inl (0, [.inr (.inr 96), .inl 0]),
  .inr (2, 1, .inl 0, [(0, [(0, .inl 101)])]),
  .inl (0, [.inr (.inr 100), .inl 0]),
  .inr (2, 2, .inl 0, [(0, [(0, .inl 110), (1, .inl 101)])]),
  .inl (0, [.inr (.inr 104), .inl 0]),
  .inr (2, 2, .inl 0, [(0, [(0, .inl 98), (1, .inl 101)])]),
  .inl (0, [.inr (.inr 108), .inl 0]),
  .inr (2, 1, .inl 0, [(0, [(0, .inl 97)])]),
  .inl (0, [.inr (.inr 112), .inl 0]),
  .inr (2, 1, .inl 0, [(0, [(0, .inl 115)])]),
  .inl (0, [.inr (.inr 116), .inl 0]),
  .inr (2, 2, .inl 0, [(0, [(0, .inl 110), (1, .inl 115)])]),
  .inl (0, [.inr (.inr 120), .inl 0]),
  .inr (2, 1, .inl 0, [(0, [(0, .inl 112)])]),
  .inl (0, [.inr (.inr 124), .inl 0]),
  .inr (2, 2, .inl 0, [(0, [(0, .inl 110), (1, .inl 112)])]),
  .inl (0, [.inr (.inr 128), .inl 0]),
  .inr (2, 1, .inl 0, [(0, [(0, .inl 108)])]),
  .inl (0, [.inr (.inr 132), .inl 0]),
  .inr (2, 2, .inl 0, [(0, [(0, .inl 103), (1, .inl 101)])]),
  .inl (0, [.inr (.inr 136), .inl 0]),
  .inr (2, 2, .inl 0, [(0, [(0, .inl 108), (1, .inl 101)])]),
  .inl (0, [.inr (.inr 140), .inl 0]),
  .inr (2, 1, .inl 0, [(0, [(0, .inl 103)])]),
  .inl (0, [.inr (.inr 144), .inl 0]),
  .inr (2, 1, .inl 0, [(0, [(0, .inl 99)])]),
  .inl (0, [.inr (.inr 148), .inl 0]),
  .inr (2, 2, .inl 0, [(0, [(0, .inl 110), (1, .inl 99)])]),
  .inl (0, [.inr (.inr 152), .inl 0]),
  .inr (2, 1, .inl 0, [(0, [(0, .inl 122)])]),
  .inl (0, [.inr (.inr 156), .inl 0]),
  .inr (2, 2, .inl 0, [(0, [(0, .inl 110), (1, .inl 122)])]),
  .inr (2, 100, .inl 0, [(0, [(0, .inl 48), (1, .inl 49), (2, .inl 50), (3, .inl 51), (4, .inl 52), (5, .inl 53), (6, .inl 54), (7, .inl 55), (8, .inl 56), (9, .inl 57), (10, .inl 48), (11, .inl 49), (12, .inl 50), (13, .inl 51), (14, .inl 52), (15, .inl 53), (16, .inl 54), (17, .inl 55), (18, .inl 56), (19, .inl 57), (20, .inl 48), (21, .inl 49), (22, .inl 50), (23, .inl 51), (24, .inl 52), (25, .inl 53), (26, .inl 54), (27, .inl 55), (28, .inl 56), (29, .inl 57), (30, .inl 48), (31, .inl 49), (32, .inl 50), (33, .inl 51), (34, .inl 52), (35, .inl 53), (36, .inl 54), (37, .inl 55), (38, .inl 56), (39, .inl 57), (40, .inl 48), (41, .inl 49), (42, .inl 50), (43, .inl 51), (44, .inl 52), (45, .inl 53), (46, .inl 54), (47, .inl 55), (48, .inl 56), (49, .inl 57), (50, .inl 48), (51, .inl 49), (52, .inl 50), (53, .inl 51), (54, .inl 52), (55, .inl 53), (56, .inl 54), (57, .inl 55), (58, .inl 56), (59, .inl 57), (60, .inl 48), (61, .inl 49), (62, .inl 50), (63, .inl 51)]), (1, [(64, .inl 52), (65, .inl 53), (66, .inl 54), (67, .inl 55), (68, .inl 56), (69, .inl 57), (70, .inl 48), (71, .inl 49), (72, .inl 50), (73, .inl 51), (74, .inl 52), (75, .inl 53), (76, .inl 54), (77, .inl 55), (78, .inl 56), (79, .inl 57), (80, .inl 48), (81, .inl 49), (82, .inl 50), (83, .inl 51), (84, .inl 52), (85, .inl 53), (86, .inl 54), (87, .inl 55), (88, .inl 56), (89, .inl 57), (90, .inl 48), (91, .inl 49), (92, .inl 50), (93, .inl 51), (94, .inl 52), (95, .inl 53), (96, .inl 54), (97, .inl 55), (98, .inl 56), (99, .inl 57)])]),
  .inr (2, 100, .inl 0, [(0, [(0, .inl 48), (1, .inl 48), (2, .inl 48), (3, .inl 48), (4, .inl 48), (5, .inl 48), (6, .inl 48), (7, .inl 48), (8, .inl 48), (9, .inl 48), (10, .inl 49), (11, .inl 49), (12, .inl 49), (13, .inl 49), (14, .inl 49), (15, .inl 49), (16, .inl 49), (17, .inl 49), (18, .inl 49), (19, .inl 49), (20, .inl 50), (21, .inl 50), (22, .inl 50), (23, .inl 50), (24, .inl 50), (25, .inl 50), (26, .inl 50), (27, .inl 50), (28, .inl 50), (29, .inl 50), (30, .inl 51), (31, .inl 51), (32, .inl 51), (33, .inl 51), (34, .inl 51), (35, .inl 51), (36, .inl 51), (37, .inl 51), (38, .inl 51), (39, .inl 51), (40, .inl 52), (41, .inl 52), (42, .inl 52), (43, .inl 52), (44, .inl 52), (45, .inl 52), (46, .inl 52), (47, .inl 52), (48, .inl 52), (49, .inl 52), (50, .inl 53), (51, .inl 53), (52, .inl 53), (53, .inl 53), (54, .inl 53), (55, .inl 53), (56, .inl 53), (57, .inl 53), (58, .inl 53), (59, .inl 53), (60, .inl 54), (61, .inl 54), (62, .inl 54), (63, .inl 54)]), (1, [(64, .inl 54), (65, .inl 54), (66, .inl 54), (67, .inl 54), (68, .inl 54), (69, .inl 54), (70, .inl 55), (71, .inl 55), (72, .inl 55), (73, .inl 55), (74, .inl 55), (75, .inl 55), (76, .inl 55), (77, .inl 55), (78, .inl 55), (79, .inl 55), (80, .inl 56), (81, .inl 56), (82, .inl 56), (83, .inl 56), (84, .inl 56), (85, .inl 56), (86, .inl 56), (87, .inl 56), (88, .inl 56), (89, .inl 56), (90, .inl 57), (91, .inl 57), (92, .inl 57), (93, .inl 57), (94, .inl 57), (95, .inl 57), (96, .inl 57), (97, .inl 57), (98, .inl 57), (99, .inl 57)])]),
  .inl (0, [.inr (.inr 164), .inl 0]),
  .inr (2, 1, .inl 0, [(0, [(0, .inl 114)])]),
  .inl (0, [.inr (.inr 168), .inl 0]),
  .inr (2, 3, .inl 0, [(0, [(0, .inl 114), (1, .inl 97), (2, .inl 120)])]),
  .inl (0, [.inr (.inr 172), .inl 0]),
  .inr (2, 3, .inl 0, [(0, [(0, .inl 114), (1, .inl 99), (2, .inl 120)])]),
  .inl (0, [.inr (.inr 176), .inl 0]),
  .inr (2, 3, .inl 0, [(0, [(0, .inl 114), (1, .inl 100), (2, .inl 120)])]),
  .inl (0, [.inr (.inr 180), .inl 0]),
  .inr (2, 3, .inl 0, [(0, [(0, .inl 114), (1, .inl 98), (2, .inl 120)])]),
  .inl (0, [.inr (.inr 184), .inl 0]),
  .inr (2, 3, .inl 0, [(0, [(0, .inl 114), (1, .inl 115), (2, .inl 112)])]),
  .inl (0, [.inr (.inr 188), .inl 0]),
  .inr (2, 3, .inl 0, [(0, [(0, .inl 114), (1, .inl 98), (2, .inl 112)])]),
  .inl (0, [.inr (.inr 192), .inl 0]),
  .inr (2, 3, .inl 0, [(0, [(0, .inl 114), (1, .inl 115), (2, .inl 105)])]),
  .inl (0, [.inr (.inr 196), .inl 0]),
  .inr (2, 3, .inl 0, [(0, [(0, .inl 114), (1, .inl 100), (2, .inl 105)])]),
  .inl (0, [.inr (.inr 200), .inl 0]),
  .inr (2, 3, .inl 0, [(0, [(0, .inl 101), (1, .inl 97), (2, .inl 120)])]),
  .inl (0, [.inr (.inr 204), .inl 0]),
  .inr (2, 3, .inl 0, [(0, [(0, .inl 101), (1, .inl 99), (2, .inl 120)])]),
  .inl (0, [.inr (.inr 208), .inl 0]),
  .inr (2, 3, .inl 0, [(0, [(0, .inl 101), (1, .inl 100), (2, .inl 120)])]),
  .inl (0, [.inr (.inr 212), .inl 0]),
  .inr (2, 3, .inl 0, [(0, [(0, .inl 101), (1, .inl 98), (2, .inl 120)])]),
  .inl (0, [.inr (.inr 216), .inl 0]),
  .inr (2, 3, .inl 0, [(0, [(0, .inl 101), (1, .inl 115), (2, .inl 112)])]),
  .inl (0, [.inr (.inr 220), .inl 0]),
  .inr (2, 3, .inl 0, [(0, [(0, .inl 101), (1, .inl 98), (2, .inl 112)])]),
  .inl (0, [.inr (.inr 224), .inl 0]),
  .inr (2, 3, .inl 0, [(0, [(0, .inl 101), (1, .inl 115), (2, .inl 105)])]),
  .inl (0, [.inr (.inr 228), .inl 0]),
  .inr (2, 3, .inl 0, [(0, [(0, .inl 101), (1, .inl 100), (2, .inl 105)])]),
  .inl (0, [.inr (.inr 232), .inl 0]),
  .inr (2, 2, .inl 0, [(0, [(0, .inl 97), (1, .inl 108)])]),
  .inl (0, [.inr (.inr 236), .inl 0]),
  .inr (2, 2, .inl 0, [(0, [(0, .inl 99), (1, .inl 108)])]),
  .inl (0, [.inr (.inr 240), .inl 0]),
  .inr (2, 2, .inl 0, [(0, [(0, .inl 100), (1, .inl 108)])]),
  .inl (0, [.inr (.inr 244), .inl 0]),
  .inr (2, 2, .inl 0, [(0, [(0, .inl 98), (1, .inl 108)])]),
  .inl (0, [.inr (.inr 248), .inl 0]),
  .inr (2, 3, .inl 0, [(0, [(0, .inl 115), (1, .inl 112), (2, .inl 108)])]),
  .inl (0, [.inr (.inr 252), .inl 0]),
  .inr (2, 3, .inl 0, [(0, [(0, .inl 98), (1, .inl 112), (2, .inl 108)])]),
  .inl (0, [.inr (.inr 256), .inl 0]),
  .inr (2, 3, .inl 0, [(0, [(0, .inl 115), (1, .inl 105), (2, .inl 108)])]),
  .inl (0, [.inr (.inr 260), .inl 0]),
  .inr (2, 3, .inl 0, [(0, [(0, .inl 100), (1, .inl 105), (2, .inl 108)])]),
  .inl (0, [.inr (.inr 264), .inl 0]),
  .inr (2, 0, .inl 0, []),
  .inl (0, [.inr (.inr 268), .inl 0]),
  .inr (2, 1, .inl 0, [(0, [(0, .inl 100)])]),
  .inl (0, [.inr (.inr 272), .inl 0]),
  .inr (2, 101, .inl 0, [(0, [(0, .inl 97), (1, .inl 100), (2, .inl 100), (3, .inl 32), (4, .inl 111), (5, .inl 114), (6, .inl 32), (7, .inl 97), (8, .inl 100), (9, .inl 99), (10, .inl 32), (11, .inl 115), (12, .inl 98), (13, .inl 98), (14, .inl 32), (15, .inl 97), (16, .inl 110), (17, .inl 100), (18, .inl 32), (19, .inl 115), (20, .inl 117), (21, .inl 98), (22, .inl 32), (23, .inl 120), (24, .inl 111), (25, .inl 114), (26, .inl 32), (27, .inl 99), (28, .inl 109), (29, .inl 112), (30, .inl 32), (31, .inl 109), (32, .inl 111), (33, .inl 118), (34, .inl 32), (35, .inl 116), (36, .inl 101), (37, .inl 115), (38, .inl 116), (39, .inl 32), (40, .inl 120), (41, .inl 99), (42, .inl 104), (43, .inl 103), (44, .inl 32), (45, .inl 108), (46, .inl 101), (47, .inl 97), (48, .inl 32), (49, .inl 109), (50, .inl 111), (51, .inl 118), (52, .inl 122), (53, .inl 120), (54, .inl 32), (55, .inl 109), (56, .inl 111), (57, .inl 118), (58, .inl 115), (59, .inl 120), (60, .inl 32), (61, .inl 109), (62, .inl 111), (63, .inl 118)]), (1, [(64, .inl 115), (65, .inl 120), (66, .inl 100), (67, .inl 32), (68, .inl 110), (69, .inl 111), (70, .inl 116), (71, .inl 32), (72, .inl 110), (73, .inl 101), (74, .inl 103), (75, .inl 32), (76, .inl 109), (77, .inl 117), (78, .inl 108), (79, .inl 32), (80, .inl 105), (81, .inl 109), (82, .inl 117), (83, .inl 108), (84, .inl 32), (85, .inl 100), (86, .inl 105), (87, .inl 118), (88, .inl 32), (89, .inl 105), (90, .inl 100), (91, .inl 105), (92, .inl 118), (93, .inl 32), (94, .inl 105), (95, .inl 110), (96, .inl 99), (97, .inl 32), (98, .inl 100), (99, .inl 101), (100, .inl 99)])]),
  .inl (0, [.inr (.inr 276), .inl 0]),
  .inr (2, 1, .inl 0, [(0, [(0, .inl 106)])]),
  .inl (0, [.inr (.inr 280), .inl 0]),
  .inr (2, 3, .inl 0, [(0, [(0, .inl 115), (1, .inl 101), (2, .inl 116)])]),
  .inl (0, [.inr (.inr 284), .inl 0]),
  .inr (2, 4, .inl 0, [(0, [(0, .inl 99), (1, .inl 109), (2, .inl 111), (3, .inl 118)])]),
  .inl (0, [.inr (.inr 288), .inl 0]),
  .inr (2, 3, .inl 0, [(0, [(0, .inl 99), (1, .inl 100), (2, .inl 113)])]),
  .inl (0, [.inr (.inr 292), .inl 0]),
  .inr (2, 3, .inl 0, [(0, [(0, .inl 99), (1, .inl 113), (2, .inl 111)])]),
  .inl (0, [.inr (.inr 296), .inl 0]),
  .inr (2, 4, .inl 0, [(0, [(0, .inl 99), (1, .inl 119), (2, .inl 100), (3, .inl 101)])]),
  .inl (0, [.inr (.inr 300), .inl 0]),
  .inr (2, 4, .inl 0, [(0, [(0, .inl 99), (1, .inl 100), (2, .inl 113), (3, .inl 101)])]),
  .inl (0, [.inr (.inr 304), .inl 0]),
  .inr (2, 5, .inl 0, [(0, [(0, .inl 109), (1, .inl 111), (2, .inl 118), (3, .inl 115), (4, .inl 98)])]),
  .inl (0, [.inr (.inr 308), .inl 0]),
  .inr (2, 5, .inl 0, [(0, [(0, .inl 109), (1, .inl 111), (2, .inl 118), (3, .inl 115), (4, .inl 100)])]),
  .inl (0, [.inr (.inr 312), .inl 0]),
  .inr (2, 5, .inl 0, [(0, [(0, .inl 109), (1, .inl 111), (2, .inl 118), (3, .inl 115), (4, .inl 113)])]),
  .inl (0, [.inr (.inr 316), .inl 0]),
  .inr (2, 5, .inl 0, [(0, [(0, .inl 115), (1, .inl 116), (2, .inl 111), (3, .inl 115), (4, .inl 98)])]),
  .inl (0, [.inr (.inr 320), .inl 0]),
  .inr (2, 5, .inl 0, [(0, [(0, .inl 115), (1, .inl 116), (2, .inl 111), (3, .inl 115), (4, .inl 100)])]),
  .inl (0, [.inr (.inr 324), .inl 0]),
  .inr (2, 5, .inl 0, [(0, [(0, .inl 115), (1, .inl 116), (2, .inl 111), (3, .inl 115), (4, .inl 113)])]),
  .inl (0, [.inr (.inr 328), .inl 0]),
  .inr (2, 86, .inl 0, [(0, [(0, .inl 115), (1, .inl 101), (2, .inl 99), (3, .inl 116), (4, .inl 105), (5, .inl 111), (6, .inl 110), (7, .inl 32), (8, .inl 103), (9, .inl 108), (10, .inl 111), (11, .inl 98), (12, .inl 97), (13, .inl 108), (14, .inl 32), (15, .inl 119), (16, .inl 101), (17, .inl 97), (18, .inl 107), (19, .inl 32), (20, .inl 107), (21, .inl 101), (22, .inl 101), (23, .inl 112), (24, .inl 32), (25, .inl 100), (26, .inl 98), (27, .inl 32), (28, .inl 100), (29, .inl 119), (30, .inl 32), (31, .inl 100), (32, .inl 100), (33, .inl 32), (34, .inl 100), (35, .inl 113), (36, .inl 32), (37, .inl 114), (38, .inl 101), (39, .inl 115), (40, .inl 98), (41, .inl 32), (42, .inl 97), (43, .inl 108), (44, .inl 105), (45, .inl 103), (46, .inl 110), (47, .inl 32), (48, .inl 105), (49, .inl 102), (50, .inl 32), (51, .inl 101), (52, .inl 108), (53, .inl 115), (54, .inl 101), (55, .inl 32), (56, .inl 101), (57, .inl 110), (58, .inl 100), (59, .inl 105), (60, .inl 102), (61, .inl 32), (62, .inl 114), (63, .inl 101)]), (1, [(64, .inl 112), (65, .inl 116), (66, .inl 32), (67, .inl 101), (68, .inl 110), (69, .inl 100), (70, .inl 114), (71, .inl 32), (72, .inl 109), (73, .inl 97), (74, .inl 99), (75, .inl 114), (76, .inl 111), (77, .inl 32), (78, .inl 101), (79, .inl 110), (80, .inl 100), (81, .inl 109), (82, .inl 32), (83, .inl 114), (84, .inl 101), (85, .inl 112)])]),
  .inl (0, [.inr (.inr 332), .inl 0]),
  .inr (2, 4, .inl 0, [(0, [(0, .inl 98), (1, .inl 121), (2, .inl 116), (3, .inl 101)])]),
  .inl (0, [.inr (.inr 336), .inl 0]),
  .inr (2, 5, .inl 0, [(0, [(0, .inl 100), (1, .inl 119), (2, .inl 111), (3, .inl 114), (4, .inl 100)])]),
  .inl (0, [.inr (.inr 340), .inl 0]),
  .inr (2, 5, .inl 0, [(0, [(0, .inl 113), (1, .inl 119), (2, .inl 111), (3, .inl 114), (4, .inl 100)])]),
  .inl (0, [.inr (.inr 344), .inl 0]),
  .inr (2, 3, .inl 0, [(0, [(0, .inl 114), (1, .inl 101), (2, .inl 108)])]),
  .inl (0, [.inr (.inr 348), .inl 0]),
  .inr (2, 3, .inl 0, [(0, [(0, .inl 101), (1, .inl 113), (2, .inl 117)])]),
  .inl (0, [.inr (.inr 352), .inl 0]),
  .inr (2, 4, .inl 0, [(0, [(0, .inl 116), (1, .inl 101), (2, .inl 120), (3, .inl 116)])]),
  .inl (0, [.inr (.inr 356), .inl 0]),
  .inr (2, 6, .inl 0, [(0, [(0, .inl 114), (1, .inl 111), (2, .inl 100), (3, .inl 97), (4, .inl 116), (5, .inl 97)])]),
  .inl (0, [.inr (.inr 360), .inl 0]),
  .inr (2, 4, .inl 0, [(0, [(0, .inl 100), (1, .inl 97), (2, .inl 116), (3, .inl 97)])]),
  .inl (0, [.inr (.inr 364), .inl 0]),
  .inr (2, 3, .inl 0, [(0, [(0, .inl 98), (1, .inl 115), (2, .inl 115)])]),
  .inl (0, [.inr (.inr 368), .inl 0]),
  .inr (2, 3, .inl 0, [(0, [(0, .inl 114), (1, .inl 101), (2, .inl 112)])]),
  .inl (0, [.inr (.inr 372), .inl 0]),
  .inr (2, 5, .inl 0, [(0, [(0, .inl 115), (1, .inl 116), (2, .inl 97), (3, .inl 114), (4, .inl 116)])])]
theorem okf_I (G : rGm) (_ : ∀ i : Nat, G.2.2.2.1 i = .null ∨ ∃ a, G.2.2.2.1 i = .ref a) : ∀ v, isI v = true → narrow .int (rv G v) = rv G v ∧ fits .int (rv G v) = true := fun v h => by
  obtain ⟨a, rfl⟩ := isI_e h
  exact ⟨rfl, rfl⟩
theorem okf_J (G : rGm) (_ : ∀ i : Nat, G.2.2.2.1 i = .null ∨ ∃ a, G.2.2.2.1 i = .ref a) : ∀ v, isJ v = true → narrow .long (rv G v) = rv G v ∧ fits .long (rv G v) = true := fun v h => by
  obtain ⟨a, rfl⟩ := isJ_e h
  exact ⟨rfl, rfl⟩
theorem okf_B (G : rGm) (_ : ∀ i : Nat, G.2.2.2.1 i = .null ∨ ∃ a, G.2.2.2.1 i = .ref a) : ∀ v, isB v = true → narrow .byte (rv G v) = rv G v ∧ fits .byte (rv G v) = true := fun v h => by
  obtain ⟨a, rfl, h2⟩ := isB_e h
  exact ⟨h2, okT_fits G (t := 2) h⟩
theorem okf_Z (G : rGm) (_ : ∀ i : Nat, G.2.2.2.1 i = .null ∨ ∃ a, G.2.2.2.1 i = .ref a) : ∀ v, isZ v = true → narrow .boolean (rv G v) = rv G v ∧ fits .boolean (rv G v) = true := fun v h => by
  obtain ⟨a, rfl, h2, -⟩ := isZ_e h
  exact ⟨h2, okT_fits G (t := 3) h⟩
theorem okf_O (G : rGm) (C : String) (hx : ∀ i : Nat, G.2.2.2.1 i = .null ∨ ∃ a, G.2.2.2.1 i = .ref a) : ∀ v, isR v = true → narrow (.object C) (rv G v) = rv G v ∧ fits (.object C) (rv G v) = true := fun v h => by
  obtain ⟨a, rfl⟩ := isR_e h
  rcases rv_r G hx a with e | ⟨x, e⟩ <;> rw [e] <;> exact ⟨rfl, rfl⟩
theorem okf_A (G : rGm) (t : FieldType) (hx : ∀ i : Nat, G.2.2.2.1 i = .null ∨ ∃ a, G.2.2.2.1 i = .ref a) : ∀ v, isR v = true → narrow (.array t) (rv G v) = rv G v ∧ fits (.array t) (rv G v) = true := fun v h => by
  obtain ⟨a, rfl⟩ := isR_e h
  rcases rv_r G hx a with e | ⟨x, e⟩ <;> rw [e] <;> exact ⟨rfl, rfl⟩
theorem okr_I : ∀ v, isI v = true → ∃ a, v = .inl a ∧ narrow .int (.int (nI a)) = .int (nI a) := fun v h => by
  obtain ⟨a, rfl⟩ := isI_e h
  exact ⟨a, rfl, rfl⟩
theorem okr_Z : ∀ v, isZ v = true → ∃ a, v = .inl a ∧ narrow .boolean (.int (nI a)) = .int (nI a) := fun v h => by
  obtain ⟨a, rfl, h2, -⟩ := isZ_e h
  exact ⟨a, rfl, h2⟩
theorem okr_B : ∀ v, isB v = true → ∃ a, v = .inl a ∧ narrow .byte (.int (nI a)) = .int (nI a) := fun v h => isB_e h
theorem okr_C : ∀ v, isC v = true → ∃ a, v = .inl a ∧ narrow .char (.int (nI a)) = .int (nI a) := fun v h => by
  rcases v with a | a | a
  · have g1 : a ≤ 65535 := Nat.ble_eq.mp h
    refine ⟨a, rfl, ?_⟩
    exact (pk_charN (by omega)).1
  · cases h
  · cases h
end
section
/-! java.util.Arrays.fill(int[], int), by its loop -/
set_option maxRecDepth 100000 in
set_option maxHeartbeats 4000000 in
theorem ok_J7_fill_53178 (l : Launch) : rMet vwCl rFo rZs rRs rNs rTs l yJ7_fill_53178 cJ7_fill_53178 4 (Option.none : Option FieldType) 0 0 ev_J7_fill_53178 := by
  intro G as w n o e0
  obtain ⟨x, as1, rfl, e1⟩ := rP_some e0
  obtain ⟨v, as2, rfl, e2⟩ := rP_some e1
  cases as2 with
  | cons z as2 => cases e2
  | nil =>
  obtain ⟨a, rfl, e3⟩ := rI_some e2
  obtain ⟨r, rfl, e4⟩ := rR_some e3
  obtain ⟨q1, cell, hp, e5⟩ := rO_some e4
  obtain ⟨t, N, d, m9, rfl, e6⟩ := rCA_some e5
  obtain ⟨e7, e8⟩ := rB_yes e6
  have ht : t = 0 := Nat.eq_of_beq_eq_true e7
  subst ht
  have e9 := rWS_some _ _ e8
  cases e9
  refine ⟨Nat.le_refl _, ?_⟩
  refine Met.ofW (cc := cJ7_fill_53178) (maxL := 4) (ret := none) (by decide +kernel) rfl ?_
  intro p e s m args below meth c s₁ B hml hv
  obtain ⟨rfl, hP, hKK⟩ := hv
  have hx := B.exec
  have hb := B.bytes
  have hr := B.returns
  have hlocks := B.notSynchronized
  have hl := lv_entry ([.ref (G.2.2.1 + r / 2), .int (nI a)]) (n := 4) (Nat.le_of_ble_eq_true rfl)
  have hargs : ([.inr (.inr r), .inl a] : List rCV).map (rv G) = [.ref (G.2.2.1 + r / 2), .int (nI a)] := by
    rw [List.map_cons, rv_own G q1]; rfl
  rw [hargs]
  rw [lg_entry_eq]
  generalize (lg_sl ([.ref (G.2.2.1 + r / 2), .int (nI a)]) ++ List.replicate (4 - (lg_sl ([.ref (G.2.2.1 + r / 2), .int (nI a)])).length) Slot.unset).toArray = ls at hl ⊢
  have hl : lv_has ls 4 [(0, .ref (G.2.2.1 + r / 2)), (1, .int (nI a))] := hl
  obtain ⟨b1, b2, b3⟩ := pic_cell hP hp
  have harr := hKK.arr b1
  rw [Nat.sub_self]
  refine lv_iconst (v := nI 0) hx hb dJ7_fill_53178_0 (by decide +kernel) ?_
  refine lv_istore_n (lv' := [(2, .int (nI 0)), (0, .ref (G.2.2.1 + r / 2)), (1, .int (nI a))]) hx hb dJ7_fill_53178_1 rfl hl (by decide) rfl (fun ls hl => ?_)
  refine lv_aload_n hx hb dJ7_fill_53178_2 rfl (lv_at hl 1 rfl) ?_
  refine W.alen (n := nI N) hx hb b3 (harr _ _) (by rw [arrV_size]; rfl) rfl rfl dJ7_fill_53178_3 ?_
  refine lv_istore_n (lv' := [(3, .int (nI N)), (2, .int (nI 0)), (0, .ref (G.2.2.1 + r / 2)), (1, .int (nI a))]) hx hb dJ7_fill_53178_4 rfl hl (by decide) rfl (fun ls hl => ?_)
  have loop : ∀ (k i : Nat) (H : Heap) (locs : List Loc) (ls : Array Slot), i ≤ N → N - i < k → lv_has ls 4 [(3, .int (nI N)), (2, .int (nI i)), (0, .ref (G.2.2.1 + r / 2)), (1, .int (nI a))] → H[G.2.2.1 + r / 2]? = some (arrV (G.2.1 0) N (fun j => if j < i then .int (nI a) else rv G (rL d m9 j))) → H.size = s.heap.size → (∀ q, q ≠ G.2.2.1 + r / 2 → H[q]? = s.heap[q]?) → (∀ x ∈ locs, G.2.2.1 ≤ x.base) →
      W p l e { frames := 0, cells := 0, slots := 0, locals := 0 } s m [.ref (G.2.2.1 + r / 2), .int (nI a)].toArray below meth c H locs 0 0 (MQ below (rQ vwCl rFo rZs rRs rNs G (none, wSet (r / 2) (.inr (0, N, .inl a, [])) w, n, 0)) [.ref (G.2.2.1 + r / 2), .int (nI a)].toArray s 0 0 (fun q => G.2.2.1 ≤ q)) (F0 m 5 ls []) := by
    intro k
    induction k with
    | zero => intro i H locs ls _ h; exact absurd h (Nat.not_lt_zero _)
    | succ k ih =>
      intro i H locs ls hi hk hl hc hz ho hL
      refine lv_iload_n hx hb dJ7_fill_53178_5 rfl (lv_at hl 1 rfl) ?_
      refine lv_iload_n hx hb dJ7_fill_53178_6 rfl (lv_at hl 0 rfl) ?_
      refine lv_icmp_ge (tgt := 20) hx hb dJ7_fill_53178_7 (by decide) (fun c_1 => ?_) (fun c_1 => ?_)
      · have hNi : i = N := by
          rcases Nat.lt_or_ge i N with q | q
          · exact absurd c_1 (nI_ge q (by omega))
          · omega
        subst hNi
        refine W.vret hx hb hr (fun t ht hW => ⟨rfl, ?_, hKK.warm hW⟩) hL dJ7_fill_53178_20 hlocks
        rw [ht]
        refine pic_set hP hp ⟨b1, b2, ?_⟩ hz ho
        rw [hc]
        refine congrArg some (arrV_ext fun j hj => ?_)
        rw [if_pos hj, rL_eq]
        rfl
      · have hlt : i < N := by
          rcases Nat.lt_or_ge i N with q | q
          · exact q
          · exact absurd (nI_le q (by omega)) c_1
        refine lv_aload_n hx hb dJ7_fill_53178_10 rfl (lv_at hl 2 rfl) ?_
        refine lv_iload_n hx hb dJ7_fill_53178_11 rfl (lv_at hl 1 rfl) ?_
        refine lv_iload_n hx hb dJ7_fill_53178_12 rfl (lv_at hl 3 rfl) ?_
        refine W.iast hx hb hc (harr _ _) (fun q => by cases q) (ix_in hlt b2 (by rw [arrV_size]; exact Nat.le_refl _)) rfl rfl dJ7_fill_53178_13 (fun H1 e1 z1 o1 => ?_)
        refine lv_iinc (k := 1) (v := nI (i + 1)) (lv' := [(2, .int (nI (i + 1))), (3, .int (nI N)), (0, .ref (G.2.2.1 + r / 2)), (1, .int (nI a))]) hx hb dJ7_fill_53178_14 hl rfl (nI_1 i) (by decide) rfl (fun ls hl => ?_)
        refine lv_goto (tgt := 5) hx hb dJ7_fill_53178_17 (show ((17 : Nat) : Int) + -12 = ((5 : Nat) : Int) by decide) ?_
        refine ih (i + 1) H1 _ ls hlt (by omega) (lv_sub hl [1, 0, 2, 3] rfl) ?_ (z1.trans hz) (fun q hq => (o1 q hq).trans (ho q hq)) (locs_put hL)
        rw [e1, arrV_store, nI_clamp (by omega)]
        refine congrArg some (arrV_ext fun j hj => ?_)
        unfold updV
        by_cases q : j = i
        · rw [if_pos q, if_pos (by omega)]
        · rw [if_neg q]
          show (if j < i then Value.int (nI a) else rv G (rL d m9 j)) = (if j < i + 1 then Value.int (nI a) else rv G (rL d m9 j))
          by_cases q2 : j < i
          · rw [if_pos q2, if_pos (by omega)]
          · rw [if_neg q2, if_neg (by omega)]
  exact loop (N + 1) 0 s.heap [] ls (Nat.zero_le _) (by omega) hl (by rw [b3]; exact congrArg some (arrV_ext fun j hj => by rw [if_neg (Nat.not_lt_zero j)])) rfl (fun _ _ => rfl) (fun x hx => by cases hx)
end
