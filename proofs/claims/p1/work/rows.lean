section
/-! A RUNNER OF BYTECODE OVER LISTS, for the kernel to compute with. A value: an int (its 32 bits), a long (its 64 bits), null or a reference (0 is null, 2k+1 the k-th cell made since the base, 2i+2 the i-th thing that is there from the start). A cell: an object (its class's number, its fields), an array (type, length, what the rest holds, what single places hold, latest first). The world: the cells that are known, by their numbers, the newest first; the number of the next. -/
abbrev rCV : Type := Nat ⊕ (Nat ⊕ Nat)
abbrev rMp : Type := List (Nat × List (Nat × rCV))
abbrev rAr : Type := Nat × (Nat × (rCV × rMp))
abbrev rCC : Type := (Nat × List rCV) ⊕ rAr
abbrev rLs : Type := List (Nat × rCV)
abbrev rWd : Type := List (Nat × rCC)
abbrev rOut : Type := Option rCV × (rWd × (Nat × Nat))
abbrev rK : Type := rLs → List rCV → rWd → Nat → Nat → Option rOut
abbrev rBl : Type := (Nat → rK) → rK
abbrev rEv : Type := List rCV → rWd → Nat → Option rOut
/-- a number, computed before it is handed on -/
noncomputable def rN {α : Type} (n : Nat) (k : Nat → α) : α := Nat.rec (k 0) (fun m _ => k (Nat.succ m)) n
noncomputable def rB {α : Type} (b : Bool) (x y : α) : α := Bool.rec y x b
noncomputable def rG {α β : Type} (l : List α) (i : Nat) (k : α → Option β) : Option β := List.rec (motive := fun _ => Nat → Option β) (fun _ => none) (fun x _ ih i => Nat.rec (k x) (fun j _ => ih j) i) l i
noncomputable def rS {α β : Type} (l : List α) (i : Nat) (v : α) (k : List α → Option β) : Option β := List.rec (motive := fun _ => Nat → (List α → Option β) → Option β) (fun _ _ => none) (fun x xs ih i k => Nat.rec (k (v :: xs)) (fun j _ => ih j (fun ys => k (x :: ys))) i) l i k
noncomputable def rA {β : Type} (l : rLs) (i : Nat) (k : rCV → Option β) : Option β := List.rec (motive := fun _ => Option β) none (fun x _ ih => Prod.rec (fun a v => rB (Nat.beq a i) (k v) ih) x) l
noncomputable def rF {β : Type} (p : Nat × rCV → Bool) (l : rLs) (k : rLs → Option β) : Option β := List.rec (motive := fun _ => (rLs → Option β) → Option β) (fun k => k []) (fun x _ ih k => rB (p x) (ih (fun ys => k (x :: ys))) (ih k)) l k
noncomputable def rLi (d : rCV) (m : List (Nat × rCV)) (i : Nat) : rCV := List.rec (motive := fun _ => rCV) d (fun x _ ih => Prod.rec (fun a v => rB (Nat.beq a i) v ih) x) m
/-- what place i holds -/
noncomputable def rL (d : rCV) (m : rMp) (i : Nat) : rCV := rN (Nat.div i 64) (fun q => List.rec (motive := fun _ => rCV) d (fun x _ ih => Prod.rec (fun a l => rB (Nat.beq a q) (rLi d l i) ih) x) m)
/-- place i, of block q, holds v now -/
noncomputable def rU {β : Type} (m : rMp) (q i : Nat) (v : rCV) (k : rMp → Option β) : Option β := List.rec (motive := fun _ => (rMp → Option β) → Option β) (fun k => k [(q, [(i, v)])]) (fun x xs ih k => Prod.rec (fun a l => rB (Nat.beq a q) (k ((a, (i, v) :: l) :: xs)) (ih (fun ys => k ((a, l) :: ys)))) x) m k
noncomputable def rI {β : Type} (v : rCV) (k : Nat → Option β) : Option β := Sum.rec (fun a => k a) (fun _ => none) v
noncomputable def rJ {β : Type} (v : rCV) (k : Nat → Option β) : Option β := Sum.rec (fun _ => none) (fun x => Sum.rec (fun a => k a) (fun _ => none) x) v
noncomputable def rR {β : Type} (v : rCV) (k : Nat → Option β) : Option β := Sum.rec (fun _ => none) (fun x => Sum.rec (fun _ => none) (fun a => k a) x) v
/-- a value, computed before it is handed on -/
noncomputable def rV {β : Type} (v : rCV) (k : rCV → Option β) : Option β := Sum.rec (fun a => k (.inl a)) (fun x => Sum.rec (fun a => k (.inr (.inl a))) (fun a => k (.inr (.inr a))) x) v
noncomputable def rP {β : Type} (st : List rCV) (k : rCV → List rCV → Option β) : Option β := List.rec (motive := fun _ => Option β) none (fun v st _ => k v st) st
noncomputable def rLong (v : rCV) : Bool := Sum.rec (fun _ => false) (fun x => Sum.rec (fun _ => true) (fun _ => false) x) v
noncomputable def rCat (v : rCV) : Nat := rB (rLong v) 2 1
noncomputable def rSum (st : List rCV) : Nat := List.rec (motive := fun _ => Nat) 0 (fun v _ ih => Nat.add (rCat v) ih) st
noncomputable def rKeep1 (i : Nat) (q : Nat × rCV) : Bool := rB (Nat.beq q.1 i) false (rB (Nat.beq (Nat.succ q.1) i) (rB (rLong q.2) false true) true)
noncomputable def rKeep2 (i : Nat) (q : Nat × rCV) : Bool := rB (Nat.beq q.1 i) false (rB (Nat.beq q.1 (Nat.succ i)) false (rB (Nat.beq (Nat.succ q.1) i) (rB (rLong q.2) false true) true))
def rM : Nat := 4294967296
def rH : Nat := 2147483648
def rML : Nat := 18446744073709551616
def rHL : Nat := 9223372036854775808
-- arithmetic of the bits
noncomputable def rSg (a : Nat) : Nat := Nat.mod (Nat.add a 2147483648) 4294967296
noncomputable def rSgL (a : Nat) : Nat := Nat.mod (Nat.add a 9223372036854775808) 18446744073709551616
noncomputable def rAdd (a b : Nat) : Nat := Nat.mod (Nat.add a b) 4294967296
noncomputable def rNeg (a : Nat) : Nat := Nat.mod (Nat.sub 4294967296 (Nat.mod a 4294967296)) 4294967296
noncomputable def rSub (a b : Nat) : Nat := rAdd a (rNeg b)
noncomputable def rMul (a b : Nat) : Nat := Nat.mod (Nat.mul a b) 4294967296
noncomputable def rShl (a b : Nat) : Nat := Nat.mod (Nat.mul a (Nat.pow 2 (Nat.mod b 32))) 4294967296
/-- >> of a number that is not negative -/
noncomputable def rShr (a b : Nat) : Nat := Nat.div a (Nat.pow 2 (Nat.mod b 32))
noncomputable def rIsN (a : Nat) : Bool := Nat.ble 2147483648 a
-- instructions
noncomputable def h_ld (ok : rCV → Bool) (i : Nat) (k : rK) : rK := fun ls st w n c => rA ls i (fun v => rB (ok v) (k ls (v :: st) w n c) none)
noncomputable def h_st (ok : rCV → Bool) (i : Nat) (k : rK) : rK := fun ls st w n c => rP st (fun v st => rB (ok v) (rF (rKeep1 i) ls (fun l => k ((i, v) :: l) st w n c)) none)
noncomputable def h_st2 (i : Nat) (k : rK) : rK := fun ls st w n c => rP st (fun v st => rB (rLong v) (rF (rKeep2 i) ls (fun l => k ((i, v) :: l) st w n c)) none)
noncomputable def h_inc (i d : Nat) (k : rK) : rK := fun ls st w n c => rA ls i (fun v => rI v (fun a => rN (rAdd a d) (fun z => rF (rKeep1 i) ls (fun l => k ((i, .inl z) :: l) st w n c))))
noncomputable def h_v (v : rCV) (k : rK) : rK := fun ls st w n c => k ls (v :: st) w n c
noncomputable def h_dup (k : rK) : rK := fun ls st w n c => rP st (fun v st => rB (rLong v) none (k ls (v :: v :: st) w n c))
noncomputable def h_dupx1 (k : rK) : rK := fun ls st w n c => rP st (fun a st => rP st (fun b st => rB (rLong a) none (rB (rLong b) none (k ls (a :: b :: a :: st) w n c))))
noncomputable def h_pop (k : rK) : rK := fun ls st w n c => rP st (fun v st => rB (rLong v) none (k ls st w n c))
noncomputable def h_bin (ok : Nat → Nat → Bool) (f : Nat → Nat → Nat) (k : rK) : rK := fun ls st w n c => rP st (fun y st => rP st (fun x st => rI y (fun b => rI x (fun a => rB (ok a b) (rN (f a b) (fun z => k ls (.inl z :: st) w n c)) none))))
noncomputable def h_un (ok : Nat → Bool) (f : Nat → Nat) (k : rK) : rK := fun ls st w n c => rP st (fun x st => rI x (fun a => rB (ok a) (rN (f a) (fun z => k ls (.inl z :: st) w n c)) none))
noncomputable def h_i2l (k : rK) : rK := fun ls st w n c => rP st (fun x st => rI x (fun a => rB (Nat.ble 2147483648 a) none (k ls (.inr (.inl a) :: st) w n c)))
noncomputable def h_lbin (f : Nat → Nat → Nat) (k : rK) : rK := fun ls st w n c => rP st (fun y st => rP st (fun x st => rJ y (fun b => rJ x (fun a => rN (f a b) (fun z => k ls (.inr (.inl z) :: st) w n c)))))
noncomputable def h_lsh (f : Nat → Nat → Nat) (k : rK) : rK := fun ls st w n c => rP st (fun y st => rP st (fun x st => rI y (fun b => rJ x (fun a => rB (Nat.blt b 64) (rN (f a b) (fun z => k ls (.inr (.inl z) :: st) w n c)) none))))
/-- cell i of the world -/
noncomputable def rWG {β : Type} (w : rWd) (i : Nat) (k : rCC → Option β) : Option β := List.rec (motive := fun _ => Option β) none (fun q _ ih => Prod.rec (fun a x => rB (Nat.beq a i) (k x) ih) q) w
/-- .. is x now -/
noncomputable def rWS {β : Type} (w : rWd) (i : Nat) (x : rCC) (k : rWd → Option β) : Option β := List.rec (motive := fun _ => (rWd → Option β) → Option β) (fun _ => none) (fun q w ih k => Prod.rec (fun a y => rB (Nat.beq a i) (k ((a, x) :: w)) (ih (fun w => k ((a, y) :: w)))) q) w k
/-- the cell of a reference that was made since the base -/
noncomputable def rO {β : Type} (w : rWd) (r : Nat) (k : Nat → rCC → Option β) : Option β := rB (Nat.beq (Nat.mod r 2) 1) (rN (Nat.div r 2) (fun p => rWG w p (fun x => k p x))) none
/-- .. or of one that was there from the start -/
noncomputable def rOF {β : Type} (fo : List rCC) (w : rWd) (r : Nat) (k : rCC → Option β) : Option β := rB (Nat.beq (Nat.mod r 2) 1) (rO w r (fun _ x => k x)) (rB (Nat.beq r 0) none (rN (Nat.pred (Nat.div r 2)) (fun p => rG fo p k)))
noncomputable def rCO {β : Type} (x : rCC) (k : Nat → List rCV → Option β) : Option β := Sum.rec (fun o => Prod.rec (fun a b => k a b) o) (fun _ => none) x
noncomputable def rCA {β : Type} (x : rCC) (k : Nat → Nat → rCV → rMp → Option β) : Option β := Sum.rec (fun _ => none) (fun o => Prod.rec (fun t o => Prod.rec (fun n o => Prod.rec (fun d m => k t n d m) o) o) o) x
noncomputable def h_get (fo : List rCC) (ci j : Nat) (k : rK) : rK := fun ls st w n c => rP st (fun x st => rR x (fun r => rOF fo w r (fun cell => rCO cell (fun ci' fs => rB (Nat.beq ci' ci) (rG fs j (fun v => k ls (v :: st) w n c)) none))))
noncomputable def h_put (ci j : Nat) (ok : rCV → Bool) (k : rK) : rK := fun ls st w n c => rP st (fun v st => rP st (fun x st => rB (ok v) (rR x (fun r => rO w r (fun p cell => rCO cell (fun ci' fs => rB (Nat.beq ci' ci) (rS fs j v (fun fs => rWS w p (.inl (ci, fs)) (fun w => k ls st w n c))) none)))) none))
noncomputable def h_alen (fo : List rCC) (k : rK) : rK := fun ls st w n c => rP st (fun x st => rR x (fun r => rOF fo w r (fun cell => rCA cell (fun _ N _ _ => k ls (.inl N :: st) w n c))))
/-- an element of an array of type t -/
noncomputable def h_ald (fo : List rCC) (ok : Nat → rCV → Bool) (k : rK) : rK := fun ls st w n c => rP st (fun y st => rP st (fun x st => rI y (fun i => rR x (fun r => rOF fo w r (fun cell => rCA cell (fun t' N d m => rB (Nat.blt i N) (rV (rL d m i) (fun v => rB (ok t' v) (k ls (v :: st) w n c) none)) none))))))
noncomputable def h_ast (ok : Nat → rCV → Bool) (k : rK) : rK := fun ls st w n c => rP st (fun v st => rP st (fun y st => rP st (fun x st => rI y (fun i => rR x (fun r => rO w r (fun p cell => rCA cell (fun t' N d m => rB (ok t' v) (rB (Nat.blt i N) (rN (Nat.div i 64) (fun q => rU m q i v (fun m => rWS w p (.inr (t', N, d, m)) (fun w => k ls st w n c)))) none) none)))))))
noncomputable def h_new (ci nf : Nat) (fs : List rCV) (k : rK) : rK := fun ls st w n c => rN (Nat.add c nf) (fun c => rN (Nat.succ (Nat.mul 2 n)) (fun r => rN (Nat.succ n) (fun n2 => k ls (.inr (.inr r) :: st) ((n, .inl (ci, fs)) :: w) n2 c)))
noncomputable def h_newa (t : Nat) (d : rCV) (k : rK) : rK := fun ls st w n c => rP st (fun x st => rI x (fun N => rB (Nat.ble N 60000000) (rN (Nat.add c N) (fun c => rN (Nat.succ (Nat.mul 2 n)) (fun r => rN (Nat.succ n) (fun n2 => k ls (.inr (.inr r) :: st) ((n, .inr (t, N, d, [])) :: w) n2 c)))) none))
noncomputable def rArg {β : Type} (m : Nat) (st : List rCV) (k : List rCV → List rCV → Option β) : Option β := Nat.rec (motive := fun _ => List rCV → List rCV → Option β) (fun as st => k as st) (fun _ ih as st => rP st (fun v st => ih (v :: as) st)) m [] st
noncomputable def rRes {β : Type} (o : Option rOut) (k : Option rCV → rWd → Nat → Nat → Option β) : Option β := Option.rec none (fun o => Prod.rec (fun v o => Prod.rec (fun w o => Prod.rec (fun n c => k v w n c) o) o) o) o
/-- the receiver is of class ci -/
noncomputable def rRecv (fo : List rCC) (ci : Nat) (as : List rCV) (w : rWd) (n : Nat) : Option Unit := rP as (fun v _ => rR v (fun r => rOF fo w r (fun x => rCO x (fun ci' _ => rB (Nat.beq ci' ci) (some ()) none))))
noncomputable def rAny (_ : List rCV) (_ : rWd) (_ : Nat) : Option Unit := some ()
/-- a call: m arguments, the receiver among them -/
noncomputable def h_call (m : Nat) (ok : List rCV → rWd → Nat → Option Unit) (F : rEv) (k : rK) : rK := fun ls st w n c => rArg m st (fun as st => rB (Nat.ble (rSum st) 8) (Option.rec none (fun _ => rRes (F as w n) (fun v w n ms => rN (Nat.add c ms) (fun c => Option.rec (k ls st w n c) (fun v => k ls (v :: st) w n c) v))) (ok as w n)) none)
/-- a text into a row of texts -/
noncomputable def h_astS (fo : List rCC) (k : rK) : rK := fun ls st w n c => rP st (fun v st => rP st (fun y st => rP st (fun x st => Option.rec none (fun _ => rI y (fun i => rR x (fun r => rO w r (fun p cell => rCA cell (fun t' N d m => rB (Nat.beq t' 4) (rB (Nat.blt i N) (rN (Nat.div i 64) (fun q => rU m q i v (fun m => rWS w p (.inr (4, N, d, m)) (fun w => k ls st w n c)))) none) none))))) (rRecv fo 0 [v] w n))))
-- ends of a block
noncomputable def t_no : rBl := fun _ _ _ _ _ _ => none
noncomputable def t_go (b : Nat) : rBl := fun J => J b
noncomputable def t_icmp (f : Nat → Nat → Bool) (b1 b2 : Nat) : rBl := fun J ls st w n c => rP st (fun y st => rP st (fun x st => rI y (fun b => rI x (fun a => rB (f a b) (J b1 ls st w n c) (J b2 ls st w n c)))))
noncomputable def t_if (f : Nat → Bool) (b1 b2 : Nat) : rBl := fun J ls st w n c => rP st (fun x st => rI x (fun a => rB (f a) (J b1 ls st w n c) (J b2 ls st w n c)))
noncomputable def t_nul (b1 b2 : Nat) : rBl := fun J ls st w n c => rP st (fun x st => rR x (fun r => rB (Nat.beq r 0) (J b1 ls st w n c) (rB (Nat.beq (Nat.mod r 2) 1) (J b2 ls st w n c) none)))
noncomputable def t_ret : rBl := fun _ _ st w n c => List.rec (some (none, w, n, c)) (fun _ _ _ => none) st
noncomputable def t_retv (ok : rCV → Bool) : rBl := fun _ _ st w n c => rP st (fun v st => rB (ok v) (List.rec (some (some v, w, n, c)) (fun _ _ _ => none) st) none)
noncomputable def sq (h : rK → rK) (t : rBl) : rBl := fun J => h (t J)
noncomputable def rRun (bs : List rBl) (fuel : Nat) : Nat → rK := Nat.rec (motive := fun _ => Nat → rK) (fun _ _ _ _ _ _ => none) (fun _ ih b ls st w n c => rG bs b (fun t => t ih ls st w n c)) fuel
noncomputable def rEq (a b : Nat) : Bool := Nat.beq (Nat.mod a 4294967296) (Nat.mod b 4294967296)
noncomputable def rNot (b : Bool) : Bool := rB b false true
noncomputable def rLt (a b : Nat) : Bool := Nat.blt (rSg a) (rSg b)
noncomputable def rLe (a b : Nat) : Bool := Nat.ble (rSg a) (rSg b)
noncomputable def isI (v : rCV) : Bool := Sum.rec (fun _ => true) (fun _ => false) v
noncomputable def isJ (v : rCV) : Bool := rLong v
noncomputable def isR (v : rCV) : Bool := Sum.rec (fun _ => false) (fun x => Sum.rec (fun _ => false) (fun _ => true) x) v
noncomputable def isZ (v : rCV) : Bool := Sum.rec (fun a => Nat.ble a 1) (fun _ => false) v
noncomputable def isB (v : rCV) : Bool := Sum.rec (fun a => rB (Nat.ble a 127) true (rB (Nat.ble 4294967168 a) (Nat.blt a 4294967296) false)) (fun _ => false) v
noncomputable def isC (v : rCV) : Bool := Sum.rec (fun a => Nat.ble a 65535) (fun _ => false) v
noncomputable def isT0 (t : Nat) : Bool := Nat.beq t 0
noncomputable def isT1 (t : Nat) : Bool := Nat.beq t 1
noncomputable def isT23 (t : Nat) : Bool := rB (Nat.beq t 2) true (Nat.beq t 3)
noncomputable def isTr (t : Nat) : Bool := Nat.ble 4 t
noncomputable def okI (t : Nat) (v : rCV) : Bool := rB (Nat.beq t 0) (isI v) false
noncomputable def okJ (t : Nat) (v : rCV) : Bool := rB (Nat.beq t 1) (isJ v) false
noncomputable def okB (t : Nat) (v : rCV) : Bool := rB (Nat.beq t 2) (isB v) (rB (Nat.beq t 3) (isZ v) false)
noncomputable def okA (t : Nat) (v : rCV) : Bool := rB (Nat.ble 4 t) (isR v) false
noncomputable def okS (t : Nat) (v : rCV) : Bool := rB (Nat.beq t 4) (isR v) false
noncomputable def rDok (a b : Nat) : Bool := rB (Nat.beq b 0) false (rB (Nat.blt a 2147483648) (Nat.blt b 2147483648) false)
noncomputable def rShlL (a b : Nat) : Nat := Nat.mod (Nat.mul a (Nat.pow 2 (Nat.mod b 64))) 18446744073709551616
/-- the arguments in their places, of nL at most -/
noncomputable def rIni {β : Type} (nL : Nat) (as : List rCV) (k : rLs → Option β) : Option β := List.rec (motive := fun _ => Nat → (rLs → Option β) → Option β) (fun pos k => rB (Nat.ble pos nL) (k []) none) (fun v _ ih pos k => rB (rLong v) (ih (Nat.succ (Nat.succ pos)) (fun l => k ((pos, v) :: l))) (ih (Nat.succ pos) (fun l => k ((pos, v) :: l)))) as 0 k
noncomputable def h_oinit (k : rK) : rK := fun ls st w n c => rP st (fun x st => rR x (fun r => rB (Nat.beq (Nat.mod r 2) 1) (rB (Nat.ble (rSum st) 8) (k ls st w n c) none) none))
noncomputable def okT (t : Nat) (v : rCV) : Bool := rB (Nat.beq t 0) (isI v) (rB (Nat.beq t 1) (isJ v) (okB t v))
/-- the values of m's places from sp on, N of them, of type t, laid into m' from dp on -/
noncomputable def rCp {β : Type} (t N sp dp : Nat) (d : rCV) (m m' : rMp) (k : rMp → Option β) : Option β := Nat.rec (motive := fun _ => rMp → Option β) k (fun j ih m' => rN (Nat.add dp j) (fun i => rN (Nat.div i 64) (fun q => rV (rL d m (Nat.add sp j)) (fun v => rB (okT t v) (rU m' q i v ih) none)))) N m'
noncomputable def h_acopy (fo : List rCC) (k : rK) : rK := fun ls st w n c => rP st (fun x5 st => rP st (fun x4 st => rP st (fun x3 st => rP st (fun x2 st => rP st (fun x1 st => rB (Nat.ble (rSum st) 8) (rI x5 (fun N => rI x4 (fun dp => rI x2 (fun sp => rR x3 (fun r3 => rR x1 (fun r1 => rOF fo w r1 (fun c1 => rCA c1 (fun t1 N1 d1 m1 => rO w r3 (fun p c3 => rCA c3 (fun t3 N3 d3 m3 => rB (Nat.beq t1 t3) (rB (Nat.ble t1 3) (rB (Nat.ble (Nat.add sp N) N1) (rB (Nat.ble (Nat.add dp N) N3) (rCp t1 N sp dp d1 m1 m3 (fun m => rWS w p (.inr (t3, N3, d3, m)) (fun w => k ls st w n c))) none) none) none) none)))))))))) none)))))
/-- String[n] -/
noncomputable def h_anewa (k : rK) : rK := fun ls st w n c => rP st (fun x st => rI x (fun N => rB (Nat.ble N 60000000) (rN (Nat.add c N) (fun c => rN (Nat.succ (Nat.mul 2 n)) (fun r => rN (Nat.succ n) (fun n2 => k ls (.inr (.inr r) :: st) ((n, .inr (4, N, .inr (.inr 0), [])) :: w) n2 c)))) none))
/-- T[N][M]: of the cells that come nothing is known -/
noncomputable def h_multi (k : rK) : rK := fun ls st w n c => rP st (fun y st => rP st (fun x st => rI x (fun N => rI y (fun M => rB (Nat.ble N 60000000) (rB (Nat.ble M 60000000) (rN (Nat.add c (Nat.add N (Nat.mul N M))) (fun c => rN (Nat.succ (Nat.mul 2 n)) (fun r => rN (Nat.add n (Nat.succ N)) (fun n2 => k ls (.inr (.inr r) :: st) w n2 c)))) none) none))))
/-- java.util.Arrays.fill(int[], int) -/
noncomputable def ev_J7_fill_53178 : rEv := fun as w n => rP as (fun x as => rP as (fun v as => List.rec (rI v (fun a => rR x (fun r => rO w r (fun p cell => rCA cell (fun t N _ _ => rB (Nat.beq t 0) (rWS w p (.inr (0, N, .inl a, [])) (fun w => some (none, w, n, 0))) none))))) (fun _ _ _ => none) as))
noncomputable def okSh (_ b : Nat) : Bool := Nat.blt b 32
noncomputable def okShr (a b : Nat) : Bool := rB (Nat.blt a 2147483648) (Nat.blt b 32) false
end
section
/-! THE RUNNER IS SOUND: what it computes the machine does. -/
theorem rN_eq {α : Type} (n : Nat) (k : Nat → α) : rN n k = k n := by cases n <;> rfl
theorem rB_some {α : Type} {b : Bool} {x y : Option α} {o : α} (h : rB b x y = some o) : (b = true ∧ x = some o) ∨ (b = false ∧ y = some o) := by
  cases b
  · exact Or.inr ⟨rfl, h⟩
  · exact Or.inl ⟨rfl, h⟩
theorem rB_yes {α : Type} {b : Bool} {x : Option α} {o : α} (h : rB b x none = some o) : b = true ∧ x = some o := by
  rcases rB_some h with q | q
  · exact q
  · cases q.2
theorem rB_no {α : Type} {b : Bool} {y : Option α} {o : α} (h : rB b none y = some o) : b = false ∧ y = some o := by
  rcases rB_some h with q | q
  · cases q.2
  · exact q
theorem rG_some {α β : Type} {k : α → Option β} {o : β} : ∀ (l : List α) (i : Nat), rG l i k = some o → ∃ x, l[i]? = some x ∧ k x = some o
  | [], i, h => by cases h
  | x :: l, 0, h => ⟨x, rfl, h⟩
  | x :: l, i + 1, h => by
    obtain ⟨y, h1, h2⟩ := rG_some l i h
    exact ⟨y, by rw [List.getElem?_cons_succ]; exact h1, h2⟩
theorem rS_some {α β : Type} {v : α} {o : β} : ∀ (l : List α) (i : Nat) (k : List α → Option β), rS l i v k = some o → i < l.length ∧ k (l.set i v) = some o
  | [], i, k, h => by cases h
  | x :: l, 0, k, h => ⟨Nat.succ_pos _, h⟩
  | x :: l, i + 1, k, h => by
    obtain ⟨h1, h2⟩ := rS_some l i (fun ys => k (x :: ys)) h
    exact ⟨Nat.succ_lt_succ h1, h2⟩
theorem rA_some {β : Type} {i : Nat} {k : rCV → Option β} {o : β} : ∀ (l : rLs), rA l i k = some o → ∃ v, (i, v) ∈ l ∧ k v = some o
  | [], h => by cases h
  | (a, v) :: l, h => by
    have h' : rB (Nat.beq a i) (k v) (rA l i k) = some o := h
    rcases rB_some h' with ⟨q, r⟩ | ⟨-, r⟩
    · have e : a = i := Nat.eq_of_beq_eq_true q
      subst e
      exact ⟨v, List.mem_cons_self, r⟩
    · obtain ⟨v2, h1, h2⟩ := rA_some l r
      exact ⟨v2, List.mem_cons_of_mem _ h1, h2⟩
theorem rF_eq {β : Type} {p : Nat × rCV → Bool} : ∀ (l : rLs) (k : rLs → Option β), rF p l k = k (l.filter p)
  | [], k => rfl
  | x :: l, k => by
    show rB (p x) (rF p l (fun ys => k (x :: ys))) (rF p l k) = _
    cases e : p x
    · rw [List.filter_cons_of_neg (by simp [e])]
      exact rF_eq l k
    · rw [List.filter_cons_of_pos (by simp [e])]
      exact rF_eq l _
/-- what the world tells of cell i -/
def wGet (i : Nat) : rWd → Option rCC
  | [] => none
  | (a, x) :: w => if a = i then some x else wGet i w
def wSet (i : Nat) (x : rCC) : rWd → rWd
  | [] => []
  | (a, y) :: w => if a = i then (a, x) :: w else (a, y) :: wSet i x w
theorem beq_t {a b : Nat} (h : a = b) : Nat.beq a b = true := by subst h; exact Nat.beq_refl a
theorem beq_f {a b : Nat} (h : ¬ a = b) : Nat.beq a b = false := by
  cases e : Nat.beq a b
  · rfl
  · exact absurd (Nat.eq_of_beq_eq_true e) h
theorem rWG_some {β : Type} {i : Nat} {k : rCC → Option β} {o : β} : ∀ (w : rWd), rWG w i k = some o → ∃ x, wGet i w = some x ∧ k x = some o
  | [], h => by cases h
  | (a, x) :: w, h => by
    have h' : rB (Nat.beq a i) (k x) (rWG w i k) = some o := h
    by_cases e : a = i
    · rw [beq_t e] at h'
      exact ⟨x, by show (if a = i then some x else wGet i w) = _; rw [if_pos e], h'⟩
    · rw [beq_f e] at h'
      obtain ⟨y, h1, h2⟩ := rWG_some w h'
      exact ⟨y, by show (if a = i then some x else wGet i w) = _; rw [if_neg e]; exact h1, h2⟩
theorem rWS_some {β : Type} {i : Nat} {x : rCC} {o : β} : ∀ (w : rWd) (k : rWd → Option β), rWS w i x k = some o → k (wSet i x w) = some o
  | [], k, h => by cases h
  | (a, y) :: w, k, h => by
    have h' : rB (Nat.beq a i) (k ((a, x) :: w)) (rWS w i x (fun w => k ((a, y) :: w))) = some o := h
    by_cases e : a = i
    · rw [beq_t e] at h'
      show k (if a = i then (a, x) :: w else (a, y) :: wSet i x w) = _
      rw [if_pos e]; exact h'
    · rw [beq_f e] at h'
      show k (if a = i then (a, x) :: w else (a, y) :: wSet i x w) = _
      rw [if_neg e]
      exact rWS_some w _ h'
theorem wGet_set {i j : Nat} {x : rCC} : ∀ (w : rWd) {y : rCC}, wGet j (wSet i x w) = some y → (j = i ∧ y = x) ∨ (j ≠ i ∧ wGet j w = some y)
  | [], y, h => by cases h
  | (a, z) :: w, y, h => by
    have h' : wGet j (if a = i then (a, x) :: w else (a, z) :: wSet i x w) = some y := h
    show _ ∨ (_ ∧ (if a = j then some z else wGet j w) = some y)
    by_cases e : a = i
    · rw [if_pos e] at h'
      have h2 : (if a = j then some x else wGet j w) = some y := h'
      by_cases e2 : a = j
      · rw [if_pos e2] at h2
        cases h2
        exact Or.inl ⟨e2.symm.trans e, rfl⟩
      · rw [if_neg e2] at h2
        exact Or.inr ⟨fun q => e2 (e.trans q.symm), by rw [if_neg e2]; exact h2⟩
    · rw [if_neg e] at h'
      have h2 : (if a = j then some z else wGet j (wSet i x w)) = some y := h'
      by_cases e2 : a = j
      · rw [if_pos e2] at h2 ⊢
        exact Or.inr ⟨fun q => e (e2.trans q), h2⟩
      · rw [if_neg e2] at h2 ⊢
        exact wGet_set w h2
theorem rI_some {β : Type} {v : rCV} {k : Nat → Option β} {o : β} (h : rI v k = some o) : ∃ a, v = .inl a ∧ k a = some o := by
  rcases v with a | a | a
  · exact ⟨a, rfl, h⟩
  · cases h
  · cases h
theorem rJ_some {β : Type} {v : rCV} {k : Nat → Option β} {o : β} (h : rJ v k = some o) : ∃ a, v = .inr (.inl a) ∧ k a = some o := by
  rcases v with a | a | a
  · cases h
  · exact ⟨a, rfl, h⟩
  · cases h
theorem rR_some {β : Type} {v : rCV} {k : Nat → Option β} {o : β} (h : rR v k = some o) : ∃ a, v = .inr (.inr a) ∧ k a = some o := by
  rcases v with a | a | a
  · cases h
  · cases h
  · exact ⟨a, rfl, h⟩
theorem rV_eq {β : Type} (v : rCV) (k : rCV → Option β) : rV v k = k v := by
  rcases v with a | a | a <;> rfl
theorem rP_some {β : Type} {st : List rCV} {k : rCV → List rCV → Option β} {o : β} (h : rP st k = some o) : ∃ v st', st = v :: st' ∧ k v st' = some o := by
  cases st with
  | nil => cases h
  | cons v st => exact ⟨v, st, rfl, h⟩
theorem rCO_some {β : Type} {x : rCC} {k : Nat → List rCV → Option β} {o : β} (h : rCO x k = some o) : ∃ ci fs, x = .inl (ci, fs) ∧ k ci fs = some o := by
  rcases x with ⟨a, b⟩ | x
  · exact ⟨a, b, rfl, h⟩
  · cases h
theorem rCA_some {β : Type} {x : rCC} {k : Nat → Nat → rCV → rMp → Option β} {o : β} (h : rCA x k = some o) : ∃ t N d m, x = .inr (t, N, d, m) ∧ k t N d m = some o := by
  rcases x with x | ⟨t, N, d, m⟩
  · cases h
  · exact ⟨t, N, d, m, rfl, h⟩
theorem isI_e {v : rCV} (h : isI v = true) : ∃ a, v = .inl a := by
  rcases v with a | a | a
  · exact ⟨a, rfl⟩
  · cases h
  · cases h
theorem isJ_e {v : rCV} (h : isJ v = true) : ∃ a, v = .inr (.inl a) := by
  rcases v with a | a | a
  · cases h
  · exact ⟨a, rfl⟩
  · cases h
theorem isR_e {v : rCV} (h : isR v = true) : ∃ a, v = .inr (.inr a) := by
  rcases v with a | a | a
  · cases h
  · cases h
  · exact ⟨a, rfl⟩
-- the judgement, for any reading V of the runner's states
abbrev rPr : Type := rOut → Nat → rLs → List rCV → rWd → Nat → Nat → Prop
def HS (V : rPr) (pc pc' : Nat) (h : rK → rK) : Prop := ∀ (k : rK) (ls : rLs) (st : List rCV) (w : rWd) (n c : Nat) (o : rOut), h k ls st w n c = some o → ∃ ls' st' w' n' c', k ls' st' w' n' c' = some o ∧ n ≤ n' ∧ c ≤ c' ∧ (n' ≤ o.2.2.1 → c' ≤ o.2.2.2 → V o pc' ls' st' w' n' c' → V o pc ls st w n c)
def BG (V : rPr) (o : rOut) (pc : Nat) (ls : rLs) (st : List rCV) (w : rWd) (n c : Nat) : Prop := (n ≤ o.2.2.1 ∧ c ≤ o.2.2.2) ∧ V o pc ls st w n c
def BS (V : rPr) (pcs : List Nat) (pc : Nat) (t : rBl) : Prop := ∀ (J : Nat → rK), (∀ b pb, pcs[b]? = some pb → ∀ ls st w n c o, J b ls st w n c = some o → BG V o pb ls st w n c) → ∀ ls st w n c o, t J ls st w n c = some o → BG V o pc ls st w n c
theorem HS.same {V : rPr} {pc pc' : Nat} {h : rK → rK} (H : ∀ (k : rK) (ls : rLs) (st : List rCV) (w : rWd) (n c : Nat) (o : rOut), h k ls st w n c = some o → ∃ ls' st', k ls' st' w n c = some o ∧ (V o pc' ls' st' w n c → V o pc ls st w n c)) : HS V pc pc' h := by
  intro k ls st w n c o e
  obtain ⟨ls', st', e1, h1⟩ := H k ls st w n c o e
  exact ⟨ls', st', w, n, c, e1, Nat.le_refl _, Nat.le_refl _, fun _ _ => h1⟩
theorem BS.sq {V : rPr} {pcs : List Nat} {pc pc' : Nat} {h : rK → rK} {t : rBl} (hh : HS V pc pc' h) (ht : BS V pcs pc' t) : BS V pcs pc (sq h t) := by
  intro J hJ ls st w n c o e
  obtain ⟨ls', st', w', n', c', e2, h1, h2, hV⟩ := hh (t J) ls st w n c o e
  obtain ⟨⟨a1, a2⟩, hv⟩ := ht J hJ ls' st' w' n' c' o e2
  exact ⟨⟨Nat.le_trans h1 a1, Nat.le_trans h2 a2⟩, hV a1 a2 hv⟩
theorem BS.go {V : rPr} {pcs : List Nat} {pc b : Nat} (hb : pcs[b]? = some pc) : BS V pcs pc (t_go b) := fun J hJ ls st w n c o e => hJ b pc hb ls st w n c o e
theorem BS.no {V : rPr} {pcs : List Nat} {pc : Nat} : BS V pcs pc t_no := fun J hJ ls st w n c o e => by cases e
theorem BS.via {V : rPr} {pcs : List Nat} {pc pc' : Nat} {t : rBl} (ht : BS V pcs pc' t) (h : ∀ o ls st w n c, V o pc' ls st w n c → V o pc ls st w n c) : BS V pcs pc t := by
  intro J hJ ls st w n c o e
  obtain ⟨a, b⟩ := ht J hJ ls st w n c o e
  exact ⟨a, h _ _ _ _ _ _ b⟩
def AllB (V : rPr) (pcs : List Nat) : List Nat → List rBl → Prop
  | pb :: ps, t :: ts => BS V pcs pb t ∧ AllB V pcs ps ts
  | [], [] => True
  | _, _ => False
theorem AllB.n {V : rPr} {pcs : List Nat} : AllB V pcs [] [] := trivial
theorem AllB.c {V : rPr} {pcs : List Nat} {pb : Nat} {ps : List Nat} {t : rBl} {ts : List rBl} (h1 : BS V pcs pb t) (h2 : AllB V pcs ps ts) : AllB V pcs (pb :: ps) (t :: ts) := ⟨h1, h2⟩
theorem AllB.at {V : rPr} {pcs : List Nat} : ∀ (ps : List Nat) (ts : List rBl), AllB V pcs ps ts → ∀ (b : Nat) (t : rBl), ts[b]? = some t → ∃ pb : Nat, ps[b]? = some pb ∧ BS V pcs pb t
  | [], [], _, b, t, h => by simp at h
  | [], _ :: _, h, _, _, _ => h.elim
  | _ :: _, [], h, _, _, _ => h.elim
  | pb :: ps, t0 :: ts, h, 0, t, e => by
    rw [List.getElem?_cons_zero] at e
    cases e
    exact ⟨pb, rfl, h.1⟩
  | pb :: ps, t0 :: ts, h, b + 1, t, e => by
    rw [List.getElem?_cons_succ] at e
    obtain ⟨p2, h1, h2⟩ := AllB.at ps ts h.2 b t e
    exact ⟨p2, by rw [List.getElem?_cons_succ]; exact h1, h2⟩
theorem run_ok {V : rPr} {pcs : List Nat} {bs : List rBl} (h : AllB V pcs pcs bs) : ∀ fuel b pb, pcs[b]? = some pb → ∀ ls st w n c o, rRun bs fuel b ls st w n c = some o → BG V o pb ls st w n c := by
  intro fuel
  induction fuel with
  | zero => intro b pb _ ls st w n c o e; cases e
  | succ f ih =>
    intro b pb hb ls st w n c o e
    obtain ⟨t, h1, h2⟩ := rG_some (k := fun t : rBl => t (rRun bs f) ls st w n c) bs b e
    obtain ⟨p2, h3, h4⟩ := h.at _ _ b t h1
    have e2 : p2 = pb := Option.some.inj (h3.symm.trans hb)
    subst e2
    exact h4 (rRun bs f) ih ls st w n c o h2
end
section
/-! THE RUNNER'S NUMBERS -/
theorem r_beq (a b : Nat) : (a == b) = Nat.beq a b := by
  rw [Bool.eq_iff_iff]
  simp [Nat.beq_eq]
theorem rI_mod (n : Nat) : nI (n % 4294967296) = nI n := by
  apply Int32.toBitVec_inj.mp
  apply BitVec.eq_of_toNat_eq
  show (BitVec.ofNat 32 _).toNat = (BitVec.ofNat 32 _).toNat
  rw [BitVec.toNat_ofNat, BitVec.toNat_ofNat, Nat.mod_mod]
theorem rJ_mod (n : Nat) : lN (n % 18446744073709551616) = lN n := by
  apply Int64.toBitVec_inj.mp
  apply BitVec.eq_of_toNat_eq
  show (BitVec.ofNat 64 _).toNat = (BitVec.ofNat 64 _).toNat
  rw [BitVec.toNat_ofNat, BitVec.toNat_ofNat, Nat.mod_mod]
theorem n_add (a b : Nat) : nI a + nI b = nI (rAdd a b) := (nI_add a b).trans (rI_mod (a + b)).symm
theorem n_neg (a : Nat) : -nI a = nI (rNeg a) := by
  have h : nI a + nI (rNeg a) = 0 := by
    show nI a + nI ((4294967296 - a % 4294967296) % 4294967296) = 0
    rw [nI_add, ← rI_mod, show (a + (4294967296 - a % 4294967296) % 4294967296) % 4294967296 = 0 by omega]
    rfl
  have h2 : -nI a + (nI a + nI (rNeg a)) = -nI a + 0 := by rw [h]
  rw [← Int32.add_assoc, Int32.add_left_neg, Int32.zero_add, Int32.add_zero] at h2
  exact h2.symm
theorem n_sub (a b : Nat) : nI a - nI b = nI (rSub a b) := by
  rw [Int32.sub_eq_add_neg, n_neg, n_add]
  rfl
theorem n_mul (a b : Nat) : nI a * nI b = nI (rMul a b) := (pk_mul a b).trans (rI_mod (a * b)).symm
theorem n_land (a b : Nat) : nI a &&& nI b = nI (Nat.land a b) := by
  apply Int32.toBitVec_inj.mp
  apply BitVec.eq_of_toNat_eq
  rw [Int32.toBitVec_and, BitVec.toNat_and]
  show (BitVec.ofNat 32 _).toNat &&& (BitVec.ofNat 32 _).toNat = (BitVec.ofNat 32 (a &&& b)).toNat
  rw [BitVec.toNat_ofNat, BitVec.toNat_ofNat, BitVec.toNat_ofNat, ← Nat.and_mod_two_pow]
theorem n_lor (a b : Nat) : nI a ||| nI b = nI (Nat.lor a b) := by
  apply Int32.toBitVec_inj.mp
  apply BitVec.eq_of_toNat_eq
  rw [Int32.toBitVec_or, BitVec.toNat_or]
  show (BitVec.ofNat 32 _).toNat ||| (BitVec.ofNat 32 _).toNat = (BitVec.ofNat 32 (a ||| b)).toNat
  rw [BitVec.toNat_ofNat, BitVec.toNat_ofNat, BitVec.toNat_ofNat, ← Nat.or_mod_two_pow]
theorem n_lorL (a b : Nat) : lN a ||| lN b = lN (Nat.lor a b) := by
  apply Int64.toBitVec_inj.mp
  apply BitVec.eq_of_toNat_eq
  rw [Int64.toBitVec_or, BitVec.toNat_or]
  show (BitVec.ofNat 64 _).toNat ||| (BitVec.ofNat 64 _).toNat = (BitVec.ofNat 64 (a ||| b)).toNat
  rw [BitVec.toNat_ofNat, BitVec.toNat_ofNat, BitVec.toNat_ofNat, ← Nat.or_mod_two_pow]
theorem n_sh : ∀ b, b < 32 → ((nI b &&& 31).toBitVec.smod 32).toNat = b := by decide +kernel
theorem n_shL : ∀ b, b < 64 → (((nI b).toInt64 &&& 63).toBitVec.smod 64).toNat = b := by decide +kernel
theorem n_shl {a b : Nat} (hb : b < 32) : nI a <<< (nI b &&& 31) = nI (rShl a b) := by
  apply Int32.toBitVec_inj.mp
  apply BitVec.eq_of_toNat_eq
  rw [pk_shl _ _ b (n_sh b hb)]
  show (BitVec.ofNat 32 a).toNat * 2 ^ b % 2 ^ 32 = (BitVec.ofNat 32 ((a * 2 ^ (b % 32)) % 4294967296)).toNat
  rw [BitVec.toNat_ofNat, BitVec.toNat_ofNat, Nat.mod_eq_of_lt hb, Nat.mod_mod, Nat.mod_mul_mod]
theorem n_shlL {a b : Nat} (hb : b < 64) : lN a <<< ((nI b).toInt64 &&& 63) = lN (rShlL a b) := by
  apply Int64.toBitVec_inj.mp
  apply BitVec.eq_of_toNat_eq
  show ((lN a).toBitVec <<< (((nI b).toInt64 &&& 63).toBitVec.smod 64).toNat).toNat = (BitVec.ofNat 64 ((a * 2 ^ (b % 64)) % 18446744073709551616)).toNat
  rw [n_shL b hb, BitVec.toNat_shiftLeft, Nat.shiftLeft_eq, BitVec.toNat_ofNat]
  show (BitVec.ofNat 64 a).toNat * 2 ^ b % 2 ^ 64 = _
  rw [BitVec.toNat_ofNat, Nat.mod_eq_of_lt hb, Nat.mod_mod, Nat.mod_mul_mod]
theorem n_shr {a b : Nat} (ha : a < 2147483648) (hb : b < 32) : nI a >>> (nI b &&& 31) = nI (rShr a b) := by
  rw [pk_shrN ha _ b (n_sh b hb)]
  show _ = nI (a / 2 ^ (b % 32))
  rw [Nat.mod_eq_of_lt hb]
theorem n_toInt (a : Nat) : (nI a).toInt + 2147483648 = (rSg a : Nat) := by
  show (Int32.ofNat a).toInt + 2147483648 = (((a + 2147483648) % 4294967296 : Nat) : Int)
  rw [Int32.toInt_ofNat', show Int32.size = 4294967296 from rfl]
  rw [Int.bmod_def]
  split <;> omega
theorem n_lt (a b : Nat) : nI a < nI b ↔ rLt a b = true := by
  show _ ↔ Nat.blt (rSg a) (rSg b) = true
  rw [Int32.lt_iff_toInt_lt, Nat.blt_eq]
  have h1 := n_toInt a
  have h2 := n_toInt b
  omega
theorem n_le (a b : Nat) : nI a ≤ nI b ↔ rLe a b = true := by
  show _ ↔ Nat.ble (rSg a) (rSg b) = true
  rw [Int32.le_iff_toInt_le, Nat.ble_eq]
  have h1 := n_toInt a
  have h2 := n_toInt b
  omega
theorem n_eq (a b : Nat) : nI a = nI b ↔ rEq a b = true := by
  show _ ↔ Nat.beq (a % 4294967296) (b % 4294967296) = true
  rw [Nat.beq_eq]
  constructor
  · intro h
    have h2 : (BitVec.ofNat 32 a).toNat = (BitVec.ofNat 32 b).toNat := congrArg (fun x : Int32 => x.toBitVec.toNat) h
    rw [BitVec.toNat_ofNat, BitVec.toNat_ofNat] at h2
    exact h2
  · intro h
    rw [← rI_mod a, ← rI_mod b, h]
theorem n_i2b : ∀ a, a < 128 → (nI a).toInt8.toInt32 = nI a := by decide +kernel
theorem n_i2c {a : Nat} (h : a ≤ 65535) : ((nI a).toUInt32 % 65536).toInt32 = nI a := by
  rw [pk_char, pk_tn (by omega), Nat.mod_eq_of_lt (by omega)]
theorem n_bb : ∀ a, a < 128 → narrow .byte (.int (nI a)) = .int (nI a) := by decide +kernel
theorem n_bb2 : ∀ a, a < 128 → narrow .byte (.int (nI (a + 4294967168))) = .int (nI (a + 4294967168)) := by decide +kernel
theorem rNot_e {b : Bool} : rNot b = true ↔ ¬ b = true := by cases b <;> simp [rNot, rB]
theorem rB_and {x y : Bool} (h : rB x y false = true) : x = true ∧ y = true := by
  cases x
  · cases h
  · exact ⟨rfl, h⟩
theorem n_ne (a b : Nat) : ¬ nI a = nI b ↔ rNot (rEq a b) = true := by rw [rNot_e, n_eq]
theorem n_ge (a b : Nat) : nI b ≤ nI a ↔ rNot (rLt a b) = true := by
  rw [rNot_e, ← n_lt, Int32.le_iff_toInt_le, Int32.lt_iff_toInt_lt]
  omega
theorem n_gt (a b : Nat) : nI b < nI a ↔ rNot (rLe a b) = true := by
  rw [rNot_e, ← n_le, Int32.le_iff_toInt_le, Int32.lt_iff_toInt_lt]
  omega
theorem rDok_e {a b : Nat} (h : rDok a b = true) : 0 < b ∧ a < 2 ^ 31 ∧ b < 2 ^ 31 := by
  have h' : rB (Nat.beq b 0) false (rB (Nat.blt a 2147483648) (Nat.blt b 2147483648) false) = true := h
  cases e : Nat.beq b 0
  · rw [e] at h'
    obtain ⟨h1, h2⟩ := rB_and h'
    refine ⟨?_, Nat.blt_eq.mp h1, Nat.blt_eq.mp h2⟩
    rcases Nat.eq_zero_or_pos b with q | q
    · subst q; cases e
    · exact q
  · rw [e] at h'; cases h'
end
section
/-! THE RUNNER'S READING: G: classes' numbers and slots; the arrays' classes by their types; the base; what is there from the start; the heap at the base. -/
abbrev rGm : Type := va_G × ((Nat → ClassId) × (Nat × ((Nat → Value) × Heap)))
def rTy (t : Nat) : FieldType := match t with
  | 0 => .int
  | 1 => .long
  | 2 => .byte
  | 3 => .boolean
  | 4 => .object "java/lang/String"
  | 5 => .array .int
  | _ => .array .byte
def rv (G : rGm) (v : rCV) : Value := match v with
  | .inl a => .int (nI a)
  | .inr (.inl a) => .long (lN a)
  | .inr (.inr r) => if r = 0 then .null else if r % 2 = 1 then .ref (G.2.2.1 + r / 2) else G.2.2.2.1 (r / 2 - 1)
def rLv (G : rGm) (q : Nat × rCV) : Nat × Value := (q.1, rv G q.2)
def rTys (G : rGm) : List (ClassId × FieldType) := (List.range 7).map (fun t => (G.2.1 t, rTy t))
/-- a cell at address a -/
def rCell (cl : List vw_C) (G : rGm) (x : rCC) (H : Heap) (a : Nat) : Prop := match x with
  | .inl (ci, fs) => ∃ r : vw_C, cl[ci]? = some r ∧ t_OB a (G.1.1 ci) r.2.2 (G.1.2 ci) H (vp_V (fs.map (rv G)))
  | .inr (t, N, d, m) => t < 7 ∧ N ≤ 60000000 ∧ H[a]? = some (arrV (G.2.1 t) N (fun j => rv G (rL d m j)))
def rPic (cl : List vw_C) (G : rGm) (w : rWd) (n : Nat) (H : Heap) : Prop := H.size = G.2.2.1 + n ∧ (∀ q : Nat, q < G.2.2.1 → H[q]? = G.2.2.2.2[q]?) ∧ ∀ (i : Nat) (x : rCC), wGet i w = some x → i < n ∧ rCell cl G x H (G.2.2.1 + i)
/-- a thing that is there from the start -/
def rFx (cl : List vw_C) (G : rGm) (i : Nat) (x : rCC) (U : State) : Prop := match x with
  | .inl (ci, fs) => ∃ (a : Nat) (cell : Cell) (r : vw_C), G.2.2.2.1 i = .ref a ∧ a < G.2.2.1 ∧ G.2.2.2.2[a]? = some cell ∧ cl[ci]? = some r ∧ cell.cls = G.1.1 ci ∧ cell.vm = .none ∧ ∀ (j : Nat) (v : rCV), fs[j]? = some v → cell.slots[G.1.2 ci j]? = some (rv G v)
  | .inr (t, N, d, m) => ∃ a : Nat, G.2.2.2.1 i = .ref a ∧ a < G.2.2.1 ∧ t < 4 ∧ N ≤ 60000000 ∧ va_T (rTy t) a N (fun j => rv G (rL d m j)) (fun q => G.2.2.1 ≤ q) U G.2.2.2.2
/-- what the tables and the heap below the base say, at any time -/
def rKK (cl : List vw_C) (fo : List rCC) (zs : List (String × String × String × rCV)) (rs : List (String × Nat × String × Nat)) (ns : List Cond) (G : rGm) (U : State) : Prop :=
  va_K G.1 cl (rTys G) U ∧ (G.2.2.2.2.size = G.2.2.1 ∧ ∀ w ∈ ns, va_Nw w U ∧ ∀ s1 s2 : State, s1.WarmedH s2.vm → va_Nw w s1 → va_Nw w s2) ∧ (∀ i : Nat, G.2.2.2.1 i = .null ∨ ∃ a, G.2.2.2.1 i = .ref a) ∧
  (∀ q ∈ zs, va_Z q.1 q.2.1 q.2.2.1 (rv G q.2.2.2) (fun a => G.2.2.1 ≤ a) U G.2.2.2.2) ∧
  (∀ q ∈ rs, ∃ a, G.2.2.2.1 q.2.2.2 = .ref a ∧ vk_R q.1 q.2.1 q.2.2.1 a U) ∧
  ∀ (i : Nat) (x : rCC), fo[i]? = some x → rFx cl G i x U
/-- a method's end -/
def rQ (cl : List vw_C) (fo : List rCC) (zs : List (String × String × String × rCV)) (rs : List (String × Nat × String × Nat)) (ns : List Cond) (G : rGm) (o : rOut) : Array Value → State → Outcome → State → Prop := fun _ _ oc t => oc = .returned (o.1.map (rv G)) ∧ rPic cl G o.2.1 o.2.2.1 t.heap ∧ rKK cl fo zs rs ns G t
theorem rv_r (G : rGm) (h : ∀ i : Nat, G.2.2.2.1 i = .null ∨ ∃ a, G.2.2.2.1 i = .ref a) (r : Nat) : rv G (.inr (.inr r)) = .null ∨ ∃ a, rv G (.inr (.inr r)) = .ref a := by
  show (if r = 0 then Value.null else if r % 2 = 1 then .ref (G.2.2.1 + r / 2) else G.2.2.2.1 (r / 2 - 1)) = .null ∨ ∃ a, (if r = 0 then Value.null else if r % 2 = 1 then .ref (G.2.2.1 + r / 2) else G.2.2.2.1 (r / 2 - 1)) = .ref a
  by_cases h0 : r = 0
  · rw [if_pos h0]; exact Or.inl rfl
  · rw [if_neg h0]
    by_cases h1 : r % 2 = 1
    · rw [if_pos h1]; exact Or.inr ⟨_, rfl⟩
    · rw [if_neg h1]; exact h _
theorem rv_own (G : rGm) {r : Nat} (h : r % 2 = 1) : rv G (.inr (.inr r)) = .ref (G.2.2.1 + r / 2) := by
  show (if r = 0 then Value.null else if r % 2 = 1 then .ref (G.2.2.1 + r / 2) else G.2.2.2.1 (r / 2 - 1)) = _
  rw [if_neg (by omega), if_pos h]
theorem rv_ext (G : rGm) {r : Nat} (h : ¬ r % 2 = 1) (h0 : ¬ r = 0) : rv G (.inr (.inr r)) = G.2.2.2.1 (r / 2 - 1) := by
  show (if r = 0 then Value.null else if r % 2 = 1 then .ref (G.2.2.1 + r / 2) else G.2.2.2.1 (r / 2 - 1)) = _
  rw [if_neg h0, if_neg h]
theorem rv_cat1 (G : rGm) (h : ∀ i : Nat, G.2.2.2.1 i = .null ∨ ∃ a, G.2.2.2.1 i = .ref a) {v : rCV} (hv : rLong v = false) : (rv G v).category = 1 := by
  rcases v with a | a | a
  · rfl
  · cases hv
  · rcases rv_r G h a with e | ⟨x, e⟩ <;> rw [e] <;> rfl
theorem rv_cat2 (G : rGm) {v : rCV} (hv : rLong v = true) : (rv G v).category = 2 := by
  rcases v with a | a | a
  · cases hv
  · rfl
  · cases hv
theorem rv_cat (G : rGm) (h : ∀ i : Nat, G.2.2.2.1 i = .null ∨ ∃ a, G.2.2.2.1 i = .ref a) (v : rCV) : (rv G v).category = rCat v := by
  cases e : rLong v
  · rw [rv_cat1 G h e]; show 1 = rB (rLong v) 2 1; rw [e]; rfl
  · rw [rv_cat2 G e]; show 2 = rB (rLong v) 2 1; rw [e]; rfl
theorem rKeep1_eq (G : rGm) (h : ∀ i : Nat, G.2.2.2.1 i = .null ∨ ∃ a, G.2.2.2.1 i = .ref a) (i : Nat) (ls : rLs) : (ls.filter (rKeep1 i)).map (rLv G) = (ls.map (rLv G)).filter (fun q => !(q.1 == i) && !(q.1 + 1 == i && q.2.category == 2)) := by
  rw [List.filter_map]
  congr 1
  apply List.filter_congr
  intro q _
  show rB (Nat.beq q.1 i) false (rB (Nat.beq (Nat.succ q.1) i) (rB (rLong q.2) false true) true) = (!(q.1 == i) && !(q.1 + 1 == i && (rv G q.2).category == 2))
  have e1 : (q.1 == i) = Nat.beq q.1 i := r_beq _ _
  have e2 : (q.1 + 1 == i) = Nat.beq (Nat.succ q.1) i := r_beq _ _
  rw [e1, e2]
  cases Nat.beq q.1 i <;> cases Nat.beq (Nat.succ q.1) i <;> cases e3 : rLong q.2 <;> simp [rB, rv_cat1 G h, rv_cat2 G, e3]
theorem rKeep2_eq (G : rGm) (h : ∀ i : Nat, G.2.2.2.1 i = .null ∨ ∃ a, G.2.2.2.1 i = .ref a) (i : Nat) (ls : rLs) : (ls.filter (rKeep2 i)).map (rLv G) = (ls.map (rLv G)).filter (fun q => !(q.1 == i) && (!(q.1 == i + 1) && !(q.1 + 1 == i && q.2.category == 2))) := by
  rw [List.filter_map]
  congr 1
  apply List.filter_congr
  intro q _
  show rB (Nat.beq q.1 i) false (rB (Nat.beq q.1 (Nat.succ i)) false (rB (Nat.beq (Nat.succ q.1) i) (rB (rLong q.2) false true) true)) = (!(q.1 == i) && (!(q.1 == i + 1) && !(q.1 + 1 == i && (rv G q.2).category == 2)))
  have e1 : (q.1 == i) = Nat.beq q.1 i := r_beq _ _
  have e2 : (q.1 + 1 == i) = Nat.beq (Nat.succ q.1) i := r_beq _ _
  have e4 : (q.1 == i + 1) = Nat.beq q.1 (Nat.succ i) := r_beq _ _
  rw [e1, e2, e4]
  cases Nat.beq q.1 i <;> cases Nat.beq q.1 (Nat.succ i) <;> cases Nat.beq (Nat.succ q.1) i <;> cases e3 : rLong q.2 <;> simp [rB, rv_cat1 G h, rv_cat2 G, e3]
section RR
variable {cl : List vw_C} {fo : List rCC} {zs : List (String × String × String × rCV)} {rs : List (String × Nat × String × Nat)} {ns : List Cond} {Ts : List Cond} {G : rGm}
variable {l : Launch} {cc : ByteArray} {nL n0 : Nat} {own : String} {pc : Nat} {ret : Option FieldType} {ini : Bool} {fr lo : Nat}
/-- what holds inside a method -/
def rCx (cl : List vw_C) (fo : List rCC) (zs : List (String × String × String × rCV)) (rs : List (String × Nat × String × Nat)) (ns : List Cond) (Ts : List Cond) (G : rGm) (p : Program) (R : Room) (s : State) (m : MethodId) (args : Array Value) (meth : Method) (c : Code) (cc : ByteArray) (nL : Nat) (own : String) (ret : Option FieldType) (ini : Bool) (fr lo : Nat) : Prop :=
  p.tables.exec = Jvm.exec ∧ c.code = cc ∧ c.maxLocals = nL ∧ s.vm.findClass own = some m.cls ∧ (∀ w ∈ Ts, w.before args s = true) ∧ rKK cl fo zs rs ns G s ∧ meth.locks = false ∧ G.2.2.1 ≤ s.heap.size ∧ meth.sig.returnType = ret ∧ (ini = true → meth.name = "<init>") ∧ R.frames = fr ∧ R.locals = lo
/-- the reading: from such a state, in any such method, the machine comes to the end that the runner tells -/
def rW (cl : List vw_C) (fo : List rCC) (zs : List (String × String × String × rCV)) (rs : List (String × Nat × String × Nat)) (ns : List Cond) (Ts : List Cond) (G : rGm) (l : Launch) (cc : ByteArray) (nL : Nat) (own : String) (ret : Option FieldType) (ini : Bool) (fr lo n0 : Nat) : rPr := fun o pc ls st w n k =>
  ∀ (p : Program) (e : Env) (R : Room) (s : State) (m : MethodId) (args : Array Value) (below : List Frame) (meth : Method) (c : Code), rCx cl fo zs rs ns Ts G p R s m args meth c cc nL own ret ini fr lo →
  o.2.2.1 - n0 ≤ R.cells → o.2.2.2 ≤ R.slots → n0 ≤ n → ∀ (rl : Array Slot) (H : Heap) (locs : List Loc), lv_has rl nL (ls.map (rLv G)) → rPic cl G w n H → (∀ x ∈ locs, G.2.2.1 ≤ x.base) →
    W p l e R s m args below meth c H locs (n - n0) k (MQ below (rQ cl fo zs rs ns G o) args s (o.2.2.1 - n0) o.2.2.2 (fun q => G.2.2.1 ≤ q)) (F0 m pc rl (st.map (rv G)))
theorem rLv_mem {ls : rLs} {rl : Array Slot} {i : Nat} {v : rCV} (hl : lv_has rl nL (ls.map (rLv G))) (h : (i, v) ∈ ls) : rl[i]? = some (.val (rv G v)) := hl.2.2 (i, rv G v) (List.mem_map.mpr ⟨(i, v), h, rfl⟩)
/-- one row of the kit that changes the stack alone -/
theorem s_row {pc' : Nat} {h : rK → rK} (hh : ∀ (k : rK) (ls : rLs) (st : List rCV) (w : rWd) (n k0 : Nat) (o : rOut), h k ls st w n k0 = some o → ∃ st', k ls st' w n k0 = some o ∧ ∀ (p : Program) (e : Env) (R : Room) (s : State) (m : MethodId) (args : Array Value) (below : List Frame) (meth : Method) (c : Code), rCx cl fo zs rs ns Ts G p R s m args meth c cc nL own ret ini fr lo → ∀ (rl : Array Slot) (H : Heap) (locs : List Loc) (cells slots : Nat) (Q : State → Prop), lv_has rl nL (ls.map (rLv G)) → W p l e R s m args below meth c H locs cells slots Q (F0 m pc' rl (st'.map (rv G))) → W p l e R s m args below meth c H locs cells slots Q (F0 m pc rl (st.map (rv G)))) :
    HS (rW cl fo zs rs ns Ts G l cc nL own ret ini fr lo n0) pc pc' h := by
  apply HS.same
  intro k ls st w n k0 o e0
  obtain ⟨st', e1, hr⟩ := hh k ls st w n k0 o e0
  refine ⟨ls, st', e1, fun hV p e R s m args below meth c X r1 r2 r3 rl H locs hl hP hL => ?_⟩
  exact hr p e R s m args below meth c X rl H locs _ _ _ hl (hV p e R s m args below meth c X r1 r2 r3 rl H locs hl hP hL)
theorem s_iload_n {k : Fin 4} (i : Nat) (hi : (k : Nat) = i) (hd : decode cc pc = .ok (.iload_n k, 1)) : HS (rW cl fo zs rs ns Ts G l cc nL own ret ini fr lo n0) pc (pc + 1) (h_ld isI i) := by
  apply s_row
  intro k0 ls st w n kk o e0
  obtain ⟨v, h1, h2⟩ := rA_some ls e0
  obtain ⟨h3, h4⟩ := rB_yes h2
  obtain ⟨a, rfl⟩ := isI_e h3
  exact ⟨_, h4, fun p e R s m args below meth c X rl H locs cells slots Q hl hk => lv_iload_n X.1 X.2.1 hd hi (rLv_mem hl h1) hk⟩
theorem s_iload (i : Nat) (hd : decode cc pc = .ok (.iload i, 2)) : HS (rW cl fo zs rs ns Ts G l cc nL own ret ini fr lo n0) pc (pc + 2) (h_ld isI i) := by
  apply s_row
  intro k0 ls st w n kk o e0
  obtain ⟨v, h1, h2⟩ := rA_some ls e0
  obtain ⟨h3, h4⟩ := rB_yes h2
  obtain ⟨a, rfl⟩ := isI_e h3
  exact ⟨_, h4, fun p e R s m args below meth c X rl H locs cells slots Q hl hk => lv_iload X.1 X.2.1 hd (rLv_mem hl h1) hk⟩
theorem s_lload_n {k : Fin 4} (i : Nat) (hi : (k : Nat) = i) (hd : decode cc pc = .ok (.lload_n k, 1)) : HS (rW cl fo zs rs ns Ts G l cc nL own ret ini fr lo n0) pc (pc + 1) (h_ld isJ i) := by
  apply s_row
  intro k0 ls st w n kk o e0
  obtain ⟨v, h1, h2⟩ := rA_some ls e0
  obtain ⟨h3, h4⟩ := rB_yes h2
  obtain ⟨a, rfl⟩ := isJ_e h3
  exact ⟨_, h4, fun p e R s m args below meth c X rl H locs cells slots Q hl hk => lv_lload_n X.1 X.2.1 hd hi (rLv_mem hl h1) hk⟩
theorem s_lload (i : Nat) (hd : decode cc pc = .ok (.lload i, 2)) : HS (rW cl fo zs rs ns Ts G l cc nL own ret ini fr lo n0) pc (pc + 2) (h_ld isJ i) := by
  apply s_row
  intro k0 ls st w n kk o e0
  obtain ⟨v, h1, h2⟩ := rA_some ls e0
  obtain ⟨h3, h4⟩ := rB_yes h2
  obtain ⟨a, rfl⟩ := isJ_e h3
  exact ⟨_, h4, fun p e R s m args below meth c X rl H locs cells slots Q hl hk => lv_lload X.1 X.2.1 hd (rLv_mem hl h1) hk⟩
theorem s_aload_n {k : Fin 4} (i : Nat) (hi : (k : Nat) = i) (hd : decode cc pc = .ok (.aload_n k, 1)) : HS (rW cl fo zs rs ns Ts G l cc nL own ret ini fr lo n0) pc (pc + 1) (h_ld isR i) := by
  apply s_row
  intro k0 ls st w n kk o e0
  obtain ⟨v, h1, h2⟩ := rA_some ls e0
  obtain ⟨h3, h4⟩ := rB_yes h2
  obtain ⟨a, rfl⟩ := isR_e h3
  refine ⟨_, h4, fun p e R s m args below meth c X rl H locs cells slots Q hl hk => ?_⟩
  have hm := rLv_mem hl h1
  rw [List.map_cons] at hk
  rcases rv_r G X.2.2.2.2.2.1.2.2.1 a with q | ⟨x, q⟩
  · rw [q] at hm hk
    exact lv_aload_nN X.1 X.2.1 hd hi hm hk
  · rw [q] at hm hk
    exact lv_aload_n X.1 X.2.1 hd hi hm hk
theorem s_aload (i : Nat) (hd : decode cc pc = .ok (.aload i, 2)) : HS (rW cl fo zs rs ns Ts G l cc nL own ret ini fr lo n0) pc (pc + 2) (h_ld isR i) := by
  apply s_row
  intro k0 ls st w n kk o e0
  obtain ⟨v, h1, h2⟩ := rA_some ls e0
  obtain ⟨h3, h4⟩ := rB_yes h2
  obtain ⟨a, rfl⟩ := isR_e h3
  refine ⟨_, h4, fun p e R s m args below meth c X rl H locs cells slots Q hl hk => ?_⟩
  have hm := rLv_mem hl h1
  rw [List.map_cons] at hk
  rcases rv_r G X.2.2.2.2.2.1.2.2.1 a with q | ⟨x, q⟩
  · rw [q] at hm hk
    exact lv_aloadN X.1 X.2.1 hd hm hk
  · rw [q] at hm hk
    exact lv_aload X.1 X.2.1 hd hm hk
theorem s_istore_n {k : Fin 4} (i : Nat) (hi : (k : Nat) = i) (hi2 : i < nL) (hd : decode cc pc = .ok (.istore_n k, 1)) : HS (rW cl fo zs rs ns Ts G l cc nL own ret ini fr lo n0) pc (pc + 1) (h_st isI i) := by
  apply HS.same
  intro k0 ls st w n kk o e0
  obtain ⟨v, st', rfl, h2⟩ := rP_some e0
  obtain ⟨h3, h4⟩ := rB_yes h2
  obtain ⟨a, rfl⟩ := isI_e h3
  rw [rF_eq] at h4
  refine ⟨_, _, h4, fun hV p e R s m args below meth c X r1 r2 r3 rl H locs hl hP hL => ?_⟩
  refine lv_istore_n X.1 X.2.1 hd hi hl hi2 rfl (fun ls' hl' => ?_)
  refine hV p e R s m args below meth c X r1 r2 r3 ls' H locs ?_ hP hL
  rw [List.map_cons, rKeep1_eq G X.2.2.2.2.2.1.2.2.1]
  exact hl'
theorem s_istore (i : Nat) (hi2 : i < nL) (hd : decode cc pc = .ok (.istore i, 2)) : HS (rW cl fo zs rs ns Ts G l cc nL own ret ini fr lo n0) pc (pc + 2) (h_st isI i) := by
  apply HS.same
  intro k0 ls st w n kk o e0
  obtain ⟨v, st', rfl, h2⟩ := rP_some e0
  obtain ⟨h3, h4⟩ := rB_yes h2
  obtain ⟨a, rfl⟩ := isI_e h3
  rw [rF_eq] at h4
  refine ⟨_, _, h4, fun hV p e R s m args below meth c X r1 r2 r3 rl H locs hl hP hL => ?_⟩
  refine lv_istore X.1 X.2.1 hd hl hi2 rfl (fun ls' hl' => ?_)
  refine hV p e R s m args below meth c X r1 r2 r3 ls' H locs ?_ hP hL
  rw [List.map_cons, rKeep1_eq G X.2.2.2.2.2.1.2.2.1]
  exact hl'
theorem s_astore_n {k : Fin 4} (i : Nat) (hi : (k : Nat) = i) (hi2 : i < nL) (hd : decode cc pc = .ok (.astore_n k, 1)) : HS (rW cl fo zs rs ns Ts G l cc nL own ret ini fr lo n0) pc (pc + 1) (h_st isR i) := by
  apply HS.same
  intro k0 ls st w n kk o e0
  obtain ⟨v, st', rfl, h2⟩ := rP_some e0
  obtain ⟨h3, h4⟩ := rB_yes h2
  obtain ⟨a, rfl⟩ := isR_e h3
  rw [rF_eq] at h4
  refine ⟨_, _, h4, fun hV p e R s m args below meth c X r1 r2 r3 rl H locs hl hP hL => ?_⟩
  have key : ∀ rl', lv_has rl' nL ((i, rv G (.inr (.inr a))) :: (ls.map (rLv G)).filter (fun q => !(q.1 == i) && !(q.1 + 1 == i && q.2.category == 2))) → W p l e R s m args below meth c H locs (n - n0) kk (MQ below (rQ cl fo zs rs ns G o) args s (o.2.2.1 - n0) o.2.2.2 (fun q => G.2.2.1 ≤ q)) (F0 m (pc + 1) rl' (st'.map (rv G))) := fun rl' hl' => by
    refine hV p e R s m args below meth c X r1 r2 r3 rl' H locs ?_ hP hL
    rw [List.map_cons, rKeep1_eq G X.2.2.2.2.2.1.2.2.1]
    exact hl'
  rw [List.map_cons]
  rcases rv_r G X.2.2.2.2.2.1.2.2.1 a with q | ⟨x, q⟩
  · rw [q] at key ⊢
    exact lv_astore_nN X.1 X.2.1 hd hi hl hi2 rfl key
  · rw [q] at key ⊢
    exact lv_astore_n X.1 X.2.1 hd hi hl hi2 rfl key
theorem s_astore (i : Nat) (hi2 : i < nL) (hd : decode cc pc = .ok (.astore i, 2)) : HS (rW cl fo zs rs ns Ts G l cc nL own ret ini fr lo n0) pc (pc + 2) (h_st isR i) := by
  apply HS.same
  intro k0 ls st w n kk o e0
  obtain ⟨v, st', rfl, h2⟩ := rP_some e0
  obtain ⟨h3, h4⟩ := rB_yes h2
  obtain ⟨a, rfl⟩ := isR_e h3
  rw [rF_eq] at h4
  refine ⟨_, _, h4, fun hV p e R s m args below meth c X r1 r2 r3 rl H locs hl hP hL => ?_⟩
  have key : ∀ rl', lv_has rl' nL ((i, rv G (.inr (.inr a))) :: (ls.map (rLv G)).filter (fun q => !(q.1 == i) && !(q.1 + 1 == i && q.2.category == 2))) → W p l e R s m args below meth c H locs (n - n0) kk (MQ below (rQ cl fo zs rs ns G o) args s (o.2.2.1 - n0) o.2.2.2 (fun q => G.2.2.1 ≤ q)) (F0 m (pc + 2) rl' (st'.map (rv G))) := fun rl' hl' => by
    refine hV p e R s m args below meth c X r1 r2 r3 rl' H locs ?_ hP hL
    rw [List.map_cons, rKeep1_eq G X.2.2.2.2.2.1.2.2.1]
    exact hl'
  rw [List.map_cons]
  rcases rv_r G X.2.2.2.2.2.1.2.2.1 a with q | ⟨x, q⟩
  · rw [q] at key ⊢
    exact lv_astoreN X.1 X.2.1 hd hl hi2 rfl key
  · rw [q] at key ⊢
    exact lv_astore X.1 X.2.1 hd hl hi2 rfl key
theorem s_lstore_n {k : Fin 4} (i : Nat) (hi : (k : Nat) = i) (hi2 : i + 1 < nL) (hd : decode cc pc = .ok (.lstore_n k, 1)) : HS (rW cl fo zs rs ns Ts G l cc nL own ret ini fr lo n0) pc (pc + 1) (h_st2 i) := by
  apply HS.same
  intro k0 ls st w n kk o e0
  obtain ⟨v, st', rfl, h2⟩ := rP_some e0
  obtain ⟨h3, h4⟩ := rB_yes h2
  obtain ⟨a, rfl⟩ := isJ_e h3
  rw [rF_eq] at h4
  refine ⟨_, _, h4, fun hV p e R s m args below meth c X r1 r2 r3 rl H locs hl hP hL => ?_⟩
  refine lv_lstore_n X.1 X.2.1 hd hi hl hi2 rfl (fun ls' hl' => ?_)
  refine hV p e R s m args below meth c X r1 r2 r3 ls' H locs ?_ hP hL
  rw [List.map_cons, rKeep2_eq G X.2.2.2.2.2.1.2.2.1]
  exact hl'
theorem s_lstore (i : Nat) (hi2 : i + 1 < nL) (hd : decode cc pc = .ok (.lstore i, 2)) : HS (rW cl fo zs rs ns Ts G l cc nL own ret ini fr lo n0) pc (pc + 2) (h_st2 i) := by
  apply HS.same
  intro k0 ls st w n kk o e0
  obtain ⟨v, st', rfl, h2⟩ := rP_some e0
  obtain ⟨h3, h4⟩ := rB_yes h2
  obtain ⟨a, rfl⟩ := isJ_e h3
  rw [rF_eq] at h4
  refine ⟨_, _, h4, fun hV p e R s m args below meth c X r1 r2 r3 rl H locs hl hP hL => ?_⟩
  refine lv_lstore X.1 X.2.1 hd hl hi2 rfl (fun ls' hl' => ?_)
  refine hV p e R s m args below meth c X r1 r2 r3 ls' H locs ?_ hP hL
  rw [List.map_cons, rKeep2_eq G X.2.2.2.2.2.1.2.2.1]
  exact hl'
theorem s_iinc (i d : Nat) (z : Int) (hz : Int32.ofInt z = nI d) (hi2 : i < nL) (hd : decode cc pc = .ok (.iinc i z, 3)) : HS (rW cl fo zs rs ns Ts G l cc nL own ret ini fr lo n0) pc (pc + 3) (h_inc i d) := by
  apply HS.same
  intro k0 ls st w n kk o e0
  obtain ⟨v, h1, h2⟩ := rA_some ls e0
  obtain ⟨a, rfl, h3⟩ := rI_some h2
  rw [rN_eq, rF_eq] at h3
  refine ⟨_, _, h3, fun hV p e R s m args below meth c X r1 r2 r3 rl H locs hl hP hL => ?_⟩
  have hm : (i, rv G (.inl a)) ∈ ls.map (rLv G) := List.mem_map.mpr ⟨_, h1, rfl⟩
  obtain ⟨q, hq⟩ := List.getElem?_of_mem hm
  refine lv_iinc (k := q) X.1 X.2.1 hd hl hq (v := nI (rAdd a d)) (by rw [hz]; exact n_add a d) hi2 rfl (fun ls' hl' => ?_)
  refine hV p e R s m args below meth c X r1 r2 r3 ls' H locs ?_ hP hL
  rw [List.map_cons, rKeep1_eq G X.2.2.2.2.2.1.2.2.1]
  exact hl'
theorem s_iconst (a : Nat) {z : Int} (hz : Int32.ofInt z = nI a) (hd : decode cc pc = .ok (.iconst z, 1)) : HS (rW cl fo zs rs ns Ts G l cc nL own ret ini fr lo n0) pc (pc + 1) (h_v (.inl a)) := by
  apply s_row
  intro k0 ls st w n kk o e0
  exact ⟨_, e0, fun p e R s m args below meth c X rl H locs cells slots Q hl hk => lv_iconst X.1 X.2.1 hd hz hk⟩
theorem s_bipush (a : Nat) {z : Int} (hz : (Int8.ofInt z).toInt32 = nI a) (hd : decode cc pc = .ok (.bipush z, 2)) : HS (rW cl fo zs rs ns Ts G l cc nL own ret ini fr lo n0) pc (pc + 2) (h_v (.inl a)) := by
  apply s_row
  intro k0 ls st w n kk o e0
  exact ⟨_, e0, fun p e R s m args below meth c X rl H locs cells slots Q hl hk => lv_bipush X.1 X.2.1 hd hz hk⟩
theorem s_sipush (a : Nat) {z : Int} (hz : (Int16.ofInt z).toInt32 = nI a) (hd : decode cc pc = .ok (.sipush z, 3)) : HS (rW cl fo zs rs ns Ts G l cc nL own ret ini fr lo n0) pc (pc + 3) (h_v (.inl a)) := by
  apply s_row
  intro k0 ls st w n kk o e0
  exact ⟨_, e0, fun p e R s m args below meth c X rl H locs cells slots Q hl hk => lv_sipush X.1 X.2.1 hd hz hk⟩
theorem s_ldc (a : Nat) {ix : Nat} (hw : Cond.constant own ix (nI a) ∈ Ts) (hd : decode cc pc = .ok (.ldc ix, 2)) : HS (rW cl fo zs rs ns Ts G l cc nL own ret ini fr lo n0) pc (pc + 2) (h_v (.inl a)) := by
  apply s_row
  intro k0 ls st w n kk o e0
  exact ⟨_, e0, fun p e R s m args below meth c X rl H locs cells slots Q hl hk => lv_ldc X.1 X.2.1 X.2.2.2.1 (X.2.2.2.2.1 _ hw) hd hk⟩
theorem s_ldcw (a : Nat) {ix : Nat} (hw : Cond.constant own ix (nI a) ∈ Ts) (hd : decode cc pc = .ok (.ldc_w ix, 3)) : HS (rW cl fo zs rs ns Ts G l cc nL own ret ini fr lo n0) pc (pc + 3) (h_v (.inl a)) := by
  apply s_row
  intro k0 ls st w n kk o e0
  exact ⟨_, e0, fun p e R s m args below meth c X rl H locs cells slots Q hl hk => lv_ldcw X.1 X.2.1 X.2.2.2.1 (X.2.2.2.2.1 _ hw) hd hk⟩
theorem s_ldc2 (a : Nat) {ix : Nat} (hw : Cond.constantLong own ix (lN a) ∈ Ts) (hd : decode cc pc = .ok (.ldc2_w ix, 3)) : HS (rW cl fo zs rs ns Ts G l cc nL own ret ini fr lo n0) pc (pc + 3) (h_v (.inr (.inl a))) := by
  apply s_row
  intro k0 ls st w n kk o e0
  exact ⟨_, e0, fun p e R s m args below meth c X rl H locs cells slots Q hl hk => lv_ldc2 X.1 X.2.1 X.2.2.2.1 (X.2.2.2.2.1 _ hw) hd hk⟩
theorem s_lconst (a : Nat) {z : Fin 2} (hz : Int64.ofNat (z : Nat) = lN a) (hd : decode cc pc = .ok (.lconst z, 1)) : HS (rW cl fo zs rs ns Ts G l cc nL own ret ini fr lo n0) pc (pc + 1) (h_v (.inr (.inl a))) := by
  apply s_row
  intro k0 ls st w n kk o e0
  exact ⟨_, e0, fun p e R s m args below meth c X rl H locs cells slots Q hl hk => lv_lconst X.1 X.2.1 hd hz hk⟩
theorem s_null  (hd : decode cc pc = .ok (.aconst_null, 1)) : HS (rW cl fo zs rs ns Ts G l cc nL own ret ini fr lo n0) pc (pc + 1) (h_v (.inr (.inr 0))) := by
  apply s_row
  intro k0 ls st w n kk o e0
  exact ⟨_, e0, fun p e R s m args below meth c X rl H locs cells slots Q hl hk => lv_null X.1 X.2.1 hd hk⟩
theorem s_ldcS (i : Nat) {ix : Nat} {tx : String} (hw : (own, ix, tx, i) ∈ rs) (hd : decode cc pc = .ok (.ldc ix, 2)) : HS (rW cl fo zs rs ns Ts G l cc nL own ret ini fr lo n0) pc (pc + 2) (h_v (.inr (.inr (2 * i + 2)))) := by
  apply s_row
  intro k0 ls st w n kk o e0
  refine ⟨_, e0, fun p e R s m args below meth c X rl H locs cells slots Q hl hk => ?_⟩
  obtain ⟨a, h1, h2⟩ := X.2.2.2.2.2.1.2.2.2.2.1 _ hw
  rw [List.map_cons, rv_ext G (by omega) (by omega), show (2 * i + 2) / 2 - 1 = i by omega, h1] at hk
  exact va_ldcS X.1 X.2.1 X.2.2.2.1 h2 hd hk
theorem s_dup (hd : decode cc pc = .ok (.dup, 1)) : HS (rW cl fo zs rs ns Ts G l cc nL own ret ini fr lo n0) pc (pc + 1) h_dup := by
  apply s_row
  intro k0 ls st w n kk o e0
  obtain ⟨v, st', rfl, h2⟩ := rP_some e0
  obtain ⟨h3, h4⟩ := rB_no h2
  exact ⟨_, h4, fun p e R s m args below meth c X rl H locs cells slots Q hl hk => lv_dup X.1 X.2.1 hd (rv_cat1 G X.2.2.2.2.2.1.2.2.1 h3) hk⟩
theorem s_pop (hd : decode cc pc = .ok (.pop, 1)) : HS (rW cl fo zs rs ns Ts G l cc nL own ret ini fr lo n0) pc (pc + 1) h_pop := by
  apply s_row
  intro k0 ls st w n kk o e0
  obtain ⟨v, st', rfl, h2⟩ := rP_some e0
  obtain ⟨h3, h4⟩ := rB_no h2
  exact ⟨_, h4, fun p e R s m args below meth c X rl H locs cells slots Q hl hk => lv_pop X.1 X.2.1 hd (rv_cat1 G X.2.2.2.2.2.1.2.2.1 h3) hk⟩
theorem s_dupx1 (hd : decode cc pc = .ok (.dup_x1, 1)) : HS (rW cl fo zs rs ns Ts G l cc nL own ret ini fr lo n0) pc (pc + 1) h_dupx1 := by
  apply s_row
  intro k0 ls st w n kk o e0
  obtain ⟨v, st', rfl, h2⟩ := rP_some e0
  obtain ⟨v2, st2, rfl, h21⟩ := rP_some h2
  obtain ⟨h3, h4⟩ := rB_no h21
  obtain ⟨h5, h6⟩ := rB_no h4
  exact ⟨_, h6, fun p e R s m args below meth c X rl H locs cells slots Q hl hk => lv_dup_x1 X.1 X.2.1 hd (rv_cat1 G X.2.2.2.2.2.1.2.2.1 h3) (rv_cat1 G X.2.2.2.2.2.1.2.2.1 h5) hk⟩
theorem s_iadd (hd : decode cc pc = .ok (.iadd, 1)) : HS (rW cl fo zs rs ns Ts G l cc nL own ret ini fr lo n0) pc (pc + 1) (h_bin (fun _ _ => true) rAdd) := by
  apply s_row
  intro k0 ls st w n kk o e0
  obtain ⟨y, st', rfl, h2⟩ := rP_some e0
  obtain ⟨x, st2, rfl, h3⟩ := rP_some h2
  obtain ⟨b, rfl, h31⟩ := rI_some h3
  obtain ⟨a, rfl, h4⟩ := rI_some h31
  obtain ⟨h5, h6⟩ := rB_yes h4
  rw [rN_eq] at h6
  refine ⟨_, h6, fun p e R s m args below meth c X rl H locs cells slots Q hl hk => lv_iadd X.1 X.2.1 hd ?_⟩
  rw [show nI a + nI b = nI (rAdd a b) from n_add a b]
  exact hk
theorem s_isub (hd : decode cc pc = .ok (.isub, 1)) : HS (rW cl fo zs rs ns Ts G l cc nL own ret ini fr lo n0) pc (pc + 1) (h_bin (fun _ _ => true) rSub) := by
  apply s_row
  intro k0 ls st w n kk o e0
  obtain ⟨y, st', rfl, h2⟩ := rP_some e0
  obtain ⟨x, st2, rfl, h3⟩ := rP_some h2
  obtain ⟨b, rfl, h31⟩ := rI_some h3
  obtain ⟨a, rfl, h4⟩ := rI_some h31
  obtain ⟨h5, h6⟩ := rB_yes h4
  rw [rN_eq] at h6
  refine ⟨_, h6, fun p e R s m args below meth c X rl H locs cells slots Q hl hk => lv_isub X.1 X.2.1 hd ?_⟩
  rw [show nI a - nI b = nI (rSub a b) from n_sub a b]
  exact hk
theorem s_imul (hd : decode cc pc = .ok (.imul, 1)) : HS (rW cl fo zs rs ns Ts G l cc nL own ret ini fr lo n0) pc (pc + 1) (h_bin (fun _ _ => true) rMul) := by
  apply s_row
  intro k0 ls st w n kk o e0
  obtain ⟨y, st', rfl, h2⟩ := rP_some e0
  obtain ⟨x, st2, rfl, h3⟩ := rP_some h2
  obtain ⟨b, rfl, h31⟩ := rI_some h3
  obtain ⟨a, rfl, h4⟩ := rI_some h31
  obtain ⟨h5, h6⟩ := rB_yes h4
  rw [rN_eq] at h6
  refine ⟨_, h6, fun p e R s m args below meth c X rl H locs cells slots Q hl hk => lv_imul X.1 X.2.1 hd ?_⟩
  rw [show nI a * nI b = nI (rMul a b) from n_mul a b]
  exact hk
theorem s_iand (hd : decode cc pc = .ok (.iand, 1)) : HS (rW cl fo zs rs ns Ts G l cc nL own ret ini fr lo n0) pc (pc + 1) (h_bin (fun _ _ => true) Nat.land) := by
  apply s_row
  intro k0 ls st w n kk o e0
  obtain ⟨y, st', rfl, h2⟩ := rP_some e0
  obtain ⟨x, st2, rfl, h3⟩ := rP_some h2
  obtain ⟨b, rfl, h31⟩ := rI_some h3
  obtain ⟨a, rfl, h4⟩ := rI_some h31
  obtain ⟨h5, h6⟩ := rB_yes h4
  rw [rN_eq] at h6
  refine ⟨_, h6, fun p e R s m args below meth c X rl H locs cells slots Q hl hk => lv_iand X.1 X.2.1 hd ?_⟩
  rw [show nI a &&& nI b = nI (Nat.land a b) from n_land a b]
  exact hk
theorem s_ior (hd : decode cc pc = .ok (.ior, 1)) : HS (rW cl fo zs rs ns Ts G l cc nL own ret ini fr lo n0) pc (pc + 1) (h_bin (fun _ _ => true) Nat.lor) := by
  apply s_row
  intro k0 ls st w n kk o e0
  obtain ⟨y, st', rfl, h2⟩ := rP_some e0
  obtain ⟨x, st2, rfl, h3⟩ := rP_some h2
  obtain ⟨b, rfl, h31⟩ := rI_some h3
  obtain ⟨a, rfl, h4⟩ := rI_some h31
  obtain ⟨h5, h6⟩ := rB_yes h4
  rw [rN_eq] at h6
  refine ⟨_, h6, fun p e R s m args below meth c X rl H locs cells slots Q hl hk => lv_ior X.1 X.2.1 hd ?_⟩
  rw [show nI a ||| nI b = nI (Nat.lor a b) from n_lor a b]
  exact hk
theorem s_ishl (hd : decode cc pc = .ok (.ishl, 1)) : HS (rW cl fo zs rs ns Ts G l cc nL own ret ini fr lo n0) pc (pc + 1) (h_bin okSh rShl) := by
  apply s_row
  intro k0 ls st w n kk o e0
  obtain ⟨y, st', rfl, h2⟩ := rP_some e0
  obtain ⟨x, st2, rfl, h3⟩ := rP_some h2
  obtain ⟨b, rfl, h31⟩ := rI_some h3
  obtain ⟨a, rfl, h4⟩ := rI_some h31
  obtain ⟨h5, h6⟩ := rB_yes h4
  rw [rN_eq] at h6
  refine ⟨_, h6, fun p e R s m args below meth c X rl H locs cells slots Q hl hk => lv_ishl X.1 X.2.1 hd ?_⟩
  rw [show nI a <<< (nI b &&& 31) = nI (rShl a b) from n_shl (Nat.blt_eq.mp h5)]
  exact hk
theorem s_ishr (hd : decode cc pc = .ok (.ishr, 1)) : HS (rW cl fo zs rs ns Ts G l cc nL own ret ini fr lo n0) pc (pc + 1) (h_bin okShr rShr) := by
  apply s_row
  intro k0 ls st w n kk o e0
  obtain ⟨y, st', rfl, h2⟩ := rP_some e0
  obtain ⟨x, st2, rfl, h3⟩ := rP_some h2
  obtain ⟨b, rfl, h31⟩ := rI_some h3
  obtain ⟨a, rfl, h4⟩ := rI_some h31
  obtain ⟨h5, h6⟩ := rB_yes h4
  rw [rN_eq] at h6
  refine ⟨_, h6, fun p e R s m args below meth c X rl H locs cells slots Q hl hk => lv_ishr X.1 X.2.1 hd ?_⟩
  rw [show nI a >>> (nI b &&& 31) = nI (rShr a b) from n_shr (Nat.blt_eq.mp (rB_and h5).1) (Nat.blt_eq.mp (rB_and h5).2)]
  exact hk
theorem s_idiv (hd : decode cc pc = .ok (.idiv, 1)) : HS (rW cl fo zs rs ns Ts G l cc nL own ret ini fr lo n0) pc (pc + 1) (h_bin rDok Nat.div) := by
  apply s_row
  intro k0 ls st w n kk o e0
  obtain ⟨y, st', rfl, h2⟩ := rP_some e0
  obtain ⟨x, st2, rfl, h3⟩ := rP_some h2
  obtain ⟨b, rfl, h31⟩ := rI_some h3
  obtain ⟨a, rfl, h4⟩ := rI_some h31
  obtain ⟨h5, h6⟩ := rB_yes h4
  rw [rN_eq] at h6
  obtain ⟨q0, q1, q2⟩ := rDok_e h5
  refine ⟨_, h6, fun p e R s m args below meth c X rl H locs cells slots Q hl hk => lv_idiv X.1 X.2.1 hd (fun q => ?_) ?_⟩
  · have := (nI_eq (b := 0) q2 (by decide)).mp q
    omega
  · rw [show nI a / nI b = nI (Nat.div a b) from pk_div q1 q0 q2]
    exact hk
theorem s_irem (hd : decode cc pc = .ok (.irem, 1)) : HS (rW cl fo zs rs ns Ts G l cc nL own ret ini fr lo n0) pc (pc + 1) (h_bin rDok Nat.mod) := by
  apply s_row
  intro k0 ls st w n kk o e0
  obtain ⟨y, st', rfl, h2⟩ := rP_some e0
  obtain ⟨x, st2, rfl, h3⟩ := rP_some h2
  obtain ⟨b, rfl, h31⟩ := rI_some h3
  obtain ⟨a, rfl, h4⟩ := rI_some h31
  obtain ⟨h5, h6⟩ := rB_yes h4
  rw [rN_eq] at h6
  obtain ⟨q0, q1, q2⟩ := rDok_e h5
  refine ⟨_, h6, fun p e R s m args below meth c X rl H locs cells slots Q hl hk => lv_irem X.1 X.2.1 hd (fun q => ?_) ?_⟩
  · have := (nI_eq (b := 0) q2 (by decide)).mp q
    omega
  · rw [show nI a - nI a / nI b * nI b = nI (Nat.mod a b) from pk_rem q1 q0 q2]
    exact hk
theorem s_ineg (hd : decode cc pc = .ok (.ineg, 1)) : HS (rW cl fo zs rs ns Ts G l cc nL own ret ini fr lo n0) pc (pc + 1) (h_un (fun _ => true) rNeg) := by
  apply s_row
  intro k0 ls st w n kk o e0
  obtain ⟨x, st', rfl, h2⟩ := rP_some e0
  obtain ⟨a, rfl, h4⟩ := rI_some h2
  obtain ⟨h5, h6⟩ := rB_yes h4
  rw [rN_eq] at h6
  exact ⟨_, h6, fun p e R s m args below meth c X rl H locs cells slots Q hl hk => lv_ineg X.1 X.2.1 hd (by rw [n_neg]; exact hk)⟩
theorem s_i2b (hd : decode cc pc = .ok (.i2b, 1)) : HS (rW cl fo zs rs ns Ts G l cc nL own ret ini fr lo n0) pc (pc + 1) (h_un (fun a => Nat.ble a 127) (fun a => a)) := by
  apply s_row
  intro k0 ls st w n kk o e0
  obtain ⟨x, st', rfl, h2⟩ := rP_some e0
  obtain ⟨a, rfl, h4⟩ := rI_some h2
  obtain ⟨h5, h6⟩ := rB_yes h4
  rw [rN_eq] at h6
  exact ⟨_, h6, fun p e R s m args below meth c X rl H locs cells slots Q hl hk => lv_i2b X.1 X.2.1 hd (n_i2b a (by have := Nat.ble_eq.mp h5; omega)) hk⟩
theorem s_i2c (hd : decode cc pc = .ok (.i2c, 1)) : HS (rW cl fo zs rs ns Ts G l cc nL own ret ini fr lo n0) pc (pc + 1) (h_un (fun a => Nat.ble a 65535) (fun a => a)) := by
  apply s_row
  intro k0 ls st w n kk o e0
  obtain ⟨x, st', rfl, h2⟩ := rP_some e0
  obtain ⟨a, rfl, h4⟩ := rI_some h2
  obtain ⟨h5, h6⟩ := rB_yes h4
  rw [rN_eq] at h6
  exact ⟨_, h6, fun p e R s m args below meth c X rl H locs cells slots Q hl hk => lv_i2c X.1 X.2.1 hd (n_i2c (Nat.ble_eq.mp h5)) hk⟩
theorem s_i2l (hd : decode cc pc = .ok (.i2l, 1)) : HS (rW cl fo zs rs ns Ts G l cc nL own ret ini fr lo n0) pc (pc + 1) h_i2l := by
  apply s_row
  intro k0 ls st w n kk o e0
  obtain ⟨x, st', rfl, h2⟩ := rP_some e0
  obtain ⟨a, rfl, h4⟩ := rI_some h2
  obtain ⟨h5, h6⟩ := rB_no h4
  have ha : a < 2 ^ 31 := by
    rcases Nat.lt_or_ge a (2 ^ 31) with q | q
    · exact q
    · rw [Nat.ble_eq.mpr q] at h5; cases h5
  exact ⟨_, h6, fun p e R s m args below meth c X rl H locs cells slots Q hl hk => lv_i2l X.1 X.2.1 hd (nI_l ha) hk⟩
theorem s_lor (hd : decode cc pc = .ok (.lor, 1)) : HS (rW cl fo zs rs ns Ts G l cc nL own ret ini fr lo n0) pc (pc + 1) (h_lbin Nat.lor) := by
  apply s_row
  intro k0 ls st w n kk o e0
  obtain ⟨y, st', rfl, h2⟩ := rP_some e0
  obtain ⟨x, st2, rfl, h3⟩ := rP_some h2
  obtain ⟨b, rfl, h31⟩ := rJ_some h3
  obtain ⟨a, rfl, h4⟩ := rJ_some h31
  rw [rN_eq] at h4
  refine ⟨_, h4, fun p e R s m args below meth c X rl H locs cells slots Q hl hk => lv_lor X.1 X.2.1 hd ?_⟩
  rw [n_lorL]
  exact hk
theorem s_lshl (hd : decode cc pc = .ok (.lshl, 1)) : HS (rW cl fo zs rs ns Ts G l cc nL own ret ini fr lo n0) pc (pc + 1) (h_lsh rShlL) := by
  apply s_row
  intro k0 ls st w n kk o e0
  obtain ⟨y, st', rfl, h2⟩ := rP_some e0
  obtain ⟨x, st2, rfl, h3⟩ := rP_some h2
  obtain ⟨b, rfl, h31⟩ := rI_some h3
  obtain ⟨a, rfl, h4⟩ := rJ_some h31
  obtain ⟨h5, h6⟩ := rB_yes h4
  rw [rN_eq] at h6
  exact ⟨_, h6, fun p e R s m args below meth c X rl H locs cells slots Q hl hk => lv_lshl X.1 X.2.1 hd (n_shlL (Nat.blt_eq.mp h5)) hk⟩
theorem s_goto {pcs : List Nat} {b tgt : Nat} {off : Int} (hb : pcs[b]? = some tgt) (ht : (pc : Int) + off = (tgt : Int)) (hd : decode cc pc = .ok (.goto off, 3)) : BS (rW cl fo zs rs ns Ts G l cc nL own ret ini fr lo n0) pcs pc (t_go b) :=
  BS.via (BS.go hb) fun o ls st w n k hV p e R s m args below meth c X r1 r2 r3 rl H locs hl hP hL => lv_goto X.1 X.2.1 hd ht (hV p e R s m args below meth c X r1 r2 r3 rl H locs hl hP hL)
theorem s_icmp_eq {pcs : List Nat} {b1 b2 tgt : Nat} {off : Int} (hb1 : pcs[b1]? = some tgt) (hb2 : pcs[b2]? = some (pc + 3)) (ht : (pc : Int) + off = (tgt : Int)) (hd : decode cc pc = .ok (.if_icmp .eq off, 3)) : BS (rW cl fo zs rs ns Ts G l cc nL own ret ini fr lo n0) pcs pc (t_icmp rEq b1 b2) := by
  intro J hJ ls st w n k o e0
  obtain ⟨y, st', rfl, h2⟩ := rP_some e0
  obtain ⟨x, st2, rfl, h3⟩ := rP_some h2
  obtain ⟨b, rfl, h31⟩ := rI_some h3
  obtain ⟨a, rfl, h4⟩ := rI_some h31
  have h4 : rB (rEq a b) (J b1 ls st2 w n k) (J b2 ls st2 w n k) = some o := h4
  rcases rB_some h4 with ⟨h5, h6⟩ | ⟨h5, h6⟩
  · obtain ⟨q1, hV⟩ := hJ b1 _ hb1 _ _ _ _ _ _ h6
    exact ⟨q1, fun p e R s m args below meth c X r1 r2 r3 rl H locs hl hP hL => lv_icmp_eq X.1 X.2.1 hd ht (fun _ => hV p e R s m args below meth c X r1 r2 r3 rl H locs hl hP hL) (fun z => absurd ((n_eq a b).mpr h5) z)⟩
  · obtain ⟨q1, hV⟩ := hJ b2 _ hb2 _ _ _ _ _ _ h6
    exact ⟨q1, fun p e R s m args below meth c X r1 r2 r3 rl H locs hl hP hL => lv_icmp_eq X.1 X.2.1 hd ht (fun z => by rw [(n_eq a b).mp z] at h5; cases h5) (fun _ => hV p e R s m args below meth c X r1 r2 r3 rl H locs hl hP hL)⟩
theorem s_if_eq {pcs : List Nat} {b1 b2 tgt : Nat} {off : Int} (hb1 : pcs[b1]? = some tgt) (hb2 : pcs[b2]? = some (pc + 3)) (ht : (pc : Int) + off = (tgt : Int)) (hd : decode cc pc = .ok (.ifCond .eq off, 3)) : BS (rW cl fo zs rs ns Ts G l cc nL own ret ini fr lo n0) pcs pc (t_if (fun a => rEq a 0) b1 b2) := by
  intro J hJ ls st w n k o e0
  obtain ⟨x, st2, rfl, h3⟩ := rP_some e0
  obtain ⟨a, rfl, h4⟩ := rI_some h3
  have h4 : rB (rEq a 0) (J b1 ls st2 w n k) (J b2 ls st2 w n k) = some o := h4
  rcases rB_some h4 with ⟨h5, h6⟩ | ⟨h5, h6⟩
  · obtain ⟨q1, hV⟩ := hJ b1 _ hb1 _ _ _ _ _ _ h6
    exact ⟨q1, fun p e R s m args below meth c X r1 r2 r3 rl H locs hl hP hL => lv_if_eq X.1 X.2.1 hd ht (fun _ => hV p e R s m args below meth c X r1 r2 r3 rl H locs hl hP hL) (fun z => absurd ((n_eq a 0).mpr h5) z)⟩
  · obtain ⟨q1, hV⟩ := hJ b2 _ hb2 _ _ _ _ _ _ h6
    exact ⟨q1, fun p e R s m args below meth c X r1 r2 r3 rl H locs hl hP hL => lv_if_eq X.1 X.2.1 hd ht (fun z => by rw [(n_eq a 0).mp z] at h5; cases h5) (fun _ => hV p e R s m args below meth c X r1 r2 r3 rl H locs hl hP hL)⟩
theorem s_icmp_ne {pcs : List Nat} {b1 b2 tgt : Nat} {off : Int} (hb1 : pcs[b1]? = some tgt) (hb2 : pcs[b2]? = some (pc + 3)) (ht : (pc : Int) + off = (tgt : Int)) (hd : decode cc pc = .ok (.if_icmp .ne off, 3)) : BS (rW cl fo zs rs ns Ts G l cc nL own ret ini fr lo n0) pcs pc (t_icmp (fun a b => rNot (rEq a b)) b1 b2) := by
  intro J hJ ls st w n k o e0
  obtain ⟨y, st', rfl, h2⟩ := rP_some e0
  obtain ⟨x, st2, rfl, h3⟩ := rP_some h2
  obtain ⟨b, rfl, h31⟩ := rI_some h3
  obtain ⟨a, rfl, h4⟩ := rI_some h31
  have h4 : rB (rNot (rEq a b)) (J b1 ls st2 w n k) (J b2 ls st2 w n k) = some o := h4
  rcases rB_some h4 with ⟨h5, h6⟩ | ⟨h5, h6⟩
  · obtain ⟨q1, hV⟩ := hJ b1 _ hb1 _ _ _ _ _ _ h6
    exact ⟨q1, fun p e R s m args below meth c X r1 r2 r3 rl H locs hl hP hL => lv_icmp_ne X.1 X.2.1 hd ht (fun _ => hV p e R s m args below meth c X r1 r2 r3 rl H locs hl hP hL) (fun z => absurd z ((n_ne a b).mpr h5))⟩
  · obtain ⟨q1, hV⟩ := hJ b2 _ hb2 _ _ _ _ _ _ h6
    exact ⟨q1, fun p e R s m args below meth c X r1 r2 r3 rl H locs hl hP hL => lv_icmp_ne X.1 X.2.1 hd ht (fun z => by rw [(n_ne a b).mp z] at h5; cases h5) (fun _ => hV p e R s m args below meth c X r1 r2 r3 rl H locs hl hP hL)⟩
theorem s_if_ne {pcs : List Nat} {b1 b2 tgt : Nat} {off : Int} (hb1 : pcs[b1]? = some tgt) (hb2 : pcs[b2]? = some (pc + 3)) (ht : (pc : Int) + off = (tgt : Int)) (hd : decode cc pc = .ok (.ifCond .ne off, 3)) : BS (rW cl fo zs rs ns Ts G l cc nL own ret ini fr lo n0) pcs pc (t_if (fun a => rNot (rEq a 0)) b1 b2) := by
  intro J hJ ls st w n k o e0
  obtain ⟨x, st2, rfl, h3⟩ := rP_some e0
  obtain ⟨a, rfl, h4⟩ := rI_some h3
  have h4 : rB (rNot (rEq a 0)) (J b1 ls st2 w n k) (J b2 ls st2 w n k) = some o := h4
  rcases rB_some h4 with ⟨h5, h6⟩ | ⟨h5, h6⟩
  · obtain ⟨q1, hV⟩ := hJ b1 _ hb1 _ _ _ _ _ _ h6
    exact ⟨q1, fun p e R s m args below meth c X r1 r2 r3 rl H locs hl hP hL => lv_if_ne X.1 X.2.1 hd ht (fun _ => hV p e R s m args below meth c X r1 r2 r3 rl H locs hl hP hL) (fun z => absurd z ((n_ne a 0).mpr h5))⟩
  · obtain ⟨q1, hV⟩ := hJ b2 _ hb2 _ _ _ _ _ _ h6
    exact ⟨q1, fun p e R s m args below meth c X r1 r2 r3 rl H locs hl hP hL => lv_if_ne X.1 X.2.1 hd ht (fun z => by rw [(n_ne a 0).mp z] at h5; cases h5) (fun _ => hV p e R s m args below meth c X r1 r2 r3 rl H locs hl hP hL)⟩
theorem s_icmp_lt {pcs : List Nat} {b1 b2 tgt : Nat} {off : Int} (hb1 : pcs[b1]? = some tgt) (hb2 : pcs[b2]? = some (pc + 3)) (ht : (pc : Int) + off = (tgt : Int)) (hd : decode cc pc = .ok (.if_icmp .lt off, 3)) : BS (rW cl fo zs rs ns Ts G l cc nL own ret ini fr lo n0) pcs pc (t_icmp rLt b1 b2) := by
  intro J hJ ls st w n k o e0
  obtain ⟨y, st', rfl, h2⟩ := rP_some e0
  obtain ⟨x, st2, rfl, h3⟩ := rP_some h2
  obtain ⟨b, rfl, h31⟩ := rI_some h3
  obtain ⟨a, rfl, h4⟩ := rI_some h31
  have h4 : rB (rLt a b) (J b1 ls st2 w n k) (J b2 ls st2 w n k) = some o := h4
  rcases rB_some h4 with ⟨h5, h6⟩ | ⟨h5, h6⟩
  · obtain ⟨q1, hV⟩ := hJ b1 _ hb1 _ _ _ _ _ _ h6
    exact ⟨q1, fun p e R s m args below meth c X r1 r2 r3 rl H locs hl hP hL => lv_icmp_lt X.1 X.2.1 hd ht (fun _ => hV p e R s m args below meth c X r1 r2 r3 rl H locs hl hP hL) (fun z => absurd ((n_lt a b).mpr h5) z)⟩
  · obtain ⟨q1, hV⟩ := hJ b2 _ hb2 _ _ _ _ _ _ h6
    exact ⟨q1, fun p e R s m args below meth c X r1 r2 r3 rl H locs hl hP hL => lv_icmp_lt X.1 X.2.1 hd ht (fun z => by rw [(n_lt a b).mp z] at h5; cases h5) (fun _ => hV p e R s m args below meth c X r1 r2 r3 rl H locs hl hP hL)⟩
theorem s_if_lt {pcs : List Nat} {b1 b2 tgt : Nat} {off : Int} (hb1 : pcs[b1]? = some tgt) (hb2 : pcs[b2]? = some (pc + 3)) (ht : (pc : Int) + off = (tgt : Int)) (hd : decode cc pc = .ok (.ifCond .lt off, 3)) : BS (rW cl fo zs rs ns Ts G l cc nL own ret ini fr lo n0) pcs pc (t_if (fun a => rLt a 0) b1 b2) := by
  intro J hJ ls st w n k o e0
  obtain ⟨x, st2, rfl, h3⟩ := rP_some e0
  obtain ⟨a, rfl, h4⟩ := rI_some h3
  have h4 : rB (rLt a 0) (J b1 ls st2 w n k) (J b2 ls st2 w n k) = some o := h4
  rcases rB_some h4 with ⟨h5, h6⟩ | ⟨h5, h6⟩
  · obtain ⟨q1, hV⟩ := hJ b1 _ hb1 _ _ _ _ _ _ h6
    exact ⟨q1, fun p e R s m args below meth c X r1 r2 r3 rl H locs hl hP hL => lv_if_lt X.1 X.2.1 hd ht (fun _ => hV p e R s m args below meth c X r1 r2 r3 rl H locs hl hP hL) (fun z => absurd ((n_lt a 0).mpr h5) z)⟩
  · obtain ⟨q1, hV⟩ := hJ b2 _ hb2 _ _ _ _ _ _ h6
    exact ⟨q1, fun p e R s m args below meth c X r1 r2 r3 rl H locs hl hP hL => lv_if_lt X.1 X.2.1 hd ht (fun z => by rw [(n_lt a 0).mp z] at h5; cases h5) (fun _ => hV p e R s m args below meth c X r1 r2 r3 rl H locs hl hP hL)⟩
theorem s_icmp_ge {pcs : List Nat} {b1 b2 tgt : Nat} {off : Int} (hb1 : pcs[b1]? = some tgt) (hb2 : pcs[b2]? = some (pc + 3)) (ht : (pc : Int) + off = (tgt : Int)) (hd : decode cc pc = .ok (.if_icmp .ge off, 3)) : BS (rW cl fo zs rs ns Ts G l cc nL own ret ini fr lo n0) pcs pc (t_icmp (fun a b => rNot (rLt a b)) b1 b2) := by
  intro J hJ ls st w n k o e0
  obtain ⟨y, st', rfl, h2⟩ := rP_some e0
  obtain ⟨x, st2, rfl, h3⟩ := rP_some h2
  obtain ⟨b, rfl, h31⟩ := rI_some h3
  obtain ⟨a, rfl, h4⟩ := rI_some h31
  have h4 : rB (rNot (rLt a b)) (J b1 ls st2 w n k) (J b2 ls st2 w n k) = some o := h4
  rcases rB_some h4 with ⟨h5, h6⟩ | ⟨h5, h6⟩
  · obtain ⟨q1, hV⟩ := hJ b1 _ hb1 _ _ _ _ _ _ h6
    exact ⟨q1, fun p e R s m args below meth c X r1 r2 r3 rl H locs hl hP hL => lv_icmp_ge X.1 X.2.1 hd ht (fun _ => hV p e R s m args below meth c X r1 r2 r3 rl H locs hl hP hL) (fun z => absurd ((n_ge a b).mpr h5) z)⟩
  · obtain ⟨q1, hV⟩ := hJ b2 _ hb2 _ _ _ _ _ _ h6
    exact ⟨q1, fun p e R s m args below meth c X r1 r2 r3 rl H locs hl hP hL => lv_icmp_ge X.1 X.2.1 hd ht (fun z => by rw [(n_ge a b).mp z] at h5; cases h5) (fun _ => hV p e R s m args below meth c X r1 r2 r3 rl H locs hl hP hL)⟩
theorem s_if_ge {pcs : List Nat} {b1 b2 tgt : Nat} {off : Int} (hb1 : pcs[b1]? = some tgt) (hb2 : pcs[b2]? = some (pc + 3)) (ht : (pc : Int) + off = (tgt : Int)) (hd : decode cc pc = .ok (.ifCond .ge off, 3)) : BS (rW cl fo zs rs ns Ts G l cc nL own ret ini fr lo n0) pcs pc (t_if (fun a => rNot (rLt a 0)) b1 b2) := by
  intro J hJ ls st w n k o e0
  obtain ⟨x, st2, rfl, h3⟩ := rP_some e0
  obtain ⟨a, rfl, h4⟩ := rI_some h3
  have h4 : rB (rNot (rLt a 0)) (J b1 ls st2 w n k) (J b2 ls st2 w n k) = some o := h4
  rcases rB_some h4 with ⟨h5, h6⟩ | ⟨h5, h6⟩
  · obtain ⟨q1, hV⟩ := hJ b1 _ hb1 _ _ _ _ _ _ h6
    exact ⟨q1, fun p e R s m args below meth c X r1 r2 r3 rl H locs hl hP hL => lv_if_ge X.1 X.2.1 hd ht (fun _ => hV p e R s m args below meth c X r1 r2 r3 rl H locs hl hP hL) (fun z => absurd ((n_ge a 0).mpr h5) z)⟩
  · obtain ⟨q1, hV⟩ := hJ b2 _ hb2 _ _ _ _ _ _ h6
    exact ⟨q1, fun p e R s m args below meth c X r1 r2 r3 rl H locs hl hP hL => lv_if_ge X.1 X.2.1 hd ht (fun z => by rw [(n_ge a 0).mp z] at h5; cases h5) (fun _ => hV p e R s m args below meth c X r1 r2 r3 rl H locs hl hP hL)⟩
theorem s_icmp_gt {pcs : List Nat} {b1 b2 tgt : Nat} {off : Int} (hb1 : pcs[b1]? = some tgt) (hb2 : pcs[b2]? = some (pc + 3)) (ht : (pc : Int) + off = (tgt : Int)) (hd : decode cc pc = .ok (.if_icmp .gt off, 3)) : BS (rW cl fo zs rs ns Ts G l cc nL own ret ini fr lo n0) pcs pc (t_icmp (fun a b => rNot (rLe a b)) b1 b2) := by
  intro J hJ ls st w n k o e0
  obtain ⟨y, st', rfl, h2⟩ := rP_some e0
  obtain ⟨x, st2, rfl, h3⟩ := rP_some h2
  obtain ⟨b, rfl, h31⟩ := rI_some h3
  obtain ⟨a, rfl, h4⟩ := rI_some h31
  have h4 : rB (rNot (rLe a b)) (J b1 ls st2 w n k) (J b2 ls st2 w n k) = some o := h4
  rcases rB_some h4 with ⟨h5, h6⟩ | ⟨h5, h6⟩
  · obtain ⟨q1, hV⟩ := hJ b1 _ hb1 _ _ _ _ _ _ h6
    exact ⟨q1, fun p e R s m args below meth c X r1 r2 r3 rl H locs hl hP hL => lv_icmp_gt X.1 X.2.1 hd ht (fun _ => hV p e R s m args below meth c X r1 r2 r3 rl H locs hl hP hL) (fun z => absurd ((n_gt a b).mpr h5) z)⟩
  · obtain ⟨q1, hV⟩ := hJ b2 _ hb2 _ _ _ _ _ _ h6
    exact ⟨q1, fun p e R s m args below meth c X r1 r2 r3 rl H locs hl hP hL => lv_icmp_gt X.1 X.2.1 hd ht (fun z => by rw [(n_gt a b).mp z] at h5; cases h5) (fun _ => hV p e R s m args below meth c X r1 r2 r3 rl H locs hl hP hL)⟩
theorem s_if_gt {pcs : List Nat} {b1 b2 tgt : Nat} {off : Int} (hb1 : pcs[b1]? = some tgt) (hb2 : pcs[b2]? = some (pc + 3)) (ht : (pc : Int) + off = (tgt : Int)) (hd : decode cc pc = .ok (.ifCond .gt off, 3)) : BS (rW cl fo zs rs ns Ts G l cc nL own ret ini fr lo n0) pcs pc (t_if (fun a => rNot (rLe a 0)) b1 b2) := by
  intro J hJ ls st w n k o e0
  obtain ⟨x, st2, rfl, h3⟩ := rP_some e0
  obtain ⟨a, rfl, h4⟩ := rI_some h3
  have h4 : rB (rNot (rLe a 0)) (J b1 ls st2 w n k) (J b2 ls st2 w n k) = some o := h4
  rcases rB_some h4 with ⟨h5, h6⟩ | ⟨h5, h6⟩
  · obtain ⟨q1, hV⟩ := hJ b1 _ hb1 _ _ _ _ _ _ h6
    exact ⟨q1, fun p e R s m args below meth c X r1 r2 r3 rl H locs hl hP hL => lv_if_gt X.1 X.2.1 hd ht (fun _ => hV p e R s m args below meth c X r1 r2 r3 rl H locs hl hP hL) (fun z => absurd ((n_gt a 0).mpr h5) z)⟩
  · obtain ⟨q1, hV⟩ := hJ b2 _ hb2 _ _ _ _ _ _ h6
    exact ⟨q1, fun p e R s m args below meth c X r1 r2 r3 rl H locs hl hP hL => lv_if_gt X.1 X.2.1 hd ht (fun z => by rw [(n_gt a 0).mp z] at h5; cases h5) (fun _ => hV p e R s m args below meth c X r1 r2 r3 rl H locs hl hP hL)⟩
theorem s_icmp_le {pcs : List Nat} {b1 b2 tgt : Nat} {off : Int} (hb1 : pcs[b1]? = some tgt) (hb2 : pcs[b2]? = some (pc + 3)) (ht : (pc : Int) + off = (tgt : Int)) (hd : decode cc pc = .ok (.if_icmp .le off, 3)) : BS (rW cl fo zs rs ns Ts G l cc nL own ret ini fr lo n0) pcs pc (t_icmp rLe b1 b2) := by
  intro J hJ ls st w n k o e0
  obtain ⟨y, st', rfl, h2⟩ := rP_some e0
  obtain ⟨x, st2, rfl, h3⟩ := rP_some h2
  obtain ⟨b, rfl, h31⟩ := rI_some h3
  obtain ⟨a, rfl, h4⟩ := rI_some h31
  have h4 : rB (rLe a b) (J b1 ls st2 w n k) (J b2 ls st2 w n k) = some o := h4
  rcases rB_some h4 with ⟨h5, h6⟩ | ⟨h5, h6⟩
  · obtain ⟨q1, hV⟩ := hJ b1 _ hb1 _ _ _ _ _ _ h6
    exact ⟨q1, fun p e R s m args below meth c X r1 r2 r3 rl H locs hl hP hL => lv_icmp_le X.1 X.2.1 hd ht (fun _ => hV p e R s m args below meth c X r1 r2 r3 rl H locs hl hP hL) (fun z => absurd ((n_le a b).mpr h5) z)⟩
  · obtain ⟨q1, hV⟩ := hJ b2 _ hb2 _ _ _ _ _ _ h6
    exact ⟨q1, fun p e R s m args below meth c X r1 r2 r3 rl H locs hl hP hL => lv_icmp_le X.1 X.2.1 hd ht (fun z => by rw [(n_le a b).mp z] at h5; cases h5) (fun _ => hV p e R s m args below meth c X r1 r2 r3 rl H locs hl hP hL)⟩
theorem s_if_le {pcs : List Nat} {b1 b2 tgt : Nat} {off : Int} (hb1 : pcs[b1]? = some tgt) (hb2 : pcs[b2]? = some (pc + 3)) (ht : (pc : Int) + off = (tgt : Int)) (hd : decode cc pc = .ok (.ifCond .le off, 3)) : BS (rW cl fo zs rs ns Ts G l cc nL own ret ini fr lo n0) pcs pc (t_if (fun a => rLe a 0) b1 b2) := by
  intro J hJ ls st w n k o e0
  obtain ⟨x, st2, rfl, h3⟩ := rP_some e0
  obtain ⟨a, rfl, h4⟩ := rI_some h3
  have h4 : rB (rLe a 0) (J b1 ls st2 w n k) (J b2 ls st2 w n k) = some o := h4
  rcases rB_some h4 with ⟨h5, h6⟩ | ⟨h5, h6⟩
  · obtain ⟨q1, hV⟩ := hJ b1 _ hb1 _ _ _ _ _ _ h6
    exact ⟨q1, fun p e R s m args below meth c X r1 r2 r3 rl H locs hl hP hL => lv_if_le X.1 X.2.1 hd ht (fun _ => hV p e R s m args below meth c X r1 r2 r3 rl H locs hl hP hL) (fun z => absurd ((n_le a 0).mpr h5) z)⟩
  · obtain ⟨q1, hV⟩ := hJ b2 _ hb2 _ _ _ _ _ _ h6
    exact ⟨q1, fun p e R s m args below meth c X r1 r2 r3 rl H locs hl hP hL => lv_if_le X.1 X.2.1 hd ht (fun z => by rw [(n_le a 0).mp z] at h5; cases h5) (fun _ => hV p e R s m args below meth c X r1 r2 r3 rl H locs hl hP hL)⟩
theorem s_ifnull {pcs : List Nat} {b1 b2 tgt : Nat} {off : Int} (hb1 : pcs[b1]? = some tgt) (hb2 : pcs[b2]? = some (pc + 3)) (ht : (pc : Int) + off = (tgt : Int)) (hd : decode cc pc = .ok (.ifnull off, 3)) : BS (rW cl fo zs rs ns Ts G l cc nL own ret ini fr lo n0) pcs pc (t_nul b1 b2) := by
  intro J hJ ls st w n k o e0
  obtain ⟨x, st2, rfl, h3⟩ := rP_some e0
  obtain ⟨a, rfl, h4⟩ := rR_some h3
  rcases rB_some h4 with ⟨h5, h6⟩ | ⟨h5, h6⟩
  · obtain ⟨q1, hV⟩ := hJ b1 _ hb1 _ _ _ _ _ _ h6
    have ha : a = 0 := Nat.eq_of_beq_eq_true h5
    subst ha
    exact ⟨q1, fun p e R s m args below meth c X r1 r2 r3 rl H locs hl hP hL => lv_ifnullN X.1 X.2.1 hd ht (hV p e R s m args below meth c X r1 r2 r3 rl H locs hl hP hL)⟩
  · obtain ⟨h7, h6⟩ := rB_yes h6
    obtain ⟨q1, hV⟩ := hJ b2 _ hb2 _ _ _ _ _ _ h6
    refine ⟨q1, fun p e R s m args below meth c X r1 r2 r3 rl H locs hl hP hL => ?_⟩
    rw [List.map_cons, rv_own G (Nat.eq_of_beq_eq_true h7)]
    exact lv_ifnull X.1 X.2.1 hd (hV p e R s m args below meth c X r1 r2 r3 rl H locs hl hP hL)
theorem s_ifnonnull {pcs : List Nat} {b1 b2 tgt : Nat} {off : Int} (hb1 : pcs[b1]? = some (pc + 3)) (hb2 : pcs[b2]? = some tgt) (ht : (pc : Int) + off = (tgt : Int)) (hd : decode cc pc = .ok (.ifnonnull off, 3)) : BS (rW cl fo zs rs ns Ts G l cc nL own ret ini fr lo n0) pcs pc (t_nul b1 b2) := by
  intro J hJ ls st w n k o e0
  obtain ⟨x, st2, rfl, h3⟩ := rP_some e0
  obtain ⟨a, rfl, h4⟩ := rR_some h3
  rcases rB_some h4 with ⟨h5, h6⟩ | ⟨h5, h6⟩
  · obtain ⟨q1, hV⟩ := hJ b1 _ hb1 _ _ _ _ _ _ h6
    have ha : a = 0 := Nat.eq_of_beq_eq_true h5
    subst ha
    exact ⟨q1, fun p e R s m args below meth c X r1 r2 r3 rl H locs hl hP hL => lv_ifnonnullN X.1 X.2.1 hd (hV p e R s m args below meth c X r1 r2 r3 rl H locs hl hP hL)⟩
  · obtain ⟨h7, h6⟩ := rB_yes h6
    obtain ⟨q1, hV⟩ := hJ b2 _ hb2 _ _ _ _ _ _ h6
    refine ⟨q1, fun p e R s m args below meth c X r1 r2 r3 rl H locs hl hP hL => ?_⟩
    rw [List.map_cons, rv_own G (Nat.eq_of_beq_eq_true h7)]
    exact lv_ifnonnull X.1 X.2.1 hd ht (hV p e R s m args below meth c X r1 r2 r3 rl H locs hl hP hL)
end RR
end
section
/-! THE RUNNER'S ROWS FOR THE HEAP -/
theorem rO_some {β : Type} {w : rWd} {r : Nat} {k : Nat → rCC → Option β} {o : β} (h : rO w r k = some o) : r % 2 = 1 ∧ ∃ x, wGet (r / 2) w = some x ∧ k (r / 2) x = some o := by
  obtain ⟨h1, h2⟩ := rB_yes h
  rw [rN_eq] at h2
  obtain ⟨x, h5, h6⟩ := rWG_some _ h2
  exact ⟨Nat.eq_of_beq_eq_true h1, x, h5, h6⟩
theorem rOF_some {β : Type} {fo : List rCC} {w : rWd} {r : Nat} {k : rCC → Option β} {o : β} (h : rOF fo w r k = some o) : (r % 2 = 1 ∧ ∃ x, wGet (r / 2) w = some x ∧ k x = some o) ∨ (¬ r % 2 = 1 ∧ ¬ r = 0 ∧ ∃ x, fo[r / 2 - 1]? = some x ∧ k x = some o) := by
  rcases rB_some h with ⟨h1, h2⟩ | ⟨h1, h2⟩
  · obtain ⟨a, x, c, d⟩ := rO_some h2
    exact Or.inl ⟨a, x, c, d⟩
  · obtain ⟨h3, h4⟩ := rB_no h2
    rw [rN_eq] at h4
    obtain ⟨x, h5, h6⟩ := rG_some _ _ h4
    refine Or.inr ⟨fun q => ?_, fun q => ?_, x, h5, h6⟩
    · have h1' : Nat.beq (r % 2) 1 = false := h1
      rw [q] at h1'; cases h1'
    · subst q; cases h3
/-- the map with place i set -/
def rUP (q i : Nat) (v : rCV) : rMp → rMp
  | [] => [(q, [(i, v)])]
  | (a, l) :: xs => if a = q then (a, (i, v) :: l) :: xs else (a, l) :: rUP q i v xs
theorem rU_eq {β : Type} {q i : Nat} {v : rCV} : ∀ (m : rMp) (k : rMp → Option β), rU m q i v k = k (rUP q i v m)
  | [], k => rfl
  | (a, l) :: xs, k => by
    show rB (Nat.beq a q) (k ((a, (i, v) :: l) :: xs)) (rU xs q i v (fun ys => k ((a, l) :: ys))) = k (if a = q then (a, (i, v) :: l) :: xs else (a, l) :: rUP q i v xs)
    by_cases e : a = q
    · rw [if_pos e, beq_t e]; rfl
    · rw [if_neg e, beq_f e]
      exact rU_eq xs _
/-- block q's part of the look-up -/
noncomputable def rLq (d : rCV) (q i : Nat) : rMp → rCV
  | [] => d
  | (a, l) :: xs => if a = q then rLi d l i else rLq d q i xs
theorem rL_eq (d : rCV) (m : rMp) (i : Nat) : rL d m i = rLq d (i / 64) i m := by
  show rN (i / 64) _ = _
  rw [rN_eq]
  induction m with
  | nil => rfl
  | cons x xs ih =>
    obtain ⟨a, l⟩ := x
    show rB (Nat.beq a (i / 64)) (rLi d l i) _ = if a = i / 64 then rLi d l i else rLq d (i / 64) i xs
    by_cases e : a = i / 64
    · rw [if_pos e, beq_t e]; rfl
    · rw [if_neg e, beq_f e, ← ih]; rfl
theorem rLi_cons (d : rCV) (a i : Nat) (v : rCV) (l : List (Nat × rCV)) : rLi d ((a, v) :: l) i = if i = a then v else rLi d l i := by
  show rB (Nat.beq a i) v (rLi d l i) = _
  by_cases e : i = a
  · rw [if_pos e, beq_t e.symm]; rfl
  · rw [if_neg e, beq_f (fun q => e q.symm)]; rfl
theorem rL_up (d : rCV) (m : rMp) (i : Nat) (v : rCV) (j : Nat) : rL d (rUP (i / 64) i v m) j = if j = i then v else rL d m j := by
  rw [rL_eq, rL_eq]
  induction m with
  | nil =>
    show (if i / 64 = j / 64 then rLi d [(i, v)] j else d) = if j = i then v else d
    rw [rLi_cons]
    by_cases e : j = i
    · subst e; simp
    · rw [if_neg e, if_neg e]
      by_cases e2 : i / 64 = j / 64
      · rw [if_pos e2]; rfl
      · rw [if_neg e2]
  | cons x xs ih =>
    obtain ⟨a, l⟩ := x
    show rLq d (j / 64) j (if a = i / 64 then (a, (i, v) :: l) :: xs else (a, l) :: rUP (i / 64) i v xs) = if j = i then v else (if a = j / 64 then rLi d l j else rLq d (j / 64) j xs)
    by_cases e1 : a = i / 64
    · rw [if_pos e1]
      show (if a = j / 64 then rLi d ((i, v) :: l) j else rLq d (j / 64) j xs) = _
      rw [rLi_cons]
      by_cases e : j = i
      · subst e; rw [if_pos e1, if_pos rfl, if_pos rfl]
      · rw [if_neg e, if_neg e]
    · rw [if_neg e1]
      show (if a = j / 64 then rLi d l j else rLq d (j / 64) j (rUP (i / 64) i v xs)) = _
      rw [ih]
      by_cases e : j = i
      · subst e; rw [if_neg e1, if_pos rfl, if_pos rfl]
      · rw [if_neg e, if_neg e]
theorem okI_e {t : Nat} {v : rCV} (h : okI t v = true) : t = 0 ∧ ∃ a, v = .inl a := by
  obtain ⟨h1, h2⟩ := rB_and h
  exact ⟨Nat.eq_of_beq_eq_true h1, isI_e h2⟩
theorem okJ_e {t : Nat} {v : rCV} (h : okJ t v = true) : t = 1 ∧ ∃ a, v = .inr (.inl a) := by
  obtain ⟨h1, h2⟩ := rB_and h
  exact ⟨Nat.eq_of_beq_eq_true h1, isJ_e h2⟩
theorem okA_e {t : Nat} {v : rCV} (h : okA t v = true) : 4 ≤ t ∧ ∃ a, v = .inr (.inr a) := by
  obtain ⟨h1, h2⟩ := rB_and h
  exact ⟨Nat.ble_eq.mp h1, isR_e h2⟩
theorem okB_e {t : Nat} {v : rCV} (h : okB t v = true) : (t = 2 ∧ isB v = true) ∨ (t = 3 ∧ isZ v = true) := by
  have h' : rB (Nat.beq t 2) (isB v) (rB (Nat.beq t 3) (isZ v) false) = true := h
  cases e : Nat.beq t 2
  · rw [e] at h'
    obtain ⟨h1, h2⟩ := rB_and h'
    exact Or.inr ⟨Nat.eq_of_beq_eq_true h1, h2⟩
  · rw [e] at h'
    exact Or.inl ⟨Nat.eq_of_beq_eq_true e, h'⟩
theorem rTy_ref {t : Nat} (h : 4 ≤ t) : (rTy t).isReference = true := by
  match t, h with
  | 4, _ => rfl
  | 5, _ => rfl
  | t + 6, _ => rfl
theorem isB_e {v : rCV} (h : isB v = true) : ∃ a, v = .inl a ∧ narrow .byte (.int (nI a)) = .int (nI a) := by
  rcases v with a | a | a
  · refine ⟨a, rfl, ?_⟩
    have h' : rB (Nat.ble a 127) true (rB (Nat.ble 4294967168 a) (Nat.blt a 4294967296) false) = true := h
    cases e : Nat.ble a 127
    · rw [e] at h'
      obtain ⟨h1, h2⟩ := rB_and h'
      have g1 : 4294967168 ≤ a := Nat.ble_eq.mp h1
      have g2 : a < 4294967296 := Nat.blt_eq.mp h2
      have := n_bb2 (a - 4294967168) (by omega)
      rw [Nat.sub_add_cancel g1] at this
      exact this
    · have g1 : a ≤ 127 := Nat.ble_eq.mp e
      exact n_bb a (by omega)
  · cases h
  · cases h
theorem isZ_e {v : rCV} (h : isZ v = true) : ∃ a, v = .inl a ∧ narrow .boolean (.int (nI a)) = .int (nI a) ∧ a ≤ 1 := by
  rcases v with a | a | a
  · have g1 : a ≤ 1 := Nat.ble_eq.mp h
    refine ⟨a, rfl, ?_, g1⟩
    match a, g1 with
    | 0, _ => rfl
    | 1, _ => rfl
  · cases h
  · cases h
theorem locs_put {b a k : Nat} {locs : List Loc} (h : ∀ x ∈ locs, b ≤ x.base) : ∀ x ∈ locs ++ [⟨b + a, k⟩], b ≤ x.base := by
  intro x hx
  rcases List.mem_append.mp hx with q | q
  · exact h x q
  · rw [List.mem_singleton.mp q]; exact Nat.le_add_right _ _
theorem arr_up {G : rGm} {d v : rCV} {m : rMp} {i N : Nat} (cA : ClassId) (hh : True := trivial) : arrV cA N (updV (fun j => rv G (rL d m j)) i (rv G v)) = arrV cA N (fun j => rv G (rL d (rUP (i / 64) i v m) j)) := by
  congr 1
  funext j
  rw [rL_up]
  unfold updV
  by_cases q : j = i
  · rw [if_pos q, if_pos q]
  · rw [if_neg q, if_neg q]
section RH
variable {cl : List vw_C} {fo : List rCC} {zs : List (String × String × String × rCV)} {rs : List (String × Nat × String × Nat)} {ns : List Cond} {Ts : List Cond} {G : rGm}
theorem rCell.kept {x : rCC} {H H1 : Heap} {a : Nat} (h : rCell cl G x H a) (hq : H1[a]? = H[a]?) : rCell cl G x H1 a := by
  rcases x with ⟨ci, fs⟩ | ⟨t, N, d, m⟩
  · obtain ⟨r, h1, h2⟩ := h
    exact ⟨r, h1, h2.kept hq⟩
  · exact ⟨h.1, h.2.1, hq.trans h.2.2⟩
theorem pic_cell {w : rWd} {n : Nat} {H : Heap} {i : Nat} {x : rCC} (hP : rPic cl G w n H) (hp : wGet i w = some x) : rCell cl G x H (G.2.2.1 + i) := (hP.2.2 i x hp).2
theorem pic_set {w : rWd} {n : Nat} {H H1 : Heap} {i : Nat} {x0 x : rCC} (hP : rPic cl G w n H) (hp : wGet i w = some x0) (hc : rCell cl G x H1 (G.2.2.1 + i)) (hz : H1.size = H.size) (oq : ∀ q : Nat, q ≠ G.2.2.1 + i → H1[q]? = H[q]?) : rPic cl G (wSet i x w) n H1 := by
  refine ⟨by rw [hz, hP.1], fun q hq => (oq q (by omega)).trans (hP.2.1 q hq), fun j y hy => ?_⟩
  rcases wGet_set w hy with ⟨e1, e2⟩ | ⟨e1, e2⟩
  · subst e1; subst e2
    exact ⟨(hP.2.2 _ _ hp).1, hc⟩
  · exact ⟨(hP.2.2 j y e2).1, (hP.2.2 j y e2).2.kept (oq _ (by omega))⟩
theorem pic_push {w : rWd} {n : Nat} {H H1 : Heap} {x : rCC} (hP : rPic cl G w n H) (hc : rCell cl G x H1 H.size) (hz : H1.size = H.size + 1) (oq : ∀ q : Nat, q < H.size → H1[q]? = H[q]?) : rPic cl G ((n, x) :: w) (n + 1) H1 := by
  refine ⟨by rw [hz, hP.1]; omega, fun q hq => (oq q (by rw [hP.1]; omega)).trans (hP.2.1 q hq), fun j y hy => ?_⟩
  have hy' : (if n = j then some x else wGet j w) = some y := hy
  by_cases e : n = j
  · rw [if_pos e] at hy'
    cases hy'
    subst e
    refine ⟨Nat.lt_succ_self _, ?_⟩
    rw [← hP.1]; exact hc
  · rw [if_neg e] at hy'
    obtain ⟨h1, h2⟩ := hP.2.2 j y hy'
    exact ⟨by omega, h2.kept (oq _ (by rw [hP.1]; omega))⟩
theorem rFx.moved {u U : State} (hvm : u.vm.Alike U.vm) {i : Nat} {x : rCC} (h : rFx cl G i x u) : rFx cl G i x U := by
  rcases x with ⟨ci, fs⟩ | ⟨t, N, d, m⟩
  · exact h
  · obtain ⟨a, h1, h2, h3, h4, h5⟩ := h
    exact ⟨a, h1, h2, h3, h4, va_T.moved hvm h5⟩
theorem rKK.warm {s U : State} (hW : s.WarmedH U.vm) (h : rKK cl fo zs rs ns G s) : rKK cl fo zs rs ns G U := by
  obtain ⟨h1, h2, h3, h4, h5, h6⟩ := h
  refine ⟨va_K.moved hW.alike h1, ⟨h2.1, fun w hw => ⟨(h2.2 w hw).2 _ _ hW (h2.2 w hw).1, (h2.2 w hw).2⟩⟩, h3, fun q hq => va_Z.moved hW.alike (h4 q hq), fun q hq => ?_, fun i x hi => (h6 i x hi).moved hW.alike⟩
  obtain ⟨a, e1, e2⟩ := h5 q hq
  exact ⟨a, e1, e2.warm hW⟩
theorem rTys_at {t : Nat} (ht : t < 7) : (rTys G)[t]? = some (G.2.1 t, rTy t) := by
  unfold rTys
  rw [List.getElem?_map, List.getElem?_range ht]
  rfl
theorem rKK.arr {s : State} (h : rKK cl fo zs rs ns G s) {t : Nat} (ht : t < 7) (n : Nat) (z : Nat → Value) : s.isArrayOf (arrV (G.2.1 t) n z) (rTy t) := (h.1.2 t _ (rTys_at ht)).1 n z
/-- an array that a reference names: its cell -/
theorem arr_at {s : State} {w : rWd} {n : Nat} {H : Heap} {r t N : Nat} {d : rCV} {m : rMp} (hK : rKK cl fo zs rs ns G s) (hP : rPic cl G w n H)
    (h : (r % 2 = 1 ∧ wGet (r / 2) w = some (.inr (t, N, d, m))) ∨ (¬ r % 2 = 1 ∧ ¬ r = 0 ∧ fo[r / 2 - 1]? = some (.inr (t, N, d, m)))) :
    t < 7 ∧ N ≤ 60000000 ∧ ∃ (a : Nat) (cell : Cell), rv G (.inr (.inr r)) = .ref a ∧ H[a]? = some cell ∧ s.isArrayOf cell (rTy t) ∧ cell.vm ≠ .unknown ∧ N ≤ cell.slots.size ∧ cell.slots.size.toInt32 = nI N ∧ ∀ j : Nat, j < N → cell.slots[j]? = some (rv G (rL d m j)) := by
  rcases h with ⟨h1, h3⟩ | ⟨h1, h2, h3⟩
  · obtain ⟨c1, c2, c3⟩ := pic_cell hP h3
    refine ⟨c1, c2, _, _, rv_own G h1, c3, hK.arr c1 _ _, (fun q => by cases q), by rw [arrV_size]; exact Nat.le_refl _, by rw [arrV_size]; rfl, fun j hj => by rw [arrV_read _ _ hj]⟩
  · obtain ⟨a, g1, g2, g3, g4, cell, g5, g6, g7, g8, g9, g10, -⟩ := hK.2.2.2.2.2 _ _ h3
    exact ⟨by omega, g4, a, cell, by rw [rv_ext G h1 h2, g1], by rw [hP.2.1 a g2]; exact g5, g6, g7, g8, g9, g10⟩
theorem ix_in {i N sz : Nat} (hi : i < N) (hN : N ≤ 60000000) (hz : N ≤ sz) : ¬ (nI i < 0 ∨ sz ≤ (nI i).toNatClampNeg) := by
  rw [nI_clamp (by omega)]
  intro q
  rcases q with q | q
  · exact nI_pos (by omega) q
  · omega
variable {l : Launch} {cc : ByteArray} {nL n0 : Nat} {own : String} {pc : Nat} {ret : Option FieldType} {ini : Bool} {fr lo : Nat}
/-- a row that reads the heap -/
theorem s_rowH {pc' : Nat} {h : rK → rK} (hh : ∀ (k : rK) (ls : rLs) (st : List rCV) (w : rWd) (n k0 : Nat) (o : rOut), h k ls st w n k0 = some o → ∃ st', k ls st' w n k0 = some o ∧ ∀ (p : Program) (e : Env) (R : Room) (s : State) (m : MethodId) (args : Array Value) (below : List Frame) (meth : Method) (c : Code), rCx cl fo zs rs ns Ts G p R s m args meth c cc nL own ret ini fr lo → ∀ (rl : Array Slot) (H : Heap) (locs : List Loc) (cells slots : Nat) (Q : State → Prop), rPic cl G w n H → W p l e R s m args below meth c H locs cells slots Q (F0 m pc' rl (st'.map (rv G))) → W p l e R s m args below meth c H locs cells slots Q (F0 m pc rl (st.map (rv G)))) :
    HS (rW cl fo zs rs ns Ts G l cc nL own ret ini fr lo n0) pc pc' h := by
  intro k ls st w n k0 o e0
  obtain ⟨st', e1, hr⟩ := hh k ls st w n k0 o e0
  refine ⟨ls, st', w, n, k0, e1, Nat.le_refl _, Nat.le_refl _, fun _ _ hV p e R s m args below meth c X r1 r2 r3 rl H locs hl hP hL => ?_⟩
  exact hr p e R s m args below meth c X rl H locs _ _ _ hP (hV p e R s m args below meth c X r1 r2 r3 rl H locs hl hP hL)
theorem s_alen (hd : decode cc pc = .ok (.arraylength, 1)) : HS (rW cl fo zs rs ns Ts G l cc nL own ret ini fr lo n0) pc (pc + 1) (h_alen fo) := by
  apply s_rowH
  intro k0 ls st w n kk o e0
  obtain ⟨x, st', rfl, h2⟩ := rP_some e0
  obtain ⟨r, rfl, h3⟩ := rR_some h2
  have key : ∃ t N d m, ((r % 2 = 1 ∧ wGet (r / 2) w = some (.inr (t, N, d, m))) ∨ (¬ r % 2 = 1 ∧ ¬ r = 0 ∧ fo[r / 2 - 1]? = some (.inr (t, N, d, m)))) ∧ k0 ls (.inl N :: st') w n kk = some o := by
    rcases rOF_some h3 with ⟨a, x, f, h⟩ | ⟨a, b, x, f, h⟩
    · obtain ⟨t, N, d, m, rfl, h5⟩ := rCA_some h
      exact ⟨t, N, d, m, Or.inl ⟨a, f⟩, h5⟩
    · obtain ⟨t, N, d, m, rfl, h5⟩ := rCA_some h
      exact ⟨t, N, d, m, Or.inr ⟨a, b, f⟩, h5⟩
  obtain ⟨t, N, d, mm, h4, h5⟩ := key
  refine ⟨_, h5, fun p e R s m args below meth c X rl H locs cells slots Q hP hk => ?_⟩
  obtain ⟨c1, c2, a, cell, c3, c4, c5, c6, c7, c8, c9⟩ := arr_at X.2.2.2.2.2.1 hP h4
  rw [List.map_cons, c3]
  exact W.alen (n := nI N) X.1 X.2.1 c4 c5 c8 rfl rfl hd hk
theorem s_iaload (hd : decode cc pc = .ok (.iaload, 1)) : HS (rW cl fo zs rs ns Ts G l cc nL own ret ini fr lo n0) pc (pc + 1) (h_ald fo okI) := by
  apply s_rowH
  intro k0 ls st w n kk o e0
  obtain ⟨y, st', rfl, h1⟩ := rP_some e0
  obtain ⟨x, st2, rfl, h2⟩ := rP_some h1
  obtain ⟨i, rfl, h3⟩ := rI_some h2
  obtain ⟨r, rfl, h31⟩ := rR_some h3
  have key : ∃ t N d m, ((r % 2 = 1 ∧ wGet (r / 2) w = some (.inr (t, N, d, m))) ∨ (¬ r % 2 = 1 ∧ ¬ r = 0 ∧ fo[r / 2 - 1]? = some (.inr (t, N, d, m)))) ∧ i < N ∧ okI t (rL d m i) = true ∧ k0 ls (rL d m i :: st2) w n kk = some o := by
    rcases rOF_some h31 with ⟨a, x, f, h⟩ | ⟨a, b, x, f, h⟩
    · obtain ⟨t, N, d, m, rfl, h5⟩ := rCA_some h
      obtain ⟨h6, h7⟩ := rB_yes h5
      rw [rV_eq] at h7
      obtain ⟨h8, h9⟩ := rB_yes h7
      exact ⟨t, N, d, m, Or.inl ⟨a, f⟩, Nat.blt_eq.mp h6, h8, h9⟩
    · obtain ⟨t, N, d, m, rfl, h5⟩ := rCA_some h
      obtain ⟨h6, h7⟩ := rB_yes h5
      rw [rV_eq] at h7
      obtain ⟨h8, h9⟩ := rB_yes h7
      exact ⟨t, N, d, m, Or.inr ⟨a, b, f⟩, Nat.blt_eq.mp h6, h8, h9⟩
  obtain ⟨t, N, d, mm, h4, h6, h7, h5⟩ := key
  refine ⟨_, h5, fun p e R s m args below meth c X rl H locs cells slots Q hP hk => ?_⟩
  obtain ⟨c1, c2, a, cell, c3, c4, c5, c6, c7, c8, c9⟩ := arr_at X.2.2.2.2.2.1 hP h4
  rw [List.map_cons, List.map_cons, c3]
  obtain ⟨rfl, a1, e1⟩ := okI_e h7
  exact W.iald X.1 X.2.1 c4 c5 c6 (ix_in h6 c2 c7) (by rw [nI_clamp (by omega)]; exact c9 i h6) rfl rfl hd hk
theorem s_laload (hd : decode cc pc = .ok (.laload, 1)) : HS (rW cl fo zs rs ns Ts G l cc nL own ret ini fr lo n0) pc (pc + 1) (h_ald fo okJ) := by
  apply s_rowH
  intro k0 ls st w n kk o e0
  obtain ⟨y, st', rfl, h1⟩ := rP_some e0
  obtain ⟨x, st2, rfl, h2⟩ := rP_some h1
  obtain ⟨i, rfl, h3⟩ := rI_some h2
  obtain ⟨r, rfl, h31⟩ := rR_some h3
  have key : ∃ t N d m, ((r % 2 = 1 ∧ wGet (r / 2) w = some (.inr (t, N, d, m))) ∨ (¬ r % 2 = 1 ∧ ¬ r = 0 ∧ fo[r / 2 - 1]? = some (.inr (t, N, d, m)))) ∧ i < N ∧ okJ t (rL d m i) = true ∧ k0 ls (rL d m i :: st2) w n kk = some o := by
    rcases rOF_some h31 with ⟨a, x, f, h⟩ | ⟨a, b, x, f, h⟩
    · obtain ⟨t, N, d, m, rfl, h5⟩ := rCA_some h
      obtain ⟨h6, h7⟩ := rB_yes h5
      rw [rV_eq] at h7
      obtain ⟨h8, h9⟩ := rB_yes h7
      exact ⟨t, N, d, m, Or.inl ⟨a, f⟩, Nat.blt_eq.mp h6, h8, h9⟩
    · obtain ⟨t, N, d, m, rfl, h5⟩ := rCA_some h
      obtain ⟨h6, h7⟩ := rB_yes h5
      rw [rV_eq] at h7
      obtain ⟨h8, h9⟩ := rB_yes h7
      exact ⟨t, N, d, m, Or.inr ⟨a, b, f⟩, Nat.blt_eq.mp h6, h8, h9⟩
  obtain ⟨t, N, d, mm, h4, h6, h7, h5⟩ := key
  refine ⟨_, h5, fun p e R s m args below meth c X rl H locs cells slots Q hP hk => ?_⟩
  obtain ⟨c1, c2, a, cell, c3, c4, c5, c6, c7, c8, c9⟩ := arr_at X.2.2.2.2.2.1 hP h4
  rw [List.map_cons, List.map_cons, c3]
  obtain ⟨rfl, a1, e1⟩ := okJ_e h7
  exact W.lald X.1 X.2.1 c4 c5 c6 (ix_in h6 c2 c7) (by rw [nI_clamp (by omega)]; exact c9 i h6) rfl rfl hd hk
theorem s_baload (hd : decode cc pc = .ok (.baload, 1)) : HS (rW cl fo zs rs ns Ts G l cc nL own ret ini fr lo n0) pc (pc + 1) (h_ald fo okB) := by
  apply s_rowH
  intro k0 ls st w n kk o e0
  obtain ⟨y, st', rfl, h1⟩ := rP_some e0
  obtain ⟨x, st2, rfl, h2⟩ := rP_some h1
  obtain ⟨i, rfl, h3⟩ := rI_some h2
  obtain ⟨r, rfl, h31⟩ := rR_some h3
  have key : ∃ t N d m, ((r % 2 = 1 ∧ wGet (r / 2) w = some (.inr (t, N, d, m))) ∨ (¬ r % 2 = 1 ∧ ¬ r = 0 ∧ fo[r / 2 - 1]? = some (.inr (t, N, d, m)))) ∧ i < N ∧ okB t (rL d m i) = true ∧ k0 ls (rL d m i :: st2) w n kk = some o := by
    rcases rOF_some h31 with ⟨a, x, f, h⟩ | ⟨a, b, x, f, h⟩
    · obtain ⟨t, N, d, m, rfl, h5⟩ := rCA_some h
      obtain ⟨h6, h7⟩ := rB_yes h5
      rw [rV_eq] at h7
      obtain ⟨h8, h9⟩ := rB_yes h7
      exact ⟨t, N, d, m, Or.inl ⟨a, f⟩, Nat.blt_eq.mp h6, h8, h9⟩
    · obtain ⟨t, N, d, m, rfl, h5⟩ := rCA_some h
      obtain ⟨h6, h7⟩ := rB_yes h5
      rw [rV_eq] at h7
      obtain ⟨h8, h9⟩ := rB_yes h7
      exact ⟨t, N, d, m, Or.inr ⟨a, b, f⟩, Nat.blt_eq.mp h6, h8, h9⟩
  obtain ⟨t, N, d, mm, h4, h6, h7, h5⟩ := key
  refine ⟨_, h5, fun p e R s m args below meth c X rl H locs cells slots Q hP hk => ?_⟩
  obtain ⟨c1, c2, a, cell, c3, c4, c5, c6, c7, c8, c9⟩ := arr_at X.2.2.2.2.2.1 hP h4
  rw [List.map_cons, List.map_cons, c3]
  rcases okB_e h7 with ⟨rfl, -⟩ | ⟨rfl, -⟩
  · exact W.bald X.1 X.2.1 c4 c5 c6 (ix_in h6 c2 c7) (by rw [nI_clamp (by omega)]; exact c9 i h6) rfl rfl hd hk
  · exact W.zald X.1 X.2.1 c4 c5 c6 (ix_in h6 c2 c7) (by rw [nI_clamp (by omega)]; exact c9 i h6) rfl rfl hd hk
theorem s_aaload (hd : decode cc pc = .ok (.aaload, 1)) : HS (rW cl fo zs rs ns Ts G l cc nL own ret ini fr lo n0) pc (pc + 1) (h_ald fo okA) := by
  apply s_rowH
  intro k0 ls st w n kk o e0
  obtain ⟨y, st', rfl, h1⟩ := rP_some e0
  obtain ⟨x, st2, rfl, h2⟩ := rP_some h1
  obtain ⟨i, rfl, h3⟩ := rI_some h2
  obtain ⟨r, rfl, h31⟩ := rR_some h3
  have key : ∃ t N d m, ((r % 2 = 1 ∧ wGet (r / 2) w = some (.inr (t, N, d, m))) ∨ (¬ r % 2 = 1 ∧ ¬ r = 0 ∧ fo[r / 2 - 1]? = some (.inr (t, N, d, m)))) ∧ i < N ∧ okA t (rL d m i) = true ∧ k0 ls (rL d m i :: st2) w n kk = some o := by
    rcases rOF_some h31 with ⟨a, x, f, h⟩ | ⟨a, b, x, f, h⟩
    · obtain ⟨t, N, d, m, rfl, h5⟩ := rCA_some h
      obtain ⟨h6, h7⟩ := rB_yes h5
      rw [rV_eq] at h7
      obtain ⟨h8, h9⟩ := rB_yes h7
      exact ⟨t, N, d, m, Or.inl ⟨a, f⟩, Nat.blt_eq.mp h6, h8, h9⟩
    · obtain ⟨t, N, d, m, rfl, h5⟩ := rCA_some h
      obtain ⟨h6, h7⟩ := rB_yes h5
      rw [rV_eq] at h7
      obtain ⟨h8, h9⟩ := rB_yes h7
      exact ⟨t, N, d, m, Or.inr ⟨a, b, f⟩, Nat.blt_eq.mp h6, h8, h9⟩
  obtain ⟨t, N, d, mm, h4, h6, h7, h5⟩ := key
  refine ⟨_, h5, fun p e R s m args below meth c X rl H locs cells slots Q hP hk => ?_⟩
  obtain ⟨c1, c2, a, cell, c3, c4, c5, c6, c7, c8, c9⟩ := arr_at X.2.2.2.2.2.1 hP h4
  rw [List.map_cons, List.map_cons, c3]
  obtain ⟨g1, a1, e1⟩ := okA_e h7
  exact W.aald X.1 X.2.1 c4 c5 (rTy_ref g1) c6 (ix_in h6 c2 c7) (by rw [nI_clamp (by omega)]; exact c9 i h6) rfl rfl hd hk
theorem s_iastore (hd : decode cc pc = .ok (.iastore, 1)) : HS (rW cl fo zs rs ns Ts G l cc nL own ret ini fr lo n0) pc (pc + 1) (h_ast okI) := by
  intro k0 ls st w n kk o e0
  obtain ⟨v, st0, rfl, h0⟩ := rP_some e0
  obtain ⟨y, st1, rfl, h1⟩ := rP_some h0
  obtain ⟨x, st2, rfl, h2⟩ := rP_some h1
  obtain ⟨i, rfl, h3⟩ := rI_some h2
  obtain ⟨r, rfl, h31⟩ := rR_some h3
  obtain ⟨q1, cell, hp, h⟩ := rO_some h31
  obtain ⟨t, N, d, mm, rfl, h5⟩ := rCA_some h
  obtain ⟨h7, h8⟩ := rB_yes h5
  obtain ⟨h6, h9⟩ := rB_yes h8
  have h6 : i < N := Nat.blt_eq.mp h6
  rw [rN_eq, rU_eq] at h9
  have h11 := rWS_some _ _ h9
  refine ⟨ls, st2, _, n, kk, h11, Nat.le_refl _, Nat.le_refl _, fun _ _ hV p e R s m args below meth c X r1 r2 r3 rl H locs hl hP hL => ?_⟩
  obtain ⟨c1, c2, c3⟩ := pic_cell hP hp
  rw [List.map_cons, List.map_cons, List.map_cons, rv_own G q1]
  obtain ⟨rfl, a, rfl⟩ := okI_e h7
  refine W.iast X.1 X.2.1 c3 (X.2.2.2.2.2.1.arr (t := 0) (by decide) N _) (fun q => by cases q) (ix_in h6 c2 (by rw [arrV_size]; exact Nat.le_refl _)) rfl rfl hd (fun H1 e1 z1 o1 => ?_)
  refine hV p e R s m args below meth c X r1 r2 r3 rl H1 _ hl (pic_set hP hp ⟨by decide, c2, ?_⟩ z1 o1) (locs_put hL)
  rw [e1, arrV_store, nI_clamp (by omega)]
  exact congrArg some (arr_up (v := .inl a) _)
theorem s_lastore (hd : decode cc pc = .ok (.lastore, 1)) : HS (rW cl fo zs rs ns Ts G l cc nL own ret ini fr lo n0) pc (pc + 1) (h_ast okJ) := by
  intro k0 ls st w n kk o e0
  obtain ⟨v, st0, rfl, h0⟩ := rP_some e0
  obtain ⟨y, st1, rfl, h1⟩ := rP_some h0
  obtain ⟨x, st2, rfl, h2⟩ := rP_some h1
  obtain ⟨i, rfl, h3⟩ := rI_some h2
  obtain ⟨r, rfl, h31⟩ := rR_some h3
  obtain ⟨q1, cell, hp, h⟩ := rO_some h31
  obtain ⟨t, N, d, mm, rfl, h5⟩ := rCA_some h
  obtain ⟨h7, h8⟩ := rB_yes h5
  obtain ⟨h6, h9⟩ := rB_yes h8
  have h6 : i < N := Nat.blt_eq.mp h6
  rw [rN_eq, rU_eq] at h9
  have h11 := rWS_some _ _ h9
  refine ⟨ls, st2, _, n, kk, h11, Nat.le_refl _, Nat.le_refl _, fun _ _ hV p e R s m args below meth c X r1 r2 r3 rl H locs hl hP hL => ?_⟩
  obtain ⟨c1, c2, c3⟩ := pic_cell hP hp
  rw [List.map_cons, List.map_cons, List.map_cons, rv_own G q1]
  obtain ⟨rfl, a, rfl⟩ := okJ_e h7
  refine W.last X.1 X.2.1 c3 (X.2.2.2.2.2.1.arr (t := 1) (by decide) N _) (fun q => by cases q) (ix_in h6 c2 (by rw [arrV_size]; exact Nat.le_refl _)) rfl rfl hd (fun H1 e1 z1 o1 => ?_)
  refine hV p e R s m args below meth c X r1 r2 r3 rl H1 _ hl (pic_set hP hp ⟨by decide, c2, ?_⟩ z1 o1) (locs_put hL)
  rw [e1, arrV_store, nI_clamp (by omega)]
  exact congrArg some (arr_up (v := .inr (.inl a)) _)
theorem s_bastore (hd : decode cc pc = .ok (.bastore, 1)) : HS (rW cl fo zs rs ns Ts G l cc nL own ret ini fr lo n0) pc (pc + 1) (h_ast okB) := by
  intro k0 ls st w n kk o e0
  obtain ⟨v, st0, rfl, h0⟩ := rP_some e0
  obtain ⟨y, st1, rfl, h1⟩ := rP_some h0
  obtain ⟨x, st2, rfl, h2⟩ := rP_some h1
  obtain ⟨i, rfl, h3⟩ := rI_some h2
  obtain ⟨r, rfl, h31⟩ := rR_some h3
  obtain ⟨q1, cell, hp, h⟩ := rO_some h31
  obtain ⟨t, N, d, mm, rfl, h5⟩ := rCA_some h
  obtain ⟨h7, h8⟩ := rB_yes h5
  obtain ⟨h6, h9⟩ := rB_yes h8
  have h6 : i < N := Nat.blt_eq.mp h6
  rw [rN_eq, rU_eq] at h9
  have h11 := rWS_some _ _ h9
  refine ⟨ls, st2, _, n, kk, h11, Nat.le_refl _, Nat.le_refl _, fun _ _ hV p e R s m args below meth c X r1 r2 r3 rl H locs hl hP hL => ?_⟩
  obtain ⟨c1, c2, c3⟩ := pic_cell hP hp
  rw [List.map_cons, List.map_cons, List.map_cons, rv_own G q1]
  rcases okB_e h7 with ⟨rfl, hz⟩ | ⟨rfl, hz⟩
  · obtain ⟨a, rfl, ha⟩ := isB_e hz
    refine W.bast X.1 X.2.1 c3 (X.2.2.2.2.2.1.arr (t := 2) (by decide) N _) (fun q => by cases q) (ix_in h6 c2 (by rw [arrV_size]; exact Nat.le_refl _)) rfl rfl hd (fun H1 e1 z1 o1 => ?_)
    refine hV p e R s m args below meth c X r1 r2 r3 rl H1 _ hl (pic_set hP hp ⟨by decide, c2, ?_⟩ z1 o1) (locs_put hL)
    rw [e1, ha, arrV_store, nI_clamp (by omega)]
    exact congrArg some (arr_up (v := .inl a) _)
  · obtain ⟨a, rfl, ha, -⟩ := isZ_e hz
    refine W.zast X.1 X.2.1 c3 (X.2.2.2.2.2.1.arr (t := 3) (by decide) N _) (fun q => by cases q) (ix_in h6 c2 (by rw [arrV_size]; exact Nat.le_refl _)) rfl rfl hd (fun H1 e1 z1 o1 => ?_)
    refine hV p e R s m args below meth c X r1 r2 r3 rl H1 _ hl (pic_set hP hp ⟨by decide, c2, ?_⟩ z1 o1) (locs_put hL)
    rw [e1, ha, arrV_store, nI_clamp (by omega)]
    exact congrArg some (arr_up (v := .inl a) _)
end RH
end
section
/-! THE RUNNER'S ROWS FOR OBJECTS, MAKING, ENDS -/
theorem rSum_eq (G : rGm) (h : ∀ i : Nat, G.2.2.2.1 i = .null ∨ ∃ a, G.2.2.2.1 i = .ref a) : ∀ st : List rCV, ((st.map (rv G)).map fun v => v.category).sum = rSum st
  | [] => rfl
  | v :: st => by
    rw [List.map_cons, List.map_cons, List.sum_cons, rSum_eq G h st, rv_cat G h]
    rfl
section RO
variable {cl : List vw_C} {fo : List rCC} {zs : List (String × String × String × rCV)} {rs : List (String × Nat × String × Nat)} {ns : List Cond} {Ts : List Cond} {G : rGm}
variable {l : Launch} {cc : ByteArray} {nL n0 : Nat} {own : String} {pc : Nat} {ret : Option FieldType} {ini : Bool} {fr lo : Nat}
theorem s_get {C ref : String} {T : u_T} {N ci index : Nat} (j : Nat) (hin : ∀ w ∈ u_ws C T N, w ∈ Ts) (hc : cl[ci]? = some (C, T, N)) (hj : j < N) (hlink : Cond.fieldLink own index ref (T j).2.1 (T j).2.2.1 ∈ Ts) (hsame : ref = (T j).1) (hd : decode cc pc = .ok (.getfield index, 3)) : HS (rW cl fo zs rs ns Ts G l cc nL own ret ini fr lo n0) pc (pc + 3) (h_get fo ci j) := by
  apply s_rowH
  intro k0 ls st w n kk o e0
  obtain ⟨x, st', rfl, h2⟩ := rP_some e0
  obtain ⟨r, rfl, h3⟩ := rR_some h2
  have fin : ∀ (ci' : Nat) (fs : List rCV), rB (Nat.beq ci' ci) (rG fs j (fun v => k0 ls (v :: st') w n kk)) none = some o → ci' = ci ∧ ∃ v, fs[j]? = some v ∧ k0 ls (v :: st') w n kk = some o := fun ci' fs h => by
    obtain ⟨h4, h5⟩ := rB_yes h
    obtain ⟨v, h6, h7⟩ := rG_some _ _ h5
    exact ⟨Nat.eq_of_beq_eq_true h4, v, h6, h7⟩
  rcases rOF_some h3 with ⟨a, x, f, h⟩ | ⟨a, b, x, f, h⟩
  · obtain ⟨ci', fs, rfl, h5⟩ := rCO_some h
    obtain ⟨rfl, v, h6, h7⟩ := fin ci' fs h5
    refine ⟨_, h7, fun p e R s m args below meth c X rl H locs cells slots Q hP hk => ?_⟩
    rw [List.map_cons, rv_own G a]
    have hc1 := pic_cell hP f
    have hP1 : va_P G.1 cl [(G.2.2.1 + r / 2, .inr (ci', fs.map (rv G)))] H := fun k9 q9 h9 => by
      have h0 : k9 < 1 := (List.getElem?_eq_some_iff.mp h9).1
      rw [show k9 = 0 by omega] at h9
      cases h9
      exact hc1
    exact va_get (D := G.1) (ci := ci') (v := rv G v) (C := C) (T := T) (N := N) X.1 X.2.1 X.2.2.2.2.1 hin X.2.2.2.1 X.2.2.2.2.2.1.1 hP1 0 rfl hc j hj (X.2.2.2.2.1 _ hlink) (fun _ h9 => by rw [hsame]; exact h9) (by rw [List.getElem?_map, h6]; rfl) hd hk
  · obtain ⟨ci', fs, rfl, h5⟩ := rCO_some h
    obtain ⟨rfl, v, h6, h7⟩ := fin ci' fs h5
    refine ⟨_, h7, fun p e R s m args below meth c X rl H locs cells slots Q hP hk => ?_⟩
    obtain ⟨q, cell, r0, g1, g2, g3, g4, g5, g6, g7⟩ := X.2.2.2.2.2.1.2.2.2.2.2 _ _ f
    have hr : r0 = (C, T, N) := Option.some.inj (g4.symm.trans hc)
    subst hr
    rw [List.map_cons, rv_ext G a b, g1]
    obtain ⟨hS, hfc, kC, hkC, hkind⟩ := X.2.2.2.2.2.1.1.1 ci' _ hc
    obtain ⟨cf, kf, fi, f9, hi, hsl⟩ := hS j hj
    refine W.getf X.1 X.2.1 X.2.2.2.1 (X.2.2.2.2.1 _ hlink) (by rw [hsame]; exact hi) (u_facts hfc hkC (u_lays X.2.2.2.2.1 hin hj) hi).1 (by rw [hP.2.1 q g2]; exact g3) (by rw [g6]; exact fun h => by cases h) (v := rv G v) ?_ rfl rfl hd hk
    rw [hsl]
    exact g7 j v h6
theorem s_put {C ref : String} {T : u_T} {N ci index : Nat} (ty0 : Nat → FieldType) (j : Nat) (ok : rCV → Bool) (hin : ∀ w ∈ u_ws C T N, w ∈ Ts) (hty : ∀ k, k < N → parseFieldDescriptor (T k).2.2.1 = some (ty0 k)) (hnm : ∀ a, a < N → ∀ b, b < N → a ≠ b → (T a).2.1 ≠ (T b).2.1) (hc : cl[ci]? = some (C, T, N)) (hj : j < N) (hlink : Cond.fieldLink own index ref (T j).2.1 (T j).2.2.1 ∈ Ts) (hsame : ref = (T j).1) (hfin : (T j).2.2.2 = false) (hok : (∀ i : Nat, G.2.2.2.1 i = .null ∨ ∃ a, G.2.2.2.1 i = .ref a) → ∀ v, ok v = true → narrow (ty0 j) (rv G v) = rv G v ∧ fits (ty0 j) (rv G v) = true) (hd : decode cc pc = .ok (.putfield index, 3)) : HS (rW cl fo zs rs ns Ts G l cc nL own ret ini fr lo n0) pc (pc + 3) (h_put ci j ok) := by
  intro k0 ls st w n kk o e0
  obtain ⟨v, st1, rfl, h1⟩ := rP_some e0
  obtain ⟨x, st2, rfl, h2⟩ := rP_some h1
  obtain ⟨h3, h4⟩ := rB_yes h2
  obtain ⟨r, rfl, h5⟩ := rR_some h4
  obtain ⟨q1, cell, hp, h⟩ := rO_some h5
  obtain ⟨ci', fs, rfl, h6⟩ := rCO_some h
  obtain ⟨h7, h8⟩ := rB_yes h6
  have e9 : ci' = ci := Nat.eq_of_beq_eq_true h7
  subst e9
  obtain ⟨h9, h10⟩ := rS_some _ _ _ h8
  have h12 := rWS_some _ _ h10
  refine ⟨ls, st2, _, n, kk, h12, Nat.le_refl _, Nat.le_refl _, fun _ _ hV p e R s m args below meth c X r1 r2 r3 rl H locs hl hP hL => ?_⟩
  have hK := X.2.2.2.2.2.1.1
  have hap := va_apart (own := own) X.2.2.2.2.1 hin ty0 hty hnm hK hc
  obtain ⟨r0, hr0, cell, d1, d2, d3, d4⟩ := pic_cell hP hp
  have hr : r0 = (C, T, N) := Option.some.inj (hr0.symm.trans hc)
  subst hr
  obtain ⟨hS, hfc, kC, hkC, hkind⟩ := hK.1 ci' _ hc
  obtain ⟨cf, kf, fi, f9, hi, hsl⟩ := hS j hj
  have hlay := X.2.2.2.2.1 _ (hin _ (u_in_lay hj))
  unfold u_lay at hlay
  rw [if_neg (by rw [hfin]; decide)] at hlay
  have hst := (u_facts hfc hkC (u_lays X.2.2.2.2.1 hin hj) hi).1
  have h6 := u_store hfc hkC hkind hlay hi (hty j hj) (hok X.2.2.2.2.2.1.2.2.1 v h3).1 (hok X.2.2.2.2.2.1.2.2.1 v h3).2
  rw [List.map_cons, List.map_cons, rv_own G q1]
  refine W.putK X.1 X.2.1 (f := f9) ⟨X.2.2.2.1, X.2.2.2.2.1 _ hlink, ⟨_, _, _, by rw [hsame]; exact hi⟩, hst⟩ (by rw [d2]; exact h6) d1 d3 (by rw [hsl]; exact k2_hasslot (d4 j hj)) rfl rfl hd fun H' e1 e2 e3 => ?_
  rw [hsl] at e1 ⊢
  refine hV p e R s m args below meth c X r1 r2 r3 rl H' _ hl (pic_set hP hp ⟨_, hc, t_OB.to (V := updV (vp_V (fs.map (rv G))) j (rv G v)) ⟨_, e1, d2, d3, t_set d4 hap hj (rv G v)⟩ (fun i9 _ => ?_)⟩ e2 e3) (locs_put hL)
  rw [List.map_set]
  exact vp_updV_set (by rw [List.length_map]; exact h9) (rv G v) i9
theorem s_putF {C ref : String} {T : u_T} {N ci index : Nat} (ty0 : Nat → FieldType) (j : Nat) (ok : rCV → Bool) (hin : ∀ w ∈ u_ws C T N, w ∈ Ts) (hty : ∀ k, k < N → parseFieldDescriptor (T k).2.2.1 = some (ty0 k)) (hnm : ∀ a, a < N → ∀ b, b < N → a ≠ b → (T a).2.1 ≠ (T b).2.1) (hc : cl[ci]? = some (C, T, N)) (hj : j < N) (hlink : Cond.fieldLink own index ref (T j).2.1 (T j).2.2.1 ∈ Ts) (hsame : ref = (T j).1) (hfin : (T j).2.2.2 = true) (hin2 : ini = true) (hdecl : (T j).1 = own) (hok : (∀ i : Nat, G.2.2.2.1 i = .null ∨ ∃ a, G.2.2.2.1 i = .ref a) → ∀ v, ok v = true → narrow (ty0 j) (rv G v) = rv G v ∧ fits (ty0 j) (rv G v) = true) (hd : decode cc pc = .ok (.putfield index, 3)) : HS (rW cl fo zs rs ns Ts G l cc nL own ret ini fr lo n0) pc (pc + 3) (h_put ci j ok) := by
  intro k0 ls st w n kk o e0
  obtain ⟨v, st1, rfl, h1⟩ := rP_some e0
  obtain ⟨x, st2, rfl, h2⟩ := rP_some h1
  obtain ⟨h3, h4⟩ := rB_yes h2
  obtain ⟨r, rfl, h5⟩ := rR_some h4
  obtain ⟨q1, cell, hp, h⟩ := rO_some h5
  obtain ⟨ci', fs, rfl, h6⟩ := rCO_some h
  obtain ⟨h7, h8⟩ := rB_yes h6
  have e9 : ci' = ci := Nat.eq_of_beq_eq_true h7
  subst e9
  obtain ⟨h9, h10⟩ := rS_some _ _ _ h8
  have h12 := rWS_some _ _ h10
  refine ⟨ls, st2, _, n, kk, h12, Nat.le_refl _, Nat.le_refl _, fun _ _ hV p e R s m args below meth c X r1 r2 r3 rl H locs hl hP hL => ?_⟩
  have hK := X.2.2.2.2.2.1.1
  have hap := va_apart (own := own) X.2.2.2.2.1 hin ty0 hty hnm hK hc
  obtain ⟨r0, hr0, cell, d1, d2, d3, d4⟩ := pic_cell hP hp
  have hr : r0 = (C, T, N) := Option.some.inj (hr0.symm.trans hc)
  subst hr
  obtain ⟨hS, hfc, kC, hkC, hkind⟩ := hK.1 ci' _ hc
  obtain ⟨cf, kf, fi, f9, hi, hsl⟩ := hS j hj
  have hlay := X.2.2.2.2.1 _ (hin _ (u_in_lay hj))
  unfold u_lay at hlay
  rw [if_pos hfin] at hlay
  have hst := (u_facts hfc hkC (u_lays X.2.2.2.2.1 hin hj) hi).1
  have hcf : m.cls = cf := by
    obtain ⟨_, _, c', _, _, _, -, -, hf', -, -, -, hown2, -⟩ := Cond.laysFinal_spec hlay
    have e1 : c' = cf := by have := hi.symm.trans hf'; simp at this; exact this.1.symm
    rw [hdecl] at hown2
    rw [← e1]; exact Option.some.inj (X.2.2.2.1.symm.trans hown2)
  have h6 := u_fits hfc hkC hkind (Or.inr hlay) hi (hty j hj) (hok X.2.2.2.2.2.1.2.2.1 v h3).1 (hok X.2.2.2.2.2.1.2.2.1 v h3).2
  rw [List.map_cons, List.map_cons, rv_own G q1]
  refine W.putFinK X.1 X.2.1 X.2.2.2.1 (X.2.2.2.2.1 _ hlink) (by rw [hsame]; exact hi) hst hcf (X.2.2.2.2.2.2.2.2.2.1 hin2) (by rw [d2]; exact h6) d1 d3 (by rw [hsl]; exact k2_hasslot (d4 j hj)) rfl rfl hd fun H' e1 e2 e3 => ?_
  rw [hsl] at e1 ⊢
  refine hV p e R s m args below meth c X r1 r2 r3 rl H' _ hl (pic_set hP hp ⟨_, hc, t_OB.to (V := updV (vp_V (fs.map (rv G))) j (rv G v)) ⟨_, e1, d2, d3, t_set d4 hap hj (rv G v)⟩ (fun i9 _ => ?_)⟩ e2 e3) (locs_put hL)
  rw [List.map_set]
  exact vp_updV_set (by rw [List.length_map]; exact h9) (rv G v) i9
theorem s_new {C : String} {T : u_T} {N ci index : Nat} {fs : List rCV} (ty0 : Nat → FieldType) (hin : ∀ w ∈ u_ws C T N, w ∈ Ts) (hty : ∀ k, k < N → parseFieldDescriptor (T k).2.2.1 = some (ty0 k)) (hc : cl[ci]? = some (C, T, N)) (hlink : Cond.classLink own index C ∈ Ts) (hinst : Cond.instantiable C N ∈ Ts) (hini : Cond.initialized C ∈ Ts) (hfs : (List.range N).map (fun j => defaultValue (ty0 j)) = fs.map (fun v => match v with | .inl a => .int (nI a) | .inr (.inl a) => .long (lN a) | .inr (.inr _) => .null)) (hz : fs.all (fun v => match v with | .inr (.inr (_ + 1)) => false | _ => true) = true) (hd : decode cc pc = .ok (.new index, 3)) : HS (rW cl fo zs rs ns Ts G l cc nL own ret ini fr lo n0) pc (pc + 3) (h_new ci N fs) := by
  intro k0 ls st w n kk o e0
  have e0 : rN (Nat.add kk N) _ = some o := e0
  rw [rN_eq, rN_eq, rN_eq] at e0
  refine ⟨_, _, _, _, _, e0, Nat.le_succ _, Nat.le_add_right _ _, fun ho1 ho2 hV p e R s m args below meth c X r1 r2 r3 rl H locs hl hP hL => ?_⟩
  have hKn := X.2.2.2.2.2.1.1.1 ci _ hc
  have ho1' : n + 1 ≤ o.2.2.1 := ho1
  have ho2' : kk + N ≤ o.2.2.2 := ho2
  refine W.newcK X.1 X.2.1 X.2.2.2.1 (X.2.2.2.2.1 _ hlink) (X.2.2.2.2.1 _ hinst) (X.2.2.2.2.1 _ hini) rfl hd (by omega) (by omega) hKn.2.1 rfl fun H1 kC hkC e1 z1 o1 => ?_
  have hb := u_born ty0 X.2.2.2.2.1 hin hKn hkC e1 hty
  have hrv : fs.map (rv G) = (List.range N).map (fun j => defaultValue (ty0 j)) := by
    rw [hfs]
    apply List.map_congr_left
    intro v hv
    have := List.all_eq_true.mp hz v hv
    rcases v with a | a | a
    · rfl
    · rfl
    · cases a with
      | zero => rfl
      | succ a => cases this
  have hpic : rPic cl G ((n, .inl (ci, fs)) :: w) (n + 1) H1 := pic_push hP ⟨_, hc, hb.to (fun i9 h9 => by
    rw [hrv]
    show _ = ((List.range N).map (fun j => defaultValue (ty0 j))).getD i9 .null
    rw [List.getD_eq_getElem?_getD, List.getElem?_map, List.getElem?_range h9]
    rfl)⟩ z1 o1
  have hV' := hV p e R s m args below meth c X r1 r2 (by omega) rl H1 locs hl hpic hL
  rw [List.map_cons, rv_own G (by show (2 * n + 1) % 2 = 1; omega), show G.2.2.1 + Nat.succ (Nat.mul 2 n) / 2 = H.size by rw [hP.1]; show _ + (2 * n + 1) / 2 = _; omega] at hV'
  rw [show n - n0 + 1 = Nat.succ n - n0 by omega]
  exact hV'
theorem s_newa {at' : ArrayType} (t : Nat) (dv : rCV) (ht : t < 7) (hat : newarray.typeOf at' = rTy t) (hdv : rv G dv = defaultValue (rTy t)) (hpr : ∀ U : State, ∀ cA : ClassId, va_RA U cA (rTy t) → U.vm.findClass ("[" ++ (rTy t).toString) = some cA) (hb8 : componentBytes (rTy t) ≤ 8) (hw : Cond.arrayClass (rTy t) ∈ Ts) (hd : decode cc pc = .ok (.newarray at', 2)) : HS (rW cl fo zs rs ns Ts G l cc nL own ret ini fr lo n0) pc (pc + 2) (h_newa t dv) := by
  intro k0 ls st w n kk o e0
  obtain ⟨x, st', rfl, h2⟩ := rP_some e0
  obtain ⟨N, rfl, h3⟩ := rI_some h2
  obtain ⟨h4, h5⟩ := rB_yes h3
  have hN : N ≤ 60000000 := Nat.ble_eq.mp h4
  rw [rN_eq, rN_eq, rN_eq] at h5
  refine ⟨_, _, _, _, _, h5, Nat.le_succ _, Nat.le_add_right _ _, fun ho1 ho2 hV p e R s m args below meth c X r1 r2 r3 rl H locs hl hP hL => ?_⟩
  have ho1' : n + 1 ≤ o.2.2.1 := ho1
  have ho2' : kk + N ≤ o.2.2.2 := ho2
  have hbt : N * componentBytes (rTy t) ≤ 536870912 := Nat.le_trans (Nat.mul_le_mul_left N hb8) (by omega)
  refine va_newaK X.1 X.2.1 (by rw [hat]; exact X.2.2.2.2.1 _ hw) rfl hd rfl (nI_pos (by omega)) (nI_clamp (by omega)) (by rw [hat]; exact hbt) (by omega) (by omega) rfl fun H1 cA e1 z1 o1 hAr hNm => ?_
  rw [hat] at e1 hAr hNm
  have hcA : cA = G.2.1 t := Option.some.inj (hNm.symm.trans (hpr s _ (X.2.2.2.2.2.1.1.2 t _ (rTys_at ht)).2))
  subst hcA
  have hpic : rPic cl G ((n, .inr (t, N, dv, [])) :: w) (n + 1) H1 := pic_push hP ⟨ht, hN, by
    rw [e1]
    refine congrArg some (congrArg (arrV _ N) (funext fun j => ?_))
    rw [rL_eq]
    exact hdv.symm⟩ z1 o1
  have hV' := hV p e R s m args below meth c X r1 r2 (by omega) rl H1 locs hl hpic hL
  rw [List.map_cons, rv_own G (by show (2 * n + 1) % 2 = 1; omega), show G.2.2.1 + Nat.succ (Nat.mul 2 n) / 2 = H.size by rw [hP.1]; show _ + (2 * n + 1) / 2 = _; omega] at hV'
  rw [show n - n0 + 1 = Nat.succ n - n0 by omega]
  exact hV'
theorem s_oinit {ix : Nat} (h1 : Cond.methodLink own ix Lib.objectInit ∈ Ts) (h2 : Cond.instanceMethod Lib.objectInit ∈ Ts) (h3 : Cond.code Lib.objectInit ⟨#[0xb1]⟩ 1 none ∈ Ts) (hR1 : 1 ≤ fr) (hR2 : 20 ≤ lo) (hd : decode cc pc = .ok (.invokespecial ix, 3)) : HS (rW cl fo zs rs ns Ts G l cc nL own ret ini fr lo n0) pc (pc + 3) h_oinit := by
  apply s_row
  intro k0 ls st w n kk o e0
  obtain ⟨x, st', rfl, h4⟩ := rP_some e0
  obtain ⟨r, rfl, h5⟩ := rR_some h4
  obtain ⟨h6, h7⟩ := rB_yes h5
  obtain ⟨h8, h9⟩ := rB_yes h7
  refine ⟨_, h9, fun p e R s m args below meth c X rl H locs cells slots Q hl hk => ?_⟩
  rw [List.map_cons, rv_own G (Nat.eq_of_beq_eq_true h6)]
  refine W.objInit X.1 X.2.1 X.2.2.2.1 (X.2.2.2.2.1 _ h1) (X.2.2.2.2.1 _ h2) (X.2.2.2.2.1 _ h3) rfl (by rw [X.2.2.1]; exact hl.1) rfl hd (by rw [X.2.2.2.2.2.2.2.2.2.2.1]; exact hR1) ?_ hk
  have := rSum_eq G X.2.2.2.2.2.1.2.2.1 st'
  have h8' : rSum st' ≤ 8 := Nat.ble_eq.mp h8
  have hlo := X.2.2.2.2.2.2.2.2.2.2.2
  show 2 * 0 + _ + 12 ≤ _
  omega
theorem s_gets (v : rCV) {C n d ref : String} {ix : Nat} (hz : (C, n, d, v) ∈ zs) (hlink : Cond.fieldLink own ix ref n d ∈ Ts) (hsame : ref = C) (hd : decode cc pc = .ok (.getstatic ix, 3)) : HS (rW cl fo zs rs ns Ts G l cc nL own ret ini fr lo n0) pc (pc + 3) (h_v v) := by
  apply s_rowH
  intro k0 ls st w n9 kk o e0
  refine ⟨_, e0, fun p e R s m args below meth c X rl H locs cells slots Q hP hk => ?_⟩
  obtain ⟨cf, kf, fi, f, a, cell, g1, g2, g3, g4, g5, g6, g7, g8⟩ := X.2.2.2.2.2.1.2.2.2.1 _ hz
  have ha : a < G.2.2.1 := by
    rw [← X.2.2.2.2.2.1.2.1.1]
    exact (Array.getElem?_eq_some_iff.mp g5).1
  exact W.gets X.1 X.2.1 X.2.2.2.1 (X.2.2.2.2.1 _ hlink) (by rw [hsame]; exact g1) g2 g3 g4 (by rw [hP.2.1 a ha]; exact g5) (fun q => by rw [q] at g6; cases g6) g7 rfl hd hk
-- ends
theorem s_ret (hr : ret = none) {pcs : List Nat} (hd : decode cc pc = .ok (.return_, 1)) : BS (rW cl fo zs rs ns Ts G l cc nL own ret ini fr lo n0) pcs pc t_ret := by
  intro J hJ ls st w n k o e0
  cases st with
  | cons v st => cases e0
  | nil =>
    cases e0
    refine ⟨⟨Nat.le_refl _, Nat.le_refl _⟩, fun p e R s m args below meth c X r1 r2 r3 rl H locs hl hP hL => ?_⟩
    exact W.vret X.1 X.2.1 (X.2.2.2.2.2.2.2.2.1.trans hr) (fun t ht hW => ⟨rfl, by rw [ht]; exact hP, X.2.2.2.2.2.1.warm hW⟩) hL hd X.2.2.2.2.2.2.1
theorem retv_e {ok : rCV → Bool} {J : Nat → rK} {ls : rLs} {st : List rCV} {w : rWd} {n k : Nat} {o : rOut} (h : t_retv ok J ls st w n k = some o) : ∃ v, st = [v] ∧ ok v = true ∧ o = (some v, w, n, k) := by
  obtain ⟨v, st', rfl, h1⟩ := rP_some h
  obtain ⟨h2, h3⟩ := rB_yes h1
  cases st' with
  | cons v st => cases h3
  | nil => cases h3; exact ⟨v, rfl, h2, rfl⟩
theorem s_reti (ok : rCV → Bool) {ty : FieldType} (hr : ret = some ty) (hok : ∀ v, ok v = true → ∃ a, v = .inl a ∧ narrow ty (.int (nI a)) = .int (nI a)) {pcs : List Nat} (hd : decode cc pc = .ok (.ireturn, 1)) : BS (rW cl fo zs rs ns Ts G l cc nL own ret ini fr lo n0) pcs pc (t_retv ok) := by
  intro J hJ ls st w n k o e0
  obtain ⟨v, rfl, h1, rfl⟩ := retv_e e0
  obtain ⟨a, rfl, h2⟩ := hok v h1
  refine ⟨⟨Nat.le_refl _, Nat.le_refl _⟩, fun p e R s m args below meth c X r1 r2 r3 rl H locs hl hP hL => ?_⟩
  exact W.zret X.1 X.2.1 (X.2.2.2.2.2.2.2.2.1.trans hr) h2 (fun t ht hW => ⟨rfl, by rw [ht]; exact hP, X.2.2.2.2.2.1.warm hW⟩) hL hd X.2.2.2.2.2.2.1
theorem s_retl (hr : ret = some .long) {pcs : List Nat} (hd : decode cc pc = .ok (.lreturn, 1)) : BS (rW cl fo zs rs ns Ts G l cc nL own ret ini fr lo n0) pcs pc (t_retv isJ) := by
  intro J hJ ls st w n k o e0
  obtain ⟨v, rfl, h1, rfl⟩ := retv_e e0
  obtain ⟨a, rfl⟩ := isJ_e h1
  refine ⟨⟨Nat.le_refl _, Nat.le_refl _⟩, fun p e R s m args below meth c X r1 r2 r3 rl H locs hl hP hL => ?_⟩
  exact W.lret X.1 X.2.1 (X.2.2.2.2.2.2.2.2.1.trans hr) (fun t ht hW => ⟨rfl, by rw [ht]; exact hP, X.2.2.2.2.2.1.warm hW⟩) hL hd X.2.2.2.2.2.2.1
theorem s_reta {ty : FieldType} (hr : ret = some ty) (hrt : (∃ n, ty = .object n) ∨ ∃ t, ty = .array t) {pcs : List Nat} (hd : decode cc pc = .ok (.areturn, 1)) : BS (rW cl fo zs rs ns Ts G l cc nL own ret ini fr lo n0) pcs pc (t_retv isR) := by
  intro J hJ ls st w n k o e0
  obtain ⟨v, rfl, h1, rfl⟩ := retv_e e0
  obtain ⟨a, rfl⟩ := isR_e h1
  refine ⟨⟨Nat.le_refl _, Nat.le_refl _⟩, fun p e R s m args below meth c X r1 r2 r3 rl H locs hl hP hL => ?_⟩
  exact W.aret X.1 X.2.1 (X.2.2.2.2.2.2.2.2.1.trans hr) hrt (rv_r G X.2.2.2.2.2.1.2.2.1 a) (fun t ht hW => ⟨rfl, by rw [ht]; exact hP, X.2.2.2.2.2.1.warm hW⟩) hL hd X.2.2.2.2.2.2.1
end RO
end
section
/-! METHODS AND CALLS -/
section RM
variable {cl : List vw_C} {fo : List rCC} {zs : List (String × String × String × rCV)} {rs : List (String × Nat × String × Nat)} {ns : List Cond} {Ts : List Cond} {G : rGm} {l : Launch}
/-- the method does what F computes -/
def rMet (cl : List vw_C) (fo : List rCC) (zs : List (String × String × String × rCV)) (rs : List (String × Nat × String × Nat)) (ns : List Cond) (Ts : List Cond) (l : Launch) (y : MethodName) (bytes : ByteArray) (maxL : Nat) (ret : Option FieldType) (fr lo : Nat) (F : rEv) : Prop :=
  ∀ (G : rGm) (as : List rCV) (w : rWd) (n : Nat) (o : rOut), F as w n = some o → n ≤ o.2.2.1 ∧
    Met l y (.code y bytes maxL ret :: Ts) { frames := fr, cells := o.2.2.1 - n, slots := o.2.2.2, locals := lo } (va_Pc (as.map (rv G)) (fun U => rPic cl G w n U.heap ∧ rKK cl fo zs rs ns G U)) (rQ cl fo zs rs ns G o) (o.2.2.1 - n) o.2.2.2 (fun q => G.2.2.1 ≤ q)
theorem rKK.same {u U : State} (hv : U.vm = u.vm) (h : rKK cl fo zs rs ns G u) : rKK cl fo zs rs ns G U := h.warm (by rw [hv]; exact State.WarmedH.refl u)
theorem rBlind (as : List Value) (w : rWd) (n : Nat) : FrameBlind (va_Pc as (fun U => rPic cl G w n U.heap ∧ rKK cl fo zs rs ns G U)) := fun a U g mk q => ⟨q.1, q.2.1, rKK.same (u := U) rfl q.2.2⟩
theorem rIni_go (hx : ∀ i : Nat, G.2.2.2.1 i = .null ∨ ∃ a, G.2.2.2.1 i = .ref a) {nL : Nat} {o : rOut} : ∀ (as : List rCV) (pos : Nat) (k : rLs → Option rOut), (List.rec (motive := fun _ => Nat → (rLs → Option rOut) → Option rOut) (fun pos k => rB (Nat.ble pos nL) (k []) none) (fun v _ ih pos k => rB (rLong v) (ih (Nat.succ (Nat.succ pos)) (fun l => k ((pos, v) :: l))) (ih (Nat.succ pos) (fun l => k ((pos, v) :: l)))) as pos k) = some o → ∃ ls, k ls = some o ∧ ls.map (rLv G) = lv_args pos (as.map (rv G)) ∧ pos + (lg_sl (as.map (rv G))).length ≤ nL := by
  intro as
  induction as with
  | nil =>
    intro pos k h
    obtain ⟨h1, h2⟩ := rB_yes (b := Nat.ble pos nL) (x := k []) h
    exact ⟨[], h2, rfl, Nat.ble_eq.mp h1⟩
  | cons v as ih =>
    intro pos k h
    rcases rB_some (b := rLong v) h with ⟨h1, h2⟩ | ⟨h1, h2⟩
    · obtain ⟨ls, g1, g2, g3⟩ := ih _ _ h2
      refine ⟨_, g1, ?_, ?_⟩
      · rw [List.map_cons, g2, List.map_cons]
        show _ = (pos, rv G v) :: lv_args (if (rv G v).category = 2 then pos + 2 else pos + 1) _
        rw [if_pos (rv_cat2 G h1)]
        rfl
      · rw [List.map_cons]
        show pos + (lg_sl (rv G v :: as.map (rv G))).length ≤ nL
        unfold lg_sl at g3 ⊢
        rw [List.flatMap_cons, if_pos (rv_cat2 G h1), List.length_append]
        have : pos.succ.succ = pos + 2 := rfl
        simp only [List.length_cons, List.length_nil] at g3 ⊢
        omega
    · obtain ⟨ls, g1, g2, g3⟩ := ih _ _ h2
      have hc : ¬ (rv G v).category = 2 := by rw [rv_cat1 G hx h1]; decide
      refine ⟨_, g1, ?_, ?_⟩
      · rw [List.map_cons, g2, List.map_cons]
        show _ = (pos, rv G v) :: lv_args (if (rv G v).category = 2 then pos + 2 else pos + 1) _
        rw [if_neg hc]
        rfl
      · rw [List.map_cons]
        show pos + (lg_sl (rv G v :: as.map (rv G))).length ≤ nL
        unfold lg_sl at g3 ⊢
        rw [List.flatMap_cons, if_neg hc, List.length_append]
        simp only [List.length_cons, List.length_nil] at g3 ⊢
        omega
theorem rIni_k {nL : Nat} {o : rOut} : ∀ (as : List rCV) (pos : Nat) (k : rLs → Option rOut), (List.rec (motive := fun _ => Nat → (rLs → Option rOut) → Option rOut) (fun pos k => rB (Nat.ble pos nL) (k []) none) (fun v _ ih pos k => rB (rLong v) (ih (Nat.succ (Nat.succ pos)) (fun l => k ((pos, v) :: l))) (ih (Nat.succ pos) (fun l => k ((pos, v) :: l)))) as pos k) = some o → ∃ ls, k ls = some o := by
  intro as
  induction as with
  | nil =>
    intro pos k h
    obtain ⟨h1, h2⟩ := rB_yes (b := Nat.ble pos nL) (x := k []) h
    exact ⟨[], h2⟩
  | cons v as ih =>
    intro pos k h
    rcases rB_some (b := rLong v) h with ⟨h1, h2⟩ | ⟨h1, h2⟩
    · obtain ⟨ls, g1⟩ := ih _ _ h2
      exact ⟨_, g1⟩
    · obtain ⟨ls, g1⟩ := ih _ _ h2
      exact ⟨_, g1⟩
/-- a method whose blocks are proved -/
theorem met_of {y : MethodName} {bytes : ByteArray} {maxL : Nat} {ret : Option FieldType} {fr lo fuel : Nat} {bs : List rBl} {pcs : List Nat} (hy : plainName y.cls = true) (hps : pcs[0]? = some 0)
    (hbody : ∀ (G : rGm) (n0 : Nat), AllB (rW cl fo zs rs ns Ts G l bytes maxL y.cls ret (decide (y.name = "<init>")) fr lo n0) pcs pcs bs) : rMet cl fo zs rs ns Ts l y bytes maxL ret fr lo (fun as w n => rIni maxL as (fun ls => rRun bs fuel 0 ls [] w n 0)) := by
  intro G as w n o e0
  obtain ⟨ls0, hls0⟩ := rIni_k as 0 _ e0
  obtain ⟨⟨a1, a2⟩, -⟩ := run_ok (hbody G n) fuel 0 0 hps ls0 [] w n 0 o hls0
  refine ⟨a1, ?_⟩
  refine Met.ofW (cc := bytes) (maxL := maxL) (ret := ret) hy rfl ?_
  intro p e s m args below meth c s₁ B hml hv
  obtain ⟨rfl, hP, hKK⟩ := hv
  have hts := atoms_spec (ws := .code y bytes maxL ret :: Ts) B.pre
  obtain ⟨ls, h1, h2, h3⟩ := rIni_go (G := G) hKK.2.2.1 as 0 _ e0
  obtain ⟨-, hV⟩ := run_ok (hbody G n) fuel 0 0 hps ls [] w n 0 o h1
  rw [Nat.zero_add] at h3
  have hl := lv_entry (as.map (rv G)) (n := maxL) h3
  rw [lg_entry_eq]
  rw [← h2] at hl
  have hW := hV p e { frames := fr, cells := o.2.2.1 - n, slots := o.2.2.2, locals := lo } s m (as.map (rv G)).toArray below meth c ⟨B.exec, B.bytes, hml, findClass_of_methodNamed B.named, fun q hq => hts q (List.mem_cons_of_mem _ hq), hKK, B.notSynchronized, by rw [hP.1]; exact Nat.le_add_right _ _, B.returns, fun hi => by rw [(name_of_methodNamed B.named B.method).1]; exact of_decide_eq_true hi, rfl, rfl⟩ (Nat.le_refl _) (Nat.le_refl _) (Nat.le_refl _) _ s.heap [] hl hP (fun x hx => by cases hx)
  rw [Nat.sub_self] at hW
  exact hW
theorem rArg_go {o : rOut} {k : List rCV → List rCV → Option rOut} : ∀ (m : Nat) (as st : List rCV), (Nat.rec (motive := fun _ => List rCV → List rCV → Option rOut) (fun as st => k as st) (fun _ ih as st => rP st (fun v st => ih (v :: as) st)) m as st) = some o → ∃ bs st', st = bs.reverse ++ st' ∧ bs.length = m ∧ k (bs ++ as) st' = some o := by
  intro m
  induction m with
  | zero => intro as st h; exact ⟨[], st, rfl, rfl, h⟩
  | succ m ih =>
    intro as st h
    obtain ⟨v, st', rfl, h2⟩ := rP_some (st := st) h
    obtain ⟨bs, st2, h3, h4, h5⟩ := ih (v :: as) st' h2
    refine ⟨bs ++ [v], st2, ?_, ?_, ?_⟩
    · rw [h3, List.reverse_append]; rfl
    · rw [List.length_append, h4]; rfl
    · rw [List.append_assoc]; exact h5
theorem rArg_some {m : Nat} {st : List rCV} {o : rOut} {k : List rCV → List rCV → Option rOut} (h : rArg m st k = some o) : ∃ as st', st = as.reverse ++ st' ∧ as.length = m ∧ k as st' = some o := by
  obtain ⟨bs, st', h1, h2, h3⟩ := rArg_go m [] st h
  rw [List.append_nil] at h3
  exact ⟨bs, st', h1, h2, h3⟩
theorem rRes_some {β : Type} {r : Option rOut} {k : Option rCV → rWd → Nat → Nat → Option β} {o : β} (h : rRes r k = some o) : ∃ q : rOut, r = some q ∧ k q.1 q.2.1 q.2.2.1 q.2.2.2 = some o := by
  cases r with
  | none => cases h
  | some q => obtain ⟨v, w, n, c⟩ := q; exact ⟨_, rfl, h⟩
/-- what a call computes -/
theorem call_some {nargs : Nat} {ok : List rCV → rWd → Nat → Option Unit} {F : rEv} {k : rK} {ls : rLs} {st : List rCV} {w : rWd} {n c : Nat} {o : rOut} (h : h_call nargs ok F k ls st w n c = some o) : ∃ as st' q, st = as.reverse ++ st' ∧ as.length = nargs ∧ rSum st' ≤ 8 ∧ (ok as w n = some ()) ∧ F as w n = some q ∧ k ls (q.1.toList ++ st') q.2.1 q.2.2.1 (c + q.2.2.2) = some o := by
  obtain ⟨as, st', h1, h2, h3⟩ := rArg_some h
  obtain ⟨h4, h5⟩ := rB_yes h3
  cases e : ok as w n with
  | none => rw [e] at h5; cases h5
  | some u =>
    rw [e] at h5
    obtain ⟨q, h6, h7⟩ := rRes_some h5
    rw [rN_eq] at h7
    refine ⟨as, st', q, h1, h2, Nat.ble_eq.mp h4, e, h6, ?_⟩
    cases e2 : q.1 with
    | none => rw [e2] at h7; exact h7
    | some v => rw [e2] at h7; exact h7
theorem map_opt (f : rCV → Value) (v : Option rCV) (st : List rCV) : (v.map f).toList ++ st.map f = (v.toList ++ st).map f := by
  cases v <;> rfl
variable {cc : ByteArray} {nL n0 : Nat} {own : String} {pc : Nat} {ret : Option FieldType} {ini : Bool} {fr lo : Nat}
/-- a call, from what the kit's rows of calls give -/
theorem s_call {nargs : Nat} {ok : List rCV → rWd → Nat → Option Unit} {F : rEv} {y : MethodName} {bytes : ByteArray} {maxL : Nat} {rt : Option FieldType} {fr' lo' : Nat} (hM : rMet cl fo zs rs ns Ts l y bytes maxL rt fr' lo' F)
    (hrun : ∀ (as st' : List rCV) (w : rWd) (n kk : Nat) (q : rOut), as.length = nargs → rSum st' ≤ 8 → ok as w n = some () → F as w n = some q → ∀ (p : Program) (e : Env) (R : Room) (s : State) (m : MethodId) (args : Array Value) (below : List Frame) (meth : Method) (c : Code), rCx cl fo zs rs ns Ts G p R s m args meth c cc nL own ret ini fr lo → ∀ (rl : Array Slot) (H : Heap) (locs : List Loc) (cells slots : Nat), rl.size = nL → rPic cl G w n H → cells + (q.2.2.1 - n) ≤ R.cells → slots + q.2.2.2 ≤ R.slots →
      Met l y (.code y bytes maxL rt :: Ts) { frames := fr', cells := q.2.2.1 - n, slots := q.2.2.2, locals := lo' } (va_Pc (as.map (rv G)) (fun U => rPic cl G w n U.heap ∧ rKK cl fo zs rs ns G U)) (rQ cl fo zs rs ns G q) (q.2.2.1 - n) q.2.2.2 (fun a => G.2.2.1 ≤ a) →
      va_Run p l e R s m args below meth c H locs cells slots (q.2.2.1 - n) q.2.2.2 (F0 m pc rl ((as.reverse ++ st').map (rv G))) (st'.map (rv G)) (rQ cl fo zs rs ns G q (as.map (rv G)).toArray) (fun a => G.2.2.1 ≤ a)) :
    HS (rW cl fo zs rs ns Ts G l cc nL own ret ini fr lo n0) pc (pc + 3) (h_call nargs ok F) := by
  intro k ls st w n kk o e0
  obtain ⟨as, st', q, rfl, h2, h3, h4, h5, h6⟩ := call_some e0
  obtain ⟨b1, hMet⟩ := hM G as w n q h5
  refine ⟨_, _, _, _, _, h6, b1, Nat.le_add_right _ _, fun ho1 ho2 hV p e R s m args below meth c X r1 r2 r3 rl H locs hl hP hL => ?_⟩
  have hr := hrun as st' w n kk q h2 h3 h4 h5 p e R s m args below meth c X rl H locs (n - n0) kk hl.1 hP (by omega) (by omega) hMet
  intro T hT Xs
  obtain ⟨v, st₀, t, T', L, k0, X', hL', e1, e2, ⟨g1, g2, g3⟩, st⟩ := hr T hT Xs
  cases g1
  have hW := hV p e R s m args below meth c X r1 r2 (by omega) rl T'.heap (locs ++ L) hl (by rw [e1]; exact g2) (fun x hx => by
    rcases List.mem_append.mp hx with z | z
    · exact hL x z
    · exact hL' x z)
  rw [show q.2.2.1 - n0 = n - n0 + (q.2.2.1 - n) by omega] at hW
  obtain ⟨t2, a1, b3⟩ := hW T' rfl X'
  rw [map_opt] at st
  exact ⟨t2, st t2 a1, b3⟩
theorem good_in {ws : List Cond} (hg : ∀ w ∈ Ts, goodWord w = true) (h : ∀ w ∈ ws, w ∈ Ts) : GoodIn Ts ws := fun w hw => ⟨h w hw, good_of_word (hg w (h w hw))⟩
/-- the receiver's cell -/
theorem recv_some {ci : Nat} {as : List rCV} {w : rWd} {n : Nat} (h : rRecv fo ci as w n = some ()) {s : State} {H : Heap} (hK : rKK cl fo zs rs ns G s) (hP : rPic cl G w n H) {C : String} {T : u_T} {N : Nat} (hc : cl[ci]? = some (C, T, N)) : ∃ (v : rCV) (as' : List rCV) (b : Nat), as = v :: as' ∧ rv G v = .ref b ∧ ∃ cellB : Cell, H[b]? = some cellB ∧ cellB.vm.isStatics = false ∧ s.vm.findClass C = some cellB.cls := by
  obtain ⟨v, as', rfl, h1⟩ := rP_some h
  obtain ⟨r, rfl, h2⟩ := rR_some h1
  rcases rOF_some h2 with ⟨a, x, f, h3⟩ | ⟨a, b, x, f, h3⟩
  · obtain ⟨ci', fs, rfl, h4⟩ := rCO_some h3
    obtain ⟨h5, -⟩ := rB_yes h4
    have e1 : ci' = ci := Nat.eq_of_beq_eq_true h5
    subst e1
    obtain ⟨r0, hr0, cell, d1, d2, d3, d4⟩ := pic_cell hP f
    exact ⟨_, _, _, rfl, rv_own G a, cell, d1, by rw [d3]; rfl, by rw [d2]; exact (hK.1.1 ci' _ hc).2.1⟩
  · obtain ⟨ci', fs, rfl, h4⟩ := rCO_some h3
    obtain ⟨h5, -⟩ := rB_yes h4
    have e1 : ci' = ci := Nat.eq_of_beq_eq_true h5
    subst e1
    obtain ⟨q, cell, r0, g1, g2, g3, g4, g5, g6, g7⟩ := hK.2.2.2.2.2 _ _ f
    exact ⟨_, _, q, rfl, by rw [rv_ext G a b, g1], cell, by rw [hP.2.1 q g2]; exact g3, by rw [g6]; rfl, by rw [g5]; exact (hK.1.1 ci' _ hc).2.1⟩
theorem s_callV {F : rEv} {y : MethodName} {bytes : ByteArray} {maxL : Nat} {rt : Option FieldType} {fr' lo' ix : Nat} (na ci : Nat) {C : String} {T : u_T} {N : Nat} (hc : cl[ci]? = some (C, T, N)) (hM : rMet cl fo zs rs ns Ts l y bytes maxL rt fr' lo' F) (hg : ∀ w ∈ Ts, goodWord w = true)
    (w1 : Cond.methodLink own ix y ∈ Ts) (w2 : Cond.instanceMethod y ∈ Ts) (w3 : Cond.selects C y y ∈ Ts) (w4 : Cond.initialized C ∈ Ts) (w5 : Cond.code y bytes maxL rt ∈ Ts) (hd0 : y.cls = C ∧ y.cls ≠ "java/lang/invoke/MethodHandle" ∧ y.cls ≠ "java/lang/invoke/VarHandle" ∧ (parseMethodDescriptor y.desc).map (fun d => d.parameters.length) = some na) (hf : fr' + 1 ≤ fr) (hlo : 8 + (maxL + 11) + lo' ≤ lo)
    (hd : decode cc pc = .ok (.invokevirtual ix, 3)) : HS (rW cl fo zs rs ns Ts G l cc nL own ret ini fr lo n0) pc (pc + 3) (h_call (na + 1) (rRecv fo ci) F) := by
  apply s_call hM
  intro as st' w n kk q h1 h2 h3 h4 p e R s m args below meth c X rl H locs cells slots hsz hP q1 q2 hMet
  obtain ⟨v, as', b, rfl, hb, cellB, g1, g2, g3⟩ := recv_some h3 X.2.2.2.2.2.1 hP hc
  have hG : GoodIn Ts (wsV own ix C y (.code y bytes maxL rt :: Ts)) := good_in hg (fun z hz => by
    unfold wsV at hz
    simp only [List.mem_append, List.mem_cons, List.not_mem_nil, or_false] at hz
    rcases hz with (rfl | rfl | rfl | rfl) | rfl | hz
    · exact w1
    · exact w2
    · exact w3
    · exact w4
    · exact w5
    · exact hz)
  have hS : CallFix p m c cc nL s args Ts own := ⟨X.1, X.2.1, X.2.2.1, X.2.2.2.1, X.2.2.2.2.1⟩
  have hR1 := X.2.2.2.2.2.2.2.2.2.2.1
  have hR2 := X.2.2.2.2.2.2.2.2.2.2.2
  have e1 : (as'.map (rv G)).length = na := by rw [List.length_map]; simpa using h1
  have e2 : ((v :: as').reverse ++ st').map (rv G) = (as'.map (rv G)).reverse ++ .ref b :: st'.map (rv G) := by simp [hb]
  have e3 : (v :: as').map (rv G) = .ref b :: as'.map (rv G) := by simp [hb]
  rw [e3] at hMet ⊢
  rw [e2]
  exact va_runV (As := as'.map (rv G)) (rest := st'.map (rv G)) hS hMet (cwV na X.2.2.2.2.1 hG rfl rfl rfl hd0 ⟨by rw [hR1]; exact hf, by rw [hR2]; exact hlo⟩) ⟨rBlind _ _ _, ⟨cellB, g1, g2, g3⟩, fun U hU hW => ⟨rfl, by rw [hU]; exact hP, X.2.2.2.2.2.1.warm hW⟩⟩ rfl e1 hsz rfl (lv_room (by rw [rSum_eq G X.2.2.2.2.2.1.2.2.1]; exact h2)) hd ⟨q1, q2⟩
theorem s_callS {F : rEv} {y : MethodName} {bytes : ByteArray} {maxL : Nat} {rt : Option FieldType} {fr' lo' ix : Nat} (na : Nat) (hM : rMet cl fo zs rs ns Ts l y bytes maxL rt fr' lo' F) (hg : ∀ w ∈ Ts, goodWord w = true)
    (w1 : Cond.methodLink own ix y ∈ Ts) (w2 : Cond.static y ∈ Ts) (w4 : Cond.initialized y.cls ∈ Ts) (w5 : Cond.code y bytes maxL rt ∈ Ts) (hd0 : y.cls ≠ "java/lang/invoke/MethodHandle" ∧ y.cls ≠ "java/lang/invoke/VarHandle" ∧ (parseMethodDescriptor y.desc).map (fun d => d.parameters.length) = some na) (hf : fr' + 1 ≤ fr) (hlo : 8 + (maxL + 11) + lo' ≤ lo)
    (hd : decode cc pc = .ok (.invokestatic ix, 3)) : HS (rW cl fo zs rs ns Ts G l cc nL own ret ini fr lo n0) pc (pc + 3) (h_call na rAny F) := by
  apply s_call hM
  intro as st' w n kk q h1 h2 h3 h4 p e R s m args below meth c X rl H locs cells slots hsz hP q1 q2 hMet
  have hG : GoodIn Ts (.code y bytes maxL rt :: Ts) := good_in hg (fun z hz => by
    rcases List.mem_cons.mp hz with rfl | hz
    · exact w5
    · exact hz)
  have hS : CallFix p m c cc nL s args Ts own := ⟨X.1, X.2.1, X.2.2.1, X.2.2.2.1, X.2.2.2.2.1⟩
  have hR1 := X.2.2.2.2.2.2.2.2.2.2.1
  have hR2 := X.2.2.2.2.2.2.2.2.2.2.2
  have e2 : (as.reverse ++ st').map (rv G) = (as.map (rv G)).reverse ++ st'.map (rv G) := by simp
  rw [e2]
  exact va_runS (As := as.map (rv G)) (rest := st'.map (rv G)) hS hMet ⟨callB_of na X.2.2.2.2.1 hG rfl rfl rfl (X.2.2.2.2.1 _ w4) (X.2.2.2.2.1 _ w1) hd0 ⟨by rw [hR1]; exact hf, by rw [hR2]; exact hlo⟩, X.2.2.2.2.1 _ w2⟩ ⟨rBlind _ _ _, fun U hU hW => ⟨rfl, by rw [hU]; exact hP, X.2.2.2.2.2.1.warm hW⟩⟩ rfl (by rw [List.length_map]; exact h1) hsz rfl (lv_room (by rw [rSum_eq G X.2.2.2.2.2.1.2.2.1]; exact h2)) hd ⟨q1, q2⟩
theorem s_callI {F : rEv} {y : MethodName} {bytes : ByteArray} {maxL : Nat} {fr' lo' ix : Nat} (na ci : Nat) {C : String} {T : u_T} {N : Nat} (hc : cl[ci]? = some (C, T, N)) (hM : rMet cl fo zs rs ns Ts l y bytes maxL none fr' lo' F) (hg : ∀ w ∈ Ts, goodWord w = true)
    (w1 : Cond.methodLink own ix y ∈ Ts) (w2 : Cond.instanceMethod y ∈ Ts) (w4 : Cond.initialized y.cls ∈ Ts) (w5 : Cond.code y bytes maxL none ∈ Ts) (hy1 : y.name = "<init>") (hd0 : y.cls ≠ "java/lang/invoke/MethodHandle" ∧ y.cls ≠ "java/lang/invoke/VarHandle" ∧ (parseMethodDescriptor y.desc).map (fun d => d.parameters.length) = some na) (hf : fr' + 1 ≤ fr) (hlo : 8 + (maxL + 11) + lo' ≤ lo)
    (hd : decode cc pc = .ok (.invokespecial ix, 3)) : HS (rW cl fo zs rs ns Ts G l cc nL own ret ini fr lo n0) pc (pc + 3) (h_call (na + 1) (rRecv fo ci) F) := by
  apply s_call hM
  intro as st' w n kk q h1 h2 h3 h4 p e R s m args below meth c X rl H locs cells slots hsz hP q1 q2 hMet
  obtain ⟨v, as', b, rfl, hb, cellB, g1, g2, g3⟩ := recv_some h3 X.2.2.2.2.2.1 hP hc
  have hG : GoodIn Ts (.code y bytes maxL none :: Ts) := good_in hg (fun z hz => by
    rcases List.mem_cons.mp hz with rfl | hz
    · exact w5
    · exact hz)
  have hS : CallFix p m c cc nL s args Ts own := ⟨X.1, X.2.1, X.2.2.1, X.2.2.2.1, X.2.2.2.2.1⟩
  have hR1 := X.2.2.2.2.2.2.2.2.2.2.1
  have hR2 := X.2.2.2.2.2.2.2.2.2.2.2
  have e1 : (as'.map (rv G)).length = na := by rw [List.length_map]; simpa using h1
  have e2 : ((v :: as').reverse ++ st').map (rv G) = (as'.map (rv G)).reverse ++ .ref b :: st'.map (rv G) := by simp [hb]
  have e3 : (v :: as').map (rv G) = .ref b :: as'.map (rv G) := by simp [hb]
  rw [e3] at hMet ⊢
  rw [e2]
  exact va_runI (As := as'.map (rv G)) (rest := st'.map (rv G)) hS hMet (cwI na X.2.2.2.2.1 hG rfl rfl rfl (X.2.2.2.2.1 _ w4) (X.2.2.2.2.1 _ w1) (X.2.2.2.2.1 _ w2) hy1 hd0 ⟨by rw [hR1]; exact hf, by rw [hR2]; exact hlo⟩) ⟨rBlind _ _ _, fun U hU hW => ⟨rfl, by rw [hU]; exact hP, X.2.2.2.2.2.1.warm hW⟩⟩ rfl e1 hsz rfl (lv_room (by rw [rSum_eq G X.2.2.2.2.2.1.2.2.1]; exact h2)) hd ⟨q1, q2⟩
theorem s_callU {F : rEv} {x y : MethodName} {bytes : ByteArray} {maxL : Nat} {rt : Option FieldType} {fr' lo' ix : Nat} (na ci : Nat) {C owner : String} {T : u_T} {N : Nat} (hc : cl[ci]? = some (C, T, N)) (hM : rMet cl fo zs rs ns Ts l y bytes maxL rt fr' lo' F) (hg : ∀ w ∈ Ts, goodWord w = true)
    (w1 : Cond.methodLink own ix x ∈ Ts) (w2 : Cond.sameMethod x.cls owner x.name x.desc ∈ Ts) (w3 : Cond.selects C x y ∈ Ts) (w4 : Cond.instanceMethod y ∈ Ts) (w6 : Cond.initialized y.cls ∈ Ts) (w5 : Cond.code y bytes maxL rt ∈ Ts) (hyx : y = ⟨owner, x.name, x.desc⟩) (hd0 : owner ≠ "java/lang/invoke/MethodHandle" ∧ owner ≠ "java/lang/invoke/VarHandle" ∧ (parseMethodDescriptor x.desc).map (fun d => d.parameters.length) = some na) (hf : fr' + 1 ≤ fr) (hlo : 8 + (maxL + 11) + lo' ≤ lo)
    (hd : decode cc pc = .ok (.invokevirtual ix, 3)) : HS (rW cl fo zs rs ns Ts G l cc nL own ret ini fr lo n0) pc (pc + 3) (h_call (na + 1) (rRecv fo ci) F) := by
  apply s_call hM
  intro as st' w n kk q h1 h2 h3 h4 p e R s m args below meth c X rl H locs cells slots hsz hP q1 q2 hMet
  obtain ⟨v, as', b, rfl, hb, cellB, g1, g2, g3⟩ := recv_some h3 X.2.2.2.2.2.1 hP hc
  have hG : GoodIn Ts (va_wsU own ix C owner x y (.code y bytes maxL rt :: Ts)) := good_in hg (fun z hz => by
    unfold va_wsU at hz
    simp only [List.mem_append, List.mem_cons, List.not_mem_nil, or_false] at hz
    rcases hz with (rfl | rfl | rfl | rfl | rfl) | rfl | hz
    · exact w1
    · exact w2
    · exact w3
    · exact w4
    · exact w6
    · exact w5
    · exact hz)
  have hS : CallFix p m c cc nL s args Ts own := ⟨X.1, X.2.1, X.2.2.1, X.2.2.2.1, X.2.2.2.2.1⟩
  have hR1 := X.2.2.2.2.2.2.2.2.2.2.1
  have hR2 := X.2.2.2.2.2.2.2.2.2.2.2
  have e1 : (as'.map (rv G)).length = na := by rw [List.length_map]; simpa using h1
  have e2 : ((v :: as').reverse ++ st').map (rv G) = (as'.map (rv G)).reverse ++ .ref b :: st'.map (rv G) := by simp [hb]
  have e3 : (v :: as').map (rv G) = .ref b :: as'.map (rv G) := by simp [hb]
  rw [e3] at hMet ⊢
  rw [e2]
  exact va_runU (As := as'.map (rv G)) (rest := st'.map (rv G)) hS hMet (va_cwU na X.2.2.2.2.1 hG rfl rfl rfl hyx hd0 ⟨by rw [hR1]; exact hf, by rw [hR2]; exact hlo⟩) ⟨rBlind _ _ _, ⟨cellB, g1, g2, g3⟩, fun U hU hW => ⟨rfl, by rw [hU]; exact hP, X.2.2.2.2.2.1.warm hW⟩⟩ rfl e1 hsz rfl (lv_room (by rw [rSum_eq G X.2.2.2.2.2.1.2.2.1]; exact h2)) hd ⟨q1, q2⟩
theorem s_callSU {F : rEv} {y : MethodName} {bytes : ByteArray} {maxL : Nat} {rt : Option FieldType} {fr' lo' ix : Nat} (na ci : Nat) {C : String} {T : u_T} {N : Nat} (hc : cl[ci]? = some (C, T, N)) (hM : rMet cl fo zs rs ns Ts l y bytes maxL rt fr' lo' F) (hg : ∀ w ∈ Ts, goodWord w = true)
    (w1 : Cond.methodLink own ix y ∈ Ts) (w2 : Cond.sameMethod y.cls y.cls y.name y.desc ∈ Ts) (w3 : Cond.superclass own y.cls ∈ Ts) (w4 : Cond.instanceMethod y ∈ Ts) (w6 : Cond.initialized y.cls ∈ Ts) (w5 : Cond.code y bytes maxL rt ∈ Ts) (hd0 : y.name ≠ "<init>" ∧ (parseMethodDescriptor y.desc).map (fun d => d.parameters.length) = some na) (hf : fr' + 1 ≤ fr) (hlo : 8 + (maxL + 11) + lo' ≤ lo)
    (hd : decode cc pc = .ok (.invokespecial ix, 3)) : HS (rW cl fo zs rs ns Ts G l cc nL own ret ini fr lo n0) pc (pc + 3) (h_call (na + 1) (rRecv fo ci) F) := by
  apply s_call hM
  intro as st' w n kk q h1 h2 h3 h4 p e R s m args below meth c X rl H locs cells slots hsz hP q1 q2 hMet
  obtain ⟨v, as', b, rfl, hb, cellB, g1, g2, g3⟩ := recv_some h3 X.2.2.2.2.2.1 hP hc
  have hG : GoodIn Ts (va_wsSU own ix y (.code y bytes maxL rt :: Ts)) := good_in hg (fun z hz => by
    unfold va_wsSU at hz
    simp only [List.mem_append, List.mem_cons, List.not_mem_nil, or_false] at hz
    rcases hz with (rfl | rfl | rfl | rfl | rfl) | rfl | hz
    · exact w1
    · exact w2
    · exact w3
    · exact w4
    · exact w6
    · exact w5
    · exact hz)
  have hS : CallFix p m c cc nL s args Ts own := ⟨X.1, X.2.1, X.2.2.1, X.2.2.2.1, X.2.2.2.2.1⟩
  have hR1 := X.2.2.2.2.2.2.2.2.2.2.1
  have hR2 := X.2.2.2.2.2.2.2.2.2.2.2
  have e1 : (as'.map (rv G)).length = na := by rw [List.length_map]; simpa using h1
  have e2 : ((v :: as').reverse ++ st').map (rv G) = (as'.map (rv G)).reverse ++ .ref b :: st'.map (rv G) := by simp [hb]
  have e3 : (v :: as').map (rv G) = .ref b :: as'.map (rv G) := by simp [hb]
  rw [e3] at hMet ⊢
  rw [e2]
  exact va_runSU (As := as'.map (rv G)) (rest := st'.map (rv G)) (X.2.2.2.2.2.1.1.1 ci _ hc).2 hS hMet (va_cwSU na X.2.2.2.2.1 hG rfl rfl rfl hd0 ⟨by rw [hR1]; exact hf, by rw [hR2]; exact hlo⟩) ⟨rBlind _ _ _, ⟨cellB, g1, g2, g3⟩, fun U hU hW => ⟨rfl, by rw [hU]; exact hP, X.2.2.2.2.2.1.warm hW⟩⟩ rfl e1 hsz rfl (lv_room (by rw [rSum_eq G X.2.2.2.2.2.1.2.2.1]; exact h2)) hd ⟨q1, q2⟩
theorem s_callIN {F : rEv} {y : MethodName} {bytes : ByteArray} {maxL : Nat} {fr' lo' ix : Nat} {host : String} (na ci : Nat) {C : String} {T : u_T} {N : Nat} (hc : cl[ci]? = some (C, T, N)) (hM : rMet cl fo zs rs ns Ts l y bytes maxL none fr' lo' F) (hg : ∀ w ∈ Ts, goodWord w = true)
    (w1 : Cond.methodLinkNest own ix y host ∈ ns) (w2 : Cond.instanceMethod y ∈ Ts) (w4 : Cond.initialized y.cls ∈ Ts) (w5 : Cond.code y bytes maxL none ∈ Ts) (hy1 : y.name = "<init>") (hd0 : y.cls ≠ "java/lang/invoke/MethodHandle" ∧ y.cls ≠ "java/lang/invoke/VarHandle" ∧ (parseMethodDescriptor y.desc).map (fun d => d.parameters.length) = some na) (hf : fr' + 1 ≤ fr) (hlo : 8 + (maxL + 11) + lo' ≤ lo)
    (hd : decode cc pc = .ok (.invokespecial ix, 3)) : HS (rW cl fo zs rs ns Ts G l cc nL own ret ini fr lo n0) pc (pc + 3) (h_call (na + 1) (rRecv fo ci) F) := by
  apply s_call hM
  intro as st' w n kk q h1 h2 h3 h4 p e R s m args below meth c X rl H locs cells slots hsz hP q1 q2 hMet
  obtain ⟨v, as', b, rfl, hb, cellB, g1, g2, g3⟩ := recv_some h3 X.2.2.2.2.2.1 hP hc
  have hG : GoodIn Ts (.code y bytes maxL none :: Ts) := good_in hg (fun z hz => by
    rcases List.mem_cons.mp hz with rfl | hz
    · exact w5
    · exact hz)
  have hS : CallFix p m c cc nL s args Ts own := ⟨X.1, X.2.1, X.2.2.1, X.2.2.2.1, X.2.2.2.2.1⟩
  have hR1 := X.2.2.2.2.2.2.2.2.2.2.1
  have hR2 := X.2.2.2.2.2.2.2.2.2.2.2
  have e1 : (as'.map (rv G)).length = na := by rw [List.length_map]; simpa using h1
  have e2 : ((v :: as').reverse ++ st').map (rv G) = (as'.map (rv G)).reverse ++ .ref b :: st'.map (rv G) := by simp [hb]
  have e3 : (v :: as').map (rv G) = .ref b :: as'.map (rv G) := by simp [hb]
  rw [e3] at hMet ⊢
  rw [e2]
  exact va_runIN (As := as'.map (rv G)) (rest := st'.map (rv G)) hS hMet ⟨va_cnB na X.2.2.2.2.1 hG rfl rfl rfl (X.2.2.2.2.2.1.2.1.2 _ w1).1 (X.2.2.2.2.1 _ w4) hd0 ⟨by rw [hR1]; exact hf, by rw [hR2]; exact hlo⟩, hy1, X.2.2.2.2.1 _ w2⟩ ⟨rBlind _ _ _, fun U hU hW => ⟨rfl, by rw [hU]; exact hP, X.2.2.2.2.2.1.warm hW⟩⟩ rfl e1 hsz rfl (lv_room (by rw [rSum_eq G X.2.2.2.2.2.1.2.2.1]; exact h2)) hd ⟨q1, q2⟩
end RM
end
section
/-! THE RUNNER'S ROWS: copies, arrays of references, arrays of arrays -/
theorem okT_fits (G : rGm) {t : Nat} {v : rCV} (h : okT t v = true) : fits (rTy t) (rv G v) = true := by
  have h' : rB (Nat.beq t 0) (isI v) (rB (Nat.beq t 1) (isJ v) (okB t v)) = true := h
  cases e : Nat.beq t 0
  · rw [e] at h'
    have h2 : rB (Nat.beq t 1) (isJ v) (okB t v) = true := h'
    cases e1 : Nat.beq t 1
    · rw [e1] at h2
      rcases okB_e h2 with ⟨rfl, h3⟩ | ⟨rfl, h3⟩
      · rcases v with a | a | a
        · have h4 : rB (Nat.ble a 127) true (rB (Nat.ble 4294967168 a) (Nat.blt a 4294967296) false) = true := h3
          cases e2 : Nat.ble a 127
          · rw [e2] at h4
            obtain ⟨h5, h6⟩ := rB_and h4
            have g1 : 4294967168 ≤ a := Nat.ble_eq.mp h5
            have g2 : a < 4294967296 := Nat.blt_eq.mp h6
            have := (show ∀ b, b < 128 → fits .byte (.int (nI (b + 4294967168))) = true by decide +kernel) (a - 4294967168) (by omega)
            rw [Nat.sub_add_cancel g1] at this
            exact this
          · have g1 : a ≤ 127 := Nat.ble_eq.mp e2
            exact (show ∀ b, b < 128 → fits .byte (.int (nI b)) = true by decide +kernel) a (by omega)
        · cases h3
        · cases h3
      · obtain ⟨a, rfl, -, ha⟩ := isZ_e h3
        match a, ha with
        | 0, _ => rfl
        | 1, _ => rfl
    · have : t = 1 := Nat.eq_of_beq_eq_true e1
      subst this
      rw [e1] at h2
      obtain ⟨a, rfl⟩ := isJ_e h2
      rfl
  · have : t = 0 := Nat.eq_of_beq_eq_true e
    subst this
    rw [e] at h'
    obtain ⟨a, rfl⟩ := isI_e h'
    rfl
theorem rCp_some {β : Type} {t sp dp : Nat} {d : rCV} {m : rMp} {k : rMp → Option β} {o : β} : ∀ (N : Nat) (m' : rMp), rCp t N sp dp d m m' k = some o → ∃ m2, k m2 = some o ∧ (∀ i, i < N → okT t (rL d m (sp + i)) = true) ∧ ∀ (d' : rCV) (j : Nat), rL d' m2 j = if dp ≤ j ∧ j < dp + N then rL d m (sp + (j - dp)) else rL d' m' j := by
  intro N
  induction N with
  | zero =>
    intro m' h
    refine ⟨m', h, fun i hi => absurd hi (Nat.not_lt_zero i), fun d' j => ?_⟩
    rw [if_neg (by omega)]
  | succ N ih =>
    intro m' h
    have h' : rN (dp + N) (fun i => rN (i / 64) (fun q => rV (rL d m (sp + N)) (fun v => rB (okT t v) (rU m' q i v (fun m' => rCp t N sp dp d m m' k)) none))) = some o := h
    rw [rN_eq, rN_eq, rV_eq] at h'
    obtain ⟨h1, h2⟩ := rB_yes h'
    rw [rU_eq] at h2
    obtain ⟨m2, g1, g2, g3⟩ := ih _ h2
    refine ⟨m2, g1, fun i hi => ?_, fun d' j => ?_⟩
    · by_cases e : i = N
      · subst e; exact h1
      · exact g2 i (by omega)
    · rw [g3, rL_up]
      by_cases e : dp ≤ j ∧ j < dp + N
      · rw [if_pos e, if_pos (by omega)]
      · rw [if_neg e]
        by_cases e2 : j = dp + N
        · rw [if_pos e2, if_pos (by omega), show sp + (j - dp) = sp + N by omega]
        · rw [if_neg e2, if_neg (by omega)]
section RA
variable {cl : List vw_C} {fo : List rCC} {zs : List (String × String × String × rCV)} {rs : List (String × Nat × String × Nat)} {ns : List Cond} {Ts : List Cond} {G : rGm}
variable {l : Launch} {cc : ByteArray} {nL n0 : Nat} {own : String} {pc : Nat} {ret : Option FieldType} {ini : Bool} {fr lo : Nat}
theorem nI_toInt2 {a : Nat} (h : a ≤ 120000000) : (nI a).toInt = (a : Int) := nI_toInt (by omega)
theorem s_acopy {ix : Nat} (w1 : Cond.methodLink own ix arraycopyName ∈ Ts) (w2 : Cond.native arraycopyName ∈ Ts) (w3 : Cond.static arraycopyName ∈ Ts) (w4 : Cond.initialized "java/lang/System" ∈ Ts) (hf : 1 ≤ fr) (hlo : 8 + (nativeFrameWords "java/lang/System" "arraycopy" 5 + 11) ≤ lo) (hd : decode cc pc = .ok (.invokestatic ix, 3)) : HS (rW cl fo zs rs ns Ts G l cc nL own ret ini fr lo n0) pc (pc + 3) (h_acopy fo) := by
  intro k0 ls st w n kk o e0
  obtain ⟨x5, st, rfl, e1⟩ := rP_some e0
  obtain ⟨x4, st, rfl, e2⟩ := rP_some e1
  obtain ⟨x3, st, rfl, e3⟩ := rP_some e2
  obtain ⟨x2, st, rfl, e4⟩ := rP_some e3
  obtain ⟨x1, st, rfl, e5⟩ := rP_some e4
  obtain ⟨hsum, e51⟩ := rB_yes e5
  obtain ⟨N, rfl, e6⟩ := rI_some e51
  obtain ⟨dp, rfl, e7⟩ := rI_some e6
  obtain ⟨sp, rfl, e8⟩ := rI_some e7
  obtain ⟨r3, rfl, e9⟩ := rR_some e8
  obtain ⟨r1, rfl, e10⟩ := rR_some e9
  have key : ∃ t1 N1 d1 m1, ((r1 % 2 = 1 ∧ wGet (r1 / 2) w = some (.inr (t1, N1, d1, m1))) ∨ (¬ r1 % 2 = 1 ∧ ¬ r1 = 0 ∧ fo[r1 / 2 - 1]? = some (.inr (t1, N1, d1, m1)))) ∧ rO w r3 (fun p c3 => rCA c3 (fun t3 N3 d3 m3 => rB (Nat.beq t1 t3) (rB (Nat.ble t1 3) (rB (Nat.ble (Nat.add sp N) N1) (rB (Nat.ble (Nat.add dp N) N3) (rCp t1 N sp dp d1 m1 m3 (fun m => rWS w p (.inr (t3, N3, d3, m)) (fun w => k0 ls st w n kk))) none) none) none) none)) = some o := by
    rcases rOF_some e10 with ⟨a, x, f, h⟩ | ⟨a, b, x, f, h⟩
    · obtain ⟨t, N, d, m, rfl, h5⟩ := rCA_some h
      exact ⟨t, N, d, m, Or.inl ⟨a, f⟩, h5⟩
    · obtain ⟨t, N, d, m, rfl, h5⟩ := rCA_some h
      exact ⟨t, N, d, m, Or.inr ⟨a, b, f⟩, h5⟩
  obtain ⟨t1, N1, d1, m1, h4, e11⟩ := key
  obtain ⟨q3, c3, hp, e12⟩ := rO_some e11
  obtain ⟨t3, N3, d3, m3, rfl, e13⟩ := rCA_some e12
  obtain ⟨g1, e14⟩ := rB_yes e13
  obtain ⟨g2, e15⟩ := rB_yes e14
  obtain ⟨g3, e16⟩ := rB_yes e15
  obtain ⟨g4, e17⟩ := rB_yes e16
  obtain ⟨m2, e18, g5, g6⟩ := rCp_some N m3 e17
  have ht : t1 = t3 := Nat.eq_of_beq_eq_true g1
  subst ht
  have g2 : t1 ≤ 3 := Nat.ble_eq.mp g2
  have g3 : sp + N ≤ N1 := Nat.ble_eq.mp g3
  have g4 : dp + N ≤ N3 := Nat.ble_eq.mp g4
  have e19 := rWS_some _ _ e18
  refine ⟨_, _, _, _, _, e19, Nat.le_refl _, Nat.le_refl _, fun _ _ hV p e R s m args below meth c X r1' r2' r3' rl H locs hl hP hL => ?_⟩
  obtain ⟨a1, a2, a, cs, a3, a4, a5, a6, a7, a8, a9⟩ := arr_at X.2.2.2.2.2.1 hP h4
  obtain ⟨b1, b2, b3⟩ := pic_cell hP hp
  obtain ⟨ks0, ks, hks, sComp, hsk⟩ := a5
  obtain ⟨-, kd, hkd, dComp, hdk⟩ := X.2.2.2.2.2.1.arr b1 N3 (fun j => rv G (rL d3 m3 j))
  have hR1 := X.2.2.2.2.2.2.2.2.2.2.1
  have hR2 := X.2.2.2.2.2.2.2.2.2.2.2
  have hget : ∀ i, i < N → cs.slots.getD ((nI sp).toNatClampNeg + i) .null = rv G (rL d1 m1 (sp + i)) := fun i hi => by
    rw [nI_clamp (n := sp) (by omega), Array.getD_eq_getD_getElem?, a9 _ (by omega)]
    rfl
  rw [List.map_cons, List.map_cons, List.map_cons, List.map_cons, List.map_cons, rv_own G q3, a3]
  intro T hT Xs
  have hrank : (rTy t1 = .int ∨ rTy t1 = .long ∨ rTy t1 = .byte ∨ rTy t1 = .boolean) := by
    match t1, g2 with
    | 0, _ => exact Or.inl rfl
    | 1, _ => exact Or.inr (Or.inl rfl)
    | 2, _ => exact Or.inr (Or.inr (Or.inl rfl))
    | 3, _ => exact Or.inr (Or.inr (Or.inr rfl))
  have hsm := rSum_eq G X.2.2.2.2.2.1.2.2.1 st
  have hsum' : rSum st ≤ 8 := Nat.ble_eq.mp hsum
  obtain ⟨vm', X', step⟩ := Xs.arraycopy X.1 X.2.2.2.1 (X.2.2.2.2.1 _ w1) (X.2.2.2.2.1 _ w2) (X.2.2.2.2.1 _ w3) (X.2.2.2.2.1 _ w4) (src := a) (dst := G.2.2.1 + r3 / 2) (cs := cs) (srcPos := nI sp) (destPos := nI dp) (n := nI N) (by rw [hT]; exact a4) (by rw [hT]; exact b3)
    ks0 (fun _ h => by cases h) a6 (fun h => by cases h) hks hkd hsk hdk (by rcases hrank with h | h | h | h <;> rw [h] <;> rfl) (nI_pos (by omega)) (nI_pos (by omega)) (nI_pos (by omega))
    (by rw [nI_toInt (by omega), nI_toInt (by omega)]; omega)
    (by rw [nI_toInt (by omega), nI_toInt (by omega)]; show ¬ _ > ((arrV _ N3 _).slots.size : Int); rw [arrV_size]; omega)
    (fun vm₁ _ i hi => by
      rw [nI_clamp (n := N) (by omega)] at hi
      rw [hget i hi]
      have hfit := okT_fits G (g5 i hi)
      refine ⟨hfit, ?_⟩
      rcases hrank with h | h | h | h <;> rw [h] at hfit <;> revert hfit <;> cases rv G (rL d1 m1 (sp + i)) <;> intro hfit <;> first | exact trivial | cases hfit)
    (g := F0 m pc rl (.int (nI N) :: .int (nI dp) :: .ref (G.2.2.1 + r3 / 2) :: .int (nI sp) :: .ref a :: st.map (rv G))) rfl (by rw [X.2.2.1]; exact hl.1) (rest := st.map (rv G)) rfl (by rw [X.2.1]; exact hd) (by rw [hR1]; exact hf) (by rw [hR2]; show 2 * 0 + _ + _ ≤ _; rw [hsm]; omega)
  have ec : copied cs (arrV (G.2.1 t1) N3 (fun j => rv G (rL d3 m3 j))) (nI sp) (nI dp) (nI N) = arrV (G.2.1 t1) N3 (fun j => rv G (rL d3 m2 j)) := by
    show (arrV (G.2.1 t1) N3 (fun j => rv G (rL d3 m3 j))).storeRun (nI dp).toNatClampNeg (cs.stretch (nI sp).toNatClampNeg (nI N).toNatClampNeg) = _
    have es : cs.stretch (nI sp).toNatClampNeg (nI N).toNatClampNeg = (List.range N).map (fun i => rv G (rL d1 m1 (sp + i))) := by
      unfold Cell.stretch
      rw [nI_clamp (n := N) (by omega)]
      apply List.map_congr_left
      intro i hi
      exact hget i (List.mem_range.mp hi)
    rw [es, Cell.storeRun, va_pairs, nI_clamp (n := dp) (by omega)]
    congr 1
    funext j
    simp only [List.length_map, List.length_range, Nat.add_zero]
    rw [g6]
    by_cases h : dp ≤ j ∧ j < dp + N
    · rw [if_pos h, if_pos h, List.getD_eq_getElem?_getD, List.getElem?_map, List.getElem?_range (by omega)]
      rfl
    · rw [if_neg h, if_neg h]
  rw [ec] at X' step
  have hl1 : G.2.2.1 + r3 / 2 < H.size := (Array.getElem?_eq_some_iff.mp b3).1
  have hheap : ((T.setVm vm').setCell (G.2.2.1 + r3 / 2) (arrV (G.2.1 t1) N3 (fun j => rv G (rL d3 m2 j)))).heap = H.setIfInBounds (G.2.2.1 + r3 / 2) (arrV (G.2.1 t1) N3 (fun j => rv G (rL d3 m2 j))) := by rw [← hT]; rfl
  obtain ⟨t, u1, u2⟩ := hV p e R s m args below meth c X r1' r2' r3' rl _ _ hl (pic_set hP hp ⟨b1, b2, show (H.setIfInBounds (G.2.2.1 + r3 / 2) _)[G.2.2.1 + r3 / 2]? = some _ by simp [Array.getElem?_setIfInBounds, hl1]⟩ (by simp) (fun q hq => by simp [Array.getElem?_setIfInBounds, Ne.symm hq])) (fun x hx => by
    rcases List.mem_append.mp hx with h | h
    · exact hL x h
    · obtain ⟨z, -, hz⟩ := List.mem_map.mp h
      rw [← hz]
      exact Nat.le_add_right _ _) _ hheap X'
  exact ⟨t, step t u1, u2⟩
end RA
end
section
/-! THE RUNNER'S ROWS: rows of texts -/
section RB
variable {cl : List vw_C} {fo : List rCC} {zs : List (String × String × String × rCV)} {rs : List (String × Nat × String × Nat)} {ns : List Cond} {Ts : List Cond} {G : rGm}
variable {l : Launch} {cc : ByteArray} {nL n0 : Nat} {own : String} {pc : Nat} {ret : Option FieldType} {ini : Bool} {fr lo : Nat}
theorem s_anewa {ix : Nat} (w1 : Cond.classLink own ix "java/lang/String" ∈ Ts) (w2 : Cond.arrayOver (.object "java/lang/String") ∈ ns) (hd : decode cc pc = .ok (.anewarray ix, 3)) : HS (rW cl fo zs rs ns Ts G l cc nL own ret ini fr lo n0) pc (pc + 3) h_anewa := by
  intro k0 ls st w n kk o e0
  obtain ⟨x, st', rfl, h2⟩ := rP_some e0
  obtain ⟨N, rfl, h3⟩ := rI_some h2
  obtain ⟨h4, h5⟩ := rB_yes h3
  have hN : N ≤ 60000000 := Nat.ble_eq.mp h4
  rw [rN_eq, rN_eq, rN_eq] at h5
  refine ⟨_, _, _, _, _, h5, Nat.le_succ _, Nat.le_add_right _ _, fun ho1 ho2 hV p e R s m args below meth c X r1 r2 r3 rl H locs hl hP hL => ?_⟩
  have ho1' : n + 1 ≤ o.2.2.1 := ho1
  have ho2' : kk + N ≤ o.2.2.2 := ho2
  have hcl : (nI N).toNatClampNeg = N := nI_clamp (by omega)
  refine W.anew X.1 X.2.1 X.2.2.2.1 (X.2.2.2.2.1 _ w1) (X.2.2.2.2.2.1.2.1.2 _ w2).1 rfl hd rfl (nI_pos (by omega)) (by rw [hcl]; omega) (by omega) (by rw [hcl]; omega) fun cA kA comp f1 f2 f3 f4 => ?_
  rw [hcl]
  obtain ⟨kA', comp', -, -, -, g4⟩ := (X.2.2.2.2.2.1.1.2 4 _ (rTys_at (by decide))).2
  have hcA : cA = G.2.1 4 := Option.some.inj (f1.symm.trans g4)
  subst hcA
  generalize hH1 : H.push ({ cls := G.2.1 4, slots := Array.replicate N .null, vm := .none } : Cell) = H1
  have z1 : H1.size = H.size + 1 := by rw [← hH1, Array.size_push]
  have e1 : H1[H.size]? = some (arrV (G.2.1 4) N (fun _ => .null)) := by rw [← hH1, Array.getElem?_push_size, ← arrV_new]
  have o1 : ∀ q : Nat, q < H.size → H1[q]? = H[q]? := fun q hq => by rw [← hH1, Array.getElem?_push, if_neg (Nat.ne_of_lt hq)]
  have hpic : rPic cl G ((n, .inr (4, N, .inr (.inr 0), [])) :: w) (n + 1) H1 := pic_push hP ⟨by decide, hN, by
    rw [e1]
    refine congrArg some (congrArg (arrV _ N) (funext fun j => ?_))
    rw [rL_eq]
    rfl⟩ z1 o1
  have hV' := hV p e R s m args below meth c X r1 r2 (by omega) rl H1 locs hl hpic hL
  rw [List.map_cons, rv_own G (by show (2 * n + 1) % 2 = 1; omega), show G.2.2.1 + Nat.succ (Nat.mul 2 n) / 2 = H.size by rw [hP.1]; show _ + (2 * n + 1) / 2 = _; omega] at hV'
  rw [show n - n0 + 1 = Nat.succ n - n0 by omega]
  exact hV'
theorem s_aastS {T : u_T} {N9 : Nat} (hc0 : cl[0]? = some ("java/lang/String", T, N9)) (hd : decode cc pc = .ok (.aastore, 1)) : HS (rW cl fo zs rs ns Ts G l cc nL own ret ini fr lo n0) pc (pc + 1) (h_astS fo) := by
  intro k0 ls st w n kk o e0
  obtain ⟨v, st0, rfl, h0⟩ := rP_some e0
  obtain ⟨y, st1, rfl, h1⟩ := rP_some h0
  obtain ⟨x, st2, rfl, h2⟩ := rP_some h1
  have hrec : rRecv fo 0 [v] w n = some () := by
    cases e : rRecv fo 0 [v] w n with
    | none => rw [e] at h2; cases h2
    | some u => rfl
  rw [hrec] at h2
  obtain ⟨i, rfl, h3⟩ := rI_some h2
  obtain ⟨r, rfl, h31⟩ := rR_some h3
  obtain ⟨q1, cell, hp, h⟩ := rO_some h31
  obtain ⟨t, N, d, mm, rfl, h5⟩ := rCA_some h
  obtain ⟨h7, h8⟩ := rB_yes h5
  obtain ⟨h6, h9⟩ := rB_yes h8
  have h6 : i < N := Nat.blt_eq.mp h6
  have ht : t = 4 := Nat.eq_of_beq_eq_true h7
  subst ht
  rw [rN_eq, rU_eq] at h9
  have h11 := rWS_some _ _ h9
  refine ⟨ls, st2, _, n, kk, h11, Nat.le_refl _, Nat.le_refl _, fun _ _ hV p e R s m args below meth c X r1 r2 r3 rl H locs hl hP hL => ?_⟩
  obtain ⟨c1, c2, c3⟩ := pic_cell hP hp
  obtain ⟨v', as', b, ev, hb, cellB, g1, g2, g3⟩ := recv_some hrec X.2.2.2.2.2.1 hP hc0
  cases ev
  obtain ⟨kA, comp, k1, k2, k3, k4⟩ := (X.2.2.2.2.2.1.1.2 4 _ (rTys_at (by decide))).2
  obtain ⟨kE, hkE, -⟩ := Vm.findClass_spec k3
  have hcc : comp = cellB.cls := Option.some.inj (k3.symm.trans g3)
  rw [List.map_cons, List.map_cons, List.map_cons, rv_own G q1, hb]
  refine W.aast X.1 X.2.1 c3 (fun q h => by cases h) (fun h => by cases h) k1 k2 rfl hkE ⟨nI_pos (by omega), by rw [nI_clamp (by omega)]; show _ < (arrV _ _ _).slots.size; rw [arrV_size]; exact h6⟩ g1 (fun q h => by rw [h] at g2; cases g2) (by rw [← hcc]; exact hkE) (by rw [← hcc]; exact va_asg _ _) rfl rfl hd fun H1 e1 z1 o1 => ?_
  refine hV p e R s m args below meth c X r1 r2 r3 rl H1 _ hl (pic_set hP hp ⟨by decide, c2, ?_⟩ z1 o1) (locs_put hL)
  rw [e1, arrV_store, nI_clamp (by omega), ← hb]
  exact congrArg some (arr_up _)
end RB
end
section
/-! THE RUNNER'S ROW: T[N][M] (of the cells that come nothing is kept) -/
section RC
variable {cl : List vw_C} {fo : List rCC} {zs : List (String × String × String × rCV)} {rs : List (String × Nat × String × Nat)} {ns : List Cond} {Ts : List Cond} {G : rGm}
variable {l : Launch} {cc : ByteArray} {nL n0 : Nat} {own : String} {pc : Nat} {ret : Option FieldType} {ini : Bool} {fr lo : Nat}
theorem s_multi {ix : Nat} {ty : FieldType} (w1 : Cond.classLink own ix ("[" ++ (FieldType.array ty).toString) ∈ Ts) (w2 : Cond.arrayOver (.array ty) ∈ ns) (w3 : Cond.arrayClass ty ∈ Ts) (hb8 : componentBytes ty ≤ 8) (hdf : fits ty (defaultValue ty) = true) (hdd : (defaultValue ty).isDefault = true) (hd : decode cc pc = .ok (.multianewarray ix 2, 4)) : HS (rW cl fo zs rs ns Ts G l cc nL own ret ini fr lo n0) pc (pc + 4) h_multi := by
  intro k0 ls st w n kk o e0
  obtain ⟨y, st0, rfl, h0⟩ := rP_some e0
  obtain ⟨x, st', rfl, h1⟩ := rP_some h0
  obtain ⟨N, rfl, h2⟩ := rI_some h1
  obtain ⟨M, rfl, h3⟩ := rI_some h2
  obtain ⟨h4, h5⟩ := rB_yes h3
  obtain ⟨h6, h7⟩ := rB_yes h5
  have hN : N ≤ 60000000 := Nat.ble_eq.mp h4
  have hM : M ≤ 60000000 := Nat.ble_eq.mp h6
  rw [rN_eq, rN_eq, rN_eq] at h7
  refine ⟨_, _, _, _, _, h7, Nat.le_add_right _ _, Nat.le_add_right _ _, fun ho1 ho2 hV p e R s m args below meth c X r1 r2 r3 rl H locs hl hP hL => ?_⟩
  have ho1' : n + (N + 1) ≤ o.2.2.1 := ho1
  have ho2' : kk + (N + N * M) ≤ o.2.2.2 := ho2
  have hclN : (nI N).toNatClampNeg = N := nI_clamp (by omega)
  have hclM : (nI M).toNatClampNeg = M := nI_clamp (by omega)
  intro T hT Xs
  have hbm : M * componentBytes ty ≤ 536870912 := Nat.le_trans (Nat.mul_le_mul_left M hb8) (by omega)
  obtain ⟨vm₁, cA, comp, -, fA, fC, hO, -, X', step⟩ := Jvm.Stand.multianewarray2F Xs X.1 X.2.2.2.1 (X.2.2.2.2.1 _ w1) (X.2.2.2.2.2.1.2.1.2 _ w2).1 (X.2.2.2.2.1 _ w3) (g := F0 m pc rl (.int (nI M) :: .int (nI N) :: st'.map (rv G))) rfl (by rw [X.2.1]; exact hd) rfl (nI_pos (by omega)) (nI_pos (by omega)) (by rw [hclN]; omega) (by rw [hclM]; exact hbm) (by rw [hclM]; omega) hdf hdd (by rw [hclN]; omega) (by rw [hclN, hclM]; omega)
  rw [hclN, hclM] at X' step
  generalize hF : Jvm.Free.Multi.fill (T.setVm vm₁) cA comp N M (defaultValue ty) N = F at X' step
  have hTh : (T.setVm vm₁).heap = H := hT
  obtain ⟨f1, -, -, -⟩ := Jvm.Free.Multi.fill_facts (T.setVm vm₁) cA comp N M (defaultValue ty) N
  rw [hF, hTh] at f1
  have hold : ∀ x : Nat, x < H.size → F.heap[x]? = H[x]? := fun x hx => by
    have := Jvm.Free.Multi.fill_old (T.setVm vm₁) cA comp N M (defaultValue ty) (a := x) (by rw [hTh]; exact hx) N
    rw [hF, hTh] at this
    exact this
  have hpic : rPic cl G w (n + (N + 1)) F.heap := ⟨by rw [f1, hP.1]; omega, fun q hq => (hold q (by rw [hP.1]; omega)).trans (hP.2.1 q hq), fun i x hx => ⟨by have := (hP.2.2 i x hx).1; omega, (hP.2.2 i x hx).2.kept (hold _ (by rw [hP.1]; have := (hP.2.2 i x hx).1; omega))⟩⟩
  have hV' := hV p e R s m args below meth c X r1 r2 (show n0 ≤ n + (N + 1) by omega) rl F.heap locs hl hpic hL
  rw [List.map_cons, rv_own G (by show (2 * n + 1) % 2 = 1; omega), show G.2.2.1 + Nat.succ (Nat.mul 2 n) / 2 = H.size by rw [hP.1]; show _ + (2 * n + 1) / 2 = _; omega] at hV'
  have hV2 : W p l e R s m args below meth c F.heap locs (n - n0 + 1 + N) (kk + N + N * M) (MQ below (rQ cl fo zs rs ns G o) args s (o.2.2.1 - n0) o.2.2.2 (fun q => G.2.2.1 ≤ q)) (F0 m (pc + 4) rl (.ref H.size :: st'.map (rv G))) := by
    rw [show n - n0 + 1 + N = n + (N + 1) - n0 by omega, show kk + N + N * M = kk + (N + N * M) by omega]
    exact hV'
  rw [hT] at step
  obtain ⟨t, a1, b1⟩ := hV2 F rfl X'
  exact ⟨t, step t a1, b1⟩
end RC
end
