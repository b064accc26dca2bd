/-! ===== the small machine: what a method does, told over numbered cells ===== -/
/-- a cell: an array (tag, length, contents) or an object (program number, fields) -/
abbrev MCQ : Type := (Nat × vp_A) ⊕ (Nat × List Value)
/-- how many cells, how many slots in all, and the cells -/
abbrev Mem : Type := Nat × Nat × (Nat → MCQ)
abbrev Rs : Type := Option Value × Mem
abbrev Ls : Type := List (Nat × Value)
/-- an instruction: place, itself, length, numbers, ints, longs -/
abbrev EE : Type := Nat × Instr × Nat × List Nat × List Int32 × List Int64
def setC (σ : Mem) (a : Nat) (c : MCQ) : Mem := (σ.1, σ.2.1, va_up σ.2.2 a c)
def addC (σ : Mem) (k : Nat) (c : MCQ) : Mem := (σ.1 + 1, σ.2.1 + k, va_up σ.2.2 σ.1 c)
def inb (i : Int32) (n : Nat) : Bool := !(decide (i < 0) || decide (n ≤ i.toNatClampNeg))
def okZ (v : Int32) : Bool := decide (v = 0) || decide (v = 1)
/-- fields -/
def gV (σ : Mem) (ci a k : Nat) : Option Value := match σ.2.2 a with
  | .inl _ => none
  | .inr o => bif o.1 == ci then o.2[k]? else none
def gI (σ : Mem) (ci a k : Nat) : Option Int32 := match gV σ ci a k with
  | some (.int v) => some v
  | _ => none
def gR (σ : Mem) (ci a k : Nat) : Option Nat := match gV σ ci a k with
  | some (.ref v) => some v
  | _ => none
def gQ (σ : Mem) (ci a k : Nat) : Option (Option Nat) := match gV σ ci a k with
  | some (.ref v) => some (some v)
  | some .null => some none
  | _ => none
def pF (σ : Mem) (ci a k : Nat) (v : Value) : Option Mem := match σ.2.2 a with
  | .inl _ => none
  | .inr o => bif o.1 == ci && Nat.blt k o.2.length then some (setC σ a (.inr (o.1, o.2.set k v))) else none
/-- arrays -/
def lI (σ : Mem) (a : Nat) (i : Int32) : Option Int32 := match σ.2.2 a with
  | .inl (t, n, .inl f) => bif (t == 0 || t == 6) && inb i n then some (f i.toNatClampNeg) else none
  | _ => none
def sI (σ : Mem) (a : Nat) (i x : Int32) : Option Mem := match σ.2.2 a with
  | .inl (t, n, .inl f) => bif t == 0 && inb i n then some (setC σ a (.inl (t, n, .inl (upd f i.toNatClampNeg x)))) else none
  | _ => none
def lB (σ : Mem) (a : Nat) (i : Int32) : Option Int32 := match σ.2.2 a with
  | .inl (t, n, .inl f) => bif (t == 1 || t == 2) && inb i n then some (f i.toNatClampNeg) else none
  | _ => none
def sB (σ : Mem) (a : Nat) (i x : Int32) : Option Mem := match σ.2.2 a with
  | .inl (t, n, .inl f) => bif (t == 1 || t == 2) && inb i n then some (setC σ a (.inl (t, n, .inl (upd f i.toNatClampNeg (bif t == 1 then vp_nar .byte x else vp_nar .boolean x))))) else none
  | _ => none
def lL (σ : Mem) (a : Nat) (i : Int32) : Option Int64 := match σ.2.2 a with
  | .inl (t, n, .inr (.inl f)) => bif t == 3 && inb i n then some (f i.toNatClampNeg) else none
  | _ => none
def sL (σ : Mem) (a : Nat) (i : Int32) (x : Int64) : Option Mem := match σ.2.2 a with
  | .inl (t, n, .inr (.inl f)) => bif t == 3 && inb i n then some (setC σ a (.inl (t, n, .inr (.inl (vp_updL f i.toNatClampNeg x))))) else none
  | _ => none
def lQ (σ : Mem) (a : Nat) (i : Int32) : Option (Option Nat) := match σ.2.2 a with
  | .inl (t, n, .inr (.inr (.inr (.inr f)))) => bif (t == 4 || t == 5) && inb i n then some (f i.toNatClampNeg) else none
  | _ => none
/-- is there an object of program ci at a -/
def isC (σ : Mem) (ci a : Nat) : Bool := match σ.2.2 a with
  | .inl _ => false
  | .inr o => o.1 == ci
def sQ (σ : Mem) (a : Nat) (i : Int32) (x : Option Nat) : Option Mem := match σ.2.2 a with
  | .inl (t, n, .inr (.inr (.inr (.inr f)))) => bif (t == 4 || t == 5) && inb i n && (match x with | none => true | some v => isC σ (bif t == 4 then 5 else 1) v) then some (setC σ a (.inl (t, n, .inr (.inr (.inr (.inr (va_up f i.toNatClampNeg x))))))) else none
  | _ => none
def aln (σ : Mem) (a : Nat) : Option Int32 := match σ.2.2 a with
  | .inl (t, n, _) => bif Nat.blt t 7 then some (Int32.ofNat n) else none
  | _ => none
/-- a text: how long, which sign -/
def tLen (σ : Mem) (a : Nat) : Option Int32 := match σ.2.2 a with
  | .inl (t, n, _) => bif t == 7 then some (Int32.ofNat n) else none
  | _ => none
def tCh (σ : Mem) (a : Nat) (i : Int32) : Option Int32 := match σ.2.2 a with
  | .inl (t, n, .inl f) => bif t == 7 && inb i n then some (f i.toNatClampNeg) else none
  | _ => none
def cpI (σ : Mem) (b : Nat) (sp : Int32) (a : Nat) (dp n : Int32) : Option Mem := match σ.2.2 b with
  | .inl (t0, n0, .inl f) => (match σ.2.2 a with
    | .inl (t1, n1, .inl g) => bif t0 == 0 && t1 == 0 && !decide (sp < 0) && !decide (dp < 0) && !decide (n < 0) && Nat.ble (sp.toNatClampNeg + n.toNatClampNeg) n0 && Nat.ble (dp.toNatClampNeg + n.toNatClampNeg) n1
        then some (setC σ a (.inl (t1, n1, .inl (va_cpy f g sp.toNatClampNeg dp.toNatClampNeg n.toNatClampNeg)))) else none
    | _ => none)
  | _ => none
def newA (σ : Mem) (t : Nat) (n : Int32) : Option (Nat × Mem) :=
  bif !decide (n < 0) && Nat.ble n.toNatClampNeg 1000000 then some (σ.1, addC σ n.toNatClampNeg (.inl (t, n.toNatClampNeg, bif t == 3 then .inr (.inl (fun _ => 0)) else bif t == 4 || t == 5 then .inr (.inr (.inr (.inr (fun _ => none)))) else .inl (fun _ => 0)))) else none
/-- what comes back of a call -/
def bI (o : Option Rs) (f : Int32 → Mem → Option Rs) : Option Rs := match o with
  | some (some (.int x), σ) => f x σ
  | _ => none
def bL (o : Option Rs) (f : Int64 → Mem → Option Rs) : Option Rs := match o with
  | some (some (.long x), σ) => f x σ
  | _ => none
def bQ (o : Option Rs) (f : Option Nat → Mem → Option Rs) : Option Rs := match o with
  | some (some (.ref x), σ) => f (some x) σ
  | some (some .null, σ) => f none σ
  | _ => none
def bR (o : Option Rs) (f : Nat → Mem → Option Rs) : Option Rs := match o with
  | some (some (.ref x), σ) => f x σ
  | _ => none
def bV (o : Option Rs) (f : Mem → Option Rs) : Option Rs := match o with
  | some (none, σ) => f σ
  | _ => none
/-- a read, and on with it -/
def bO {α : Type} (o : Option α) (f : α → Option Rs) : Option Rs := match o with
  | some x => f x
  | none => none
/-- a reference or none, told apart -/
def bN (q : Option Nat) (f : Option Rs) (g : Nat → Option Rs) : Option Rs := match q with
  | none => f
  | some x => g x
def lk : Nat → Ls → Option Value
  | _, [] => none
  | i, q :: l => bif q.1 == i then some q.2 else lk i l
def stl1 (i : Nat) (v : Value) (l : Ls) : Ls := (i, v) :: l.filter (fun q => !(q.1 == i) && !(q.1 + 1 == i && q.2.category == 2))
def stl2 (i : Nat) (v : Value) (l : Ls) : Ls := (i, v) :: l.filter (fun q => !(q.1 == i) && (!(q.1 == i + 1) && !(q.1 + 1 == i && q.2.category == 2)))
def nrm (is : List Nat) (l : Ls) : Ls := is.filterMap (fun i => (lk i l).map (fun v => (i, v)))
def sw (kn : Nat → Option Rs) (x : Int32) (dflt : Nat) : List Int32 → List Nat → Option Rs
  | k :: ks, t :: ts => if x = k then kn t else sw kn x dflt ks ts
  | _, _ => kn dflt
