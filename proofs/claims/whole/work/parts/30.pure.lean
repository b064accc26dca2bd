/-! ===== both languages, as functions of TOKENS: what is read, the steps, what it means ===== -/
abbrev EnvT : Type := Nat → Nat → Int
/-- a fault at a TOKEN, or: where it ends, how many PARTS, the steps, what it tells -/
abbrev PR (α : Type) : Type := Nat ⊕ (Nat × Nat × List Nat × (EnvT → Option α))
def wsg (o : Bool) (c : Nat) : Nat := bif o then (match c with | 14 => 25 | 15 => 23 | 16 => 19 | 17 => 21 | 18 => 22 | 19 => 24 | _ => 0) else (match c with | 8 => 12 | 9 => 13 | 10 => 15 | 11 => 16 | 12 => 18 | 13 => 20 | 14 => 14 | 15 => 17 | 16 => 19 | _ => 0)
def wlim (o : Bool) (c : Nat) : Option Nat := bif o then (match c with | 14 => some 9 | 15 => some 5 | 19 => some 9 | _ => none) else none
def rng (x : Int) : Option Int := if -1000000000 ≤ x ∧ x ≤ 1000000000 then some x else none
def cmb (op : Nat) (a b : Int) : Option Int :=
  if op = 1 then rng (a + b) else if op = 2 then rng (a - b) else if op = 3 then rng (a * b) else if b = 0 then none else if op = 4 then rng (a.tdiv b) else rng (a.tmod b)
def bin (op : Nat) (d1 d2 : EnvT → Option Int) : EnvT → Option Int := fun e => match d1 e with
  | none => none
  | some a => match d2 e with
    | none => none
    | some b => cmb op a b
def mulS (c : Nat) : Nat := if c = 142 then 3 else if c = 147 then 4 else if c = 137 then 5 else 0
def addS (c : Nat) : Nat := if c = 143 then 1 else if c = 145 then 2 else 0
def cmpS (c : Nat) : Nat := if c = 160 then 6 else if c = 162 then 7 else if c = 161 then 8 else 0
def cmpD (op : Nat) (d1 d2 : EnvT → Option Int) : EnvT → Option Bool := fun e => match d1 e with
  | none => none
  | some a => match d2 e with
    | none => none
    | some b => some (if op = 6 then decide (a < b) else if op = 7 then decide (b < a) else decide (a = b))
def negD (t : Bool) (d : EnvT → Option Bool) : EnvT → Option Bool := fun e => match d e with
  | none => none
  | some b => some (b != t)
def logD (sc : Bool) (d1 d2 : EnvT → Option Bool) : EnvT → Option Bool := fun e => match d1 e with
  | none => none
  | some b => if b = sc then some sc else d2 e
def notC (t : Bool) : List Nat := bif t then [9216] else []
section
variable (o : Bool) (C V : Nat → Nat)
def pPart (inner : Option (Nat → Nat → Nat → PR Int)) (c t l : Nat) : PR Int :=
  if C t = 191 then
    match inner with
    | none => .inl t
    | some sm => match sm c (t + 1) l with
      | .inl e => .inl e
      | .inr q => if C q.1 = 193 then .inr (q.1 + 1, q.2.1, q.2.2.1, q.2.2.2) else .inl q.1
  else if 50 ≤ l then .inl t
  else if C t = 50 then (if V t ≤ 1000 then .inr (t + 1, l + 1, [V t], fun _ => some (V t)) else .inl t)
  else if wsg o (C t) = 0 then .inl t
  else match wlim o (C t) with
    | none => .inr (t + 1, l + 1, [wsg o (C t) * 1024], fun e => some (e (wsg o (C t)) 0))
    | some m => if C (t + 1) = 50 ∧ V (t + 1) ≤ m then .inr (t + 2, l + 1, [wsg o (C t) * 1024 + V (t + 1)], fun e => some (e (wsg o (C t)) (V (t + 1)))) else .inl (t + 1)
def pChain (sg : Nat → Nat) (item : Nat → Nat → Nat → PR Int) : Nat → Nat → Nat → Nat → (EnvT → Option Int) → PR Int
  | 0, _, t, l, dn => .inr (t, l, [], dn)
  | m + 1, c, t, l, dn => if sg (C t) = 0 then .inr (t, l, [], dn) else match item c (t + 1) l with
    | .inl e => .inl e
    | .inr q => match pChain sg item m (c + q.2.2.1.length + 1) q.1 q.2.1 (bin (sg (C t)) dn q.2.2.2) with
      | .inl e => .inl e
      | .inr r => .inr (r.1, r.2.1, q.2.2.1 ++ (sg (C t) * 1024) :: r.2.2.1, r.2.2.2)
def pSeq (sg : Nat → Nat) (item : Nat → Nat → Nat → PR Int) (c t l : Nat) : PR Int := match item c t l with
  | .inl e => .inl e
  | .inr q => match pChain C sg item 401 (c + q.2.2.1.length) q.1 q.2.1 q.2.2.2 with
    | .inl e => .inl e
    | .inr r => .inr (r.1, r.2.1, q.2.2.1 ++ r.2.2.1, r.2.2.2)
def pTerm (inner : Option (Nat → Nat → Nat → PR Int)) : Nat → Nat → Nat → PR Int := pSeq C mulS (pPart o C V inner)
def pSum0 (inner : Option (Nat → Nat → Nat → PR Int)) : Nat → Nat → Nat → PR Int := pSeq C addS (pTerm o C V inner)
def pSum : Nat → Nat → Nat → Nat → PR Int
  | 0 => pSum0 o C V none
  | r + 1 => pSum0 o C V (some (pSum r))
def pNots : Nat → Nat → Nat × Bool
  | 0, t => (t, false)
  | m + 1, t => if C t = 7 then ((pNots m (t + 1)).1, !(pNots m (t + 1)).2) else (t, false)
def pPos (r : Nat) (inner : Option (Nat → Nat → Nat → PR Bool)) (c t l : Nat) : PR Bool :=
  if C t = 140 then
    match inner with
    | none => .inl t
    | some ts => match ts c (t + 1) l with
      | .inl e => .inl e
      | .inr q => if C q.1 = 141 then .inr (q.1 + 1, q.2.1, q.2.2.1, q.2.2.2) else .inl q.1
  else match pSum o C V r c t l with
    | .inl e => .inl e
    | .inr q => if cmpS (C q.1) = 0 then .inl q.1 else match pSum o C V r (c + q.2.2.1.length) (q.1 + 1) q.2.1 with
      | .inl e => .inl e
      | .inr q2 => .inr (q2.1, q2.2.1, q.2.2.1 ++ (q2.2.2.1 ++ [cmpS (C q.1) * 1024]), cmpD (cmpS (C q.1)) q.2.2.2 q2.2.2.2)
def pPlain (r : Nat) (inner : Option (Nat → Nat → Nat → PR Bool)) (c t l : Nat) : PR Bool := match pPos o C V r inner c (pNots C 401 t).1 l with
  | .inl e => .inl e
  | .inr q => .inr (q.1, q.2.1, q.2.2.1 ++ notC (pNots C 401 t).2, negD (pNots C 401 t).2 q.2.2.2)
def pLog (w sg : Nat) (sc : Bool) (item : Nat → Nat → Nat → PR Bool) : Nat → Nat → Nat → Nat → (EnvT → Option Bool) → PR Bool
  | 0, _, t, l, dn => .inr (t, l, [], dn)
  | m + 1, c, t, l, dn => if C t = w then (match item (c + 1) (t + 1) l with
    | .inl e => .inl e
    | .inr q => match pLog w sg sc item m (c + 1 + q.2.2.1.length) q.1 q.2.1 (logD sc dn q.2.2.2) with
      | .inl e => .inl e
      | .inr r => .inr (r.1, r.2.1, (sg * 1024 + (c + 1 + q.2.2.1.length)) :: (q.2.2.1 ++ r.2.2.1), r.2.2.2)) else .inr (t, l, [], dn)
def pJoin (w sg : Nat) (sc : Bool) (item : Nat → Nat → Nat → PR Bool) (c t l : Nat) : PR Bool := match item c t l with
  | .inl e => .inl e
  | .inr q => match pLog C w sg sc item 401 (c + q.2.2.1.length) q.1 q.2.1 q.2.2.2 with
    | .inl e => .inl e
    | .inr r => .inr (r.1, r.2.1, q.2.2.1 ++ r.2.2.1, r.2.2.2)
def pBoth (r : Nat) (inner : Option (Nat → Nat → Nat → PR Bool)) : Nat → Nat → Nat → PR Bool := pJoin C 6 11 false (pPlain o C V r inner)
def pTest0 (r : Nat) (inner : Option (Nat → Nat → Nat → PR Bool)) : Nat → Nat → Nat → PR Bool := pJoin C 5 10 true (pBoth o C V r inner)
def pTest : Nat → Nat → Nat → Nat → PR Bool
  | 0 => pTest0 o C V 0 none
  | r + 1 => pTest0 o C V (r + 1) (some (pTest r))
end
