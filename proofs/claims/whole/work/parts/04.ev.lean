/-! ===== one step, runs, and what a run comes to ===== -/
/-- the lesser, the greater -/
def mnI (x y : Int32) : Int32 := if y < x then y else x
def mxI (x y : Int32) : Int32 := if x < y then y else x
/-- what lies below a call's arguments is little -/
def okR (rest : List Value) : Bool := Nat.ble ((rest.map fun v => v.category).sum) 8
/-- the arguments fit the method's locals -/
def okA (mt : Nat) (args : List Value) : Bool := Nat.ble ((args.map fun v => v.category).sum) (mxs.getD mt 0)
/-- a call, by what comes back -/
def ivk (kc : Nat → List Value → Mem → Option Rs) (kn : List Value → Mem → Option Rs) (mt r : Nat) (args rest : List Value) (σ : Mem) : Option Rs :=
  match r with
  | 0 => bV (kc mt args σ) fun σ => kn rest σ
  | 1 => bI (kc mt args σ) fun x σ => kn (.int x :: rest) σ
  | 2 => bL (kc mt args σ) fun x σ => kn (.long x :: rest) σ
  | 3 => bQ (kc mt args σ) fun q σ => bN q (kn (.null :: rest) σ) fun x => kn (.ref x :: rest) σ
  | 4 => bR (kc mt args σ) fun x σ => kn (.ref x :: rest) σ
  | _ => none
/-- one instruction. kc: a call; kn: on in this method. ns: for a field its program, its place, its kind (0 int, 1 boolean, 2 reference, 3 reference or null); for a call the method, how many arguments, what comes back (0 nothing, 1 int, 2 long, 3 reference or null, 4 reference), the receiver's program + 1 (0: none) -/
def stepQ (kc : Nat → List Value → Mem → Option Rs) (kn : Nat → Ls → List Value → Mem → Option Rs) (rk : Nat) (e : EE) (ls : Ls) (st : List Value) (σ : Mem) : Option Rs :=
  match e.2.1 with
  | .iload_n _ | .iload _ => (match lk (e.2.2.2.1.getD 0 0) ls with
    | some (.int x) => kn (e.1 + e.2.2.1) ls (.int x :: st) σ
    | _ => none)
  | .lload_n _ | .lload _ => (match lk (e.2.2.2.1.getD 0 0) ls with
    | some (.long x) => kn (e.1 + e.2.2.1) ls (.long x :: st) σ
    | _ => none)
  | .aload_n _ | .aload _ => (match lk (e.2.2.2.1.getD 0 0) ls with
    | some (.ref x) => kn (e.1 + e.2.2.1) ls (.ref x :: st) σ
    | some .null => kn (e.1 + e.2.2.1) ls (.null :: st) σ
    | _ => none)
  | .istore_n _ | .istore _ => (match st with
    | .int x :: st => kn (e.1 + e.2.2.1) (stl1 (e.2.2.2.1.getD 0 0) (.int x) ls) st σ
    | _ => none)
  | .lstore_n _ | .lstore _ => (match st with
    | .long x :: st => kn (e.1 + e.2.2.1) (stl2 (e.2.2.2.1.getD 0 0) (.long x) ls) st σ
    | _ => none)
  | .astore_n _ | .astore _ => (match st with
    | .ref x :: st => kn (e.1 + e.2.2.1) (stl1 (e.2.2.2.1.getD 0 0) (.ref x) ls) st σ
    | .null :: st => kn (e.1 + e.2.2.1) (stl1 (e.2.2.2.1.getD 0 0) .null ls) st σ
    | _ => none)
  | .iinc _ _ => (match lk (e.2.2.2.1.getD 0 0) ls with
    | some (.int x) => kn (e.1 + e.2.2.1) (stl1 (e.2.2.2.1.getD 0 0) (.int (x + e.2.2.2.2.1.getD 0 0)) ls) st σ
    | _ => none)
  | .iconst _ | .bipush _ | .sipush _ => kn (e.1 + e.2.2.1) ls (.int (e.2.2.2.2.1.getD 0 0) :: st) σ
  | .ldc _ => (match e.2.2.2.1 with
    | [] => kn (e.1 + e.2.2.1) ls (.int (e.2.2.2.2.1.getD 0 0) :: st) σ
    | k :: _ => kn (e.1 + e.2.2.1) ls (.ref k :: st) σ)
  | .ldc_w _ => kn (e.1 + e.2.2.1) ls (.int (e.2.2.2.2.1.getD 0 0) :: st) σ
  | .lconst _ | .ldc2_w _ => kn (e.1 + e.2.2.1) ls (.long (e.2.2.2.2.2.getD 0 0) :: st) σ
  | .aconst_null => kn (e.1 + e.2.2.1) ls (.null :: st) σ
  | .iadd => (match st with | .int y :: .int x :: st => kn (e.1 + e.2.2.1) ls (.int (x + y) :: st) σ | _ => none)
  | .isub => (match st with | .int y :: .int x :: st => kn (e.1 + e.2.2.1) ls (.int (x - y) :: st) σ | _ => none)
  | .imul => (match st with | .int y :: .int x :: st => kn (e.1 + e.2.2.1) ls (.int (x * y) :: st) σ | _ => none)
  | .iand => (match st with | .int y :: .int x :: st => kn (e.1 + e.2.2.1) ls (.int (x &&& y) :: st) σ | _ => none)
  | .ior => (match st with | .int y :: .int x :: st => kn (e.1 + e.2.2.1) ls (.int (x ||| y) :: st) σ | _ => none)
  | .ixor => (match st with | .int y :: .int x :: st => kn (e.1 + e.2.2.1) ls (.int (x ^^^ y) :: st) σ | _ => none)
  | .ishl => (match st with | .int y :: .int x :: st => kn (e.1 + e.2.2.1) ls (.int (x <<< (y &&& 31)) :: st) σ | _ => none)
  | .ishr => (match st with | .int y :: .int x :: st => kn (e.1 + e.2.2.1) ls (.int (x >>> (y &&& 31)) :: st) σ | _ => none)
  | .iushr => (match st with | .int y :: .int x :: st => kn (e.1 + e.2.2.1) ls (.int (x.toUInt32 >>> (y.toUInt32 &&& Int32.toUInt32 31)).toInt32 :: st) σ | _ => none)
  | .ineg => (match st with | .int x :: st => kn (e.1 + e.2.2.1) ls (.int (-x) :: st) σ | _ => none)
  | .idiv => (match st with | .int y :: .int x :: st => if y = 0 then none else kn (e.1 + e.2.2.1) ls (.int (x / y) :: st) σ | _ => none)
  | .irem => (match st with | .int y :: .int x :: st => if y = 0 then none else kn (e.1 + e.2.2.1) ls (.int (x - x / y * y) :: st) σ | _ => none)
  | .ladd => (match st with | .long y :: .long x :: st => kn (e.1 + e.2.2.1) ls (.long (x + y) :: st) σ | _ => none)
  | .lsub => (match st with | .long y :: .long x :: st => kn (e.1 + e.2.2.1) ls (.long (x - y) :: st) σ | _ => none)
  | .lmul => (match st with | .long y :: .long x :: st => kn (e.1 + e.2.2.1) ls (.long (x * y) :: st) σ | _ => none)
  | .ldiv => (match st with | .long y :: .long x :: st => if y = 0 then none else kn (e.1 + e.2.2.1) ls (.long (x / y) :: st) σ | _ => none)
  | .lrem => (match st with | .long y :: .long x :: st => if y = 0 then none else kn (e.1 + e.2.2.1) ls (.long (x - x / y * y) :: st) σ | _ => none)
  | .lcmp => (match st with | .long y :: .long x :: st => kn (e.1 + e.2.2.1) ls (.int (lg_cmp x y) :: st) σ | _ => none)
  | .i2l => (match st with | .int x :: st => kn (e.1 + e.2.2.1) ls (.long x.toInt64 :: st) σ | _ => none)
  | .l2i => (match st with | .long x :: st => kn (e.1 + e.2.2.1) ls (.int x.toInt32 :: st) σ | _ => none)
  | .i2b => (match st with | .int x :: st => kn (e.1 + e.2.2.1) ls (.int x.toInt8.toInt32 :: st) σ | _ => none)
  | .dup => (match st with | .int x :: st => kn (e.1 + e.2.2.1) ls (.int x :: .int x :: st) σ | .ref x :: st => kn (e.1 + e.2.2.1) ls (.ref x :: .ref x :: st) σ | _ => none)
  | .dup_x1 => (match st with | .int y :: .ref x :: st => kn (e.1 + e.2.2.1) ls (.int y :: .ref x :: .int y :: st) σ | _ => none)
  | .dup2 => (match st with | .int y :: .ref x :: st => kn (e.1 + e.2.2.1) ls (.int y :: .ref x :: .int y :: .ref x :: st) σ | _ => none)
  | .pop => (match st with | .int _ :: st => kn (e.1 + e.2.2.1) ls st σ | _ => none)
  | .goto _ => kn (e.2.2.2.1.getD 0 0) ls st σ
  | .ifCond .eq _ => (match st with | .int x :: st => if x = 0 then kn (e.2.2.2.1.getD 0 0) ls st σ else kn (e.1 + e.2.2.1) ls st σ | _ => none)
  | .ifCond .ne _ => (match st with | .int x :: st => if x = 0 then kn (e.1 + e.2.2.1) ls st σ else kn (e.2.2.2.1.getD 0 0) ls st σ | _ => none)
  | .ifCond .lt _ => (match st with | .int x :: st => if x < 0 then kn (e.2.2.2.1.getD 0 0) ls st σ else kn (e.1 + e.2.2.1) ls st σ | _ => none)
  | .ifCond .ge _ => (match st with | .int x :: st => if 0 ≤ x then kn (e.2.2.2.1.getD 0 0) ls st σ else kn (e.1 + e.2.2.1) ls st σ | _ => none)
  | .ifCond .gt _ => (match st with | .int x :: st => if 0 < x then kn (e.2.2.2.1.getD 0 0) ls st σ else kn (e.1 + e.2.2.1) ls st σ | _ => none)
  | .ifCond .le _ => (match st with | .int x :: st => if x ≤ 0 then kn (e.2.2.2.1.getD 0 0) ls st σ else kn (e.1 + e.2.2.1) ls st σ | _ => none)
  | .if_icmp .eq _ => (match st with | .int y :: .int x :: st => if x = y then kn (e.2.2.2.1.getD 0 0) ls st σ else kn (e.1 + e.2.2.1) ls st σ | _ => none)
  | .if_icmp .ne _ => (match st with | .int y :: .int x :: st => if x = y then kn (e.1 + e.2.2.1) ls st σ else kn (e.2.2.2.1.getD 0 0) ls st σ | _ => none)
  | .if_icmp .lt _ => (match st with | .int y :: .int x :: st => if x < y then kn (e.2.2.2.1.getD 0 0) ls st σ else kn (e.1 + e.2.2.1) ls st σ | _ => none)
  | .if_icmp .ge _ => (match st with | .int y :: .int x :: st => if y ≤ x then kn (e.2.2.2.1.getD 0 0) ls st σ else kn (e.1 + e.2.2.1) ls st σ | _ => none)
  | .if_icmp .gt _ => (match st with | .int y :: .int x :: st => if y < x then kn (e.2.2.2.1.getD 0 0) ls st σ else kn (e.1 + e.2.2.1) ls st σ | _ => none)
  | .if_icmp .le _ => (match st with | .int y :: .int x :: st => if x ≤ y then kn (e.2.2.2.1.getD 0 0) ls st σ else kn (e.1 + e.2.2.1) ls st σ | _ => none)
  | .ifnull _ => (match st with | .null :: st => kn (e.2.2.2.1.getD 0 0) ls st σ | .ref _ :: st => kn (e.1 + e.2.2.1) ls st σ | _ => none)
  | .ifnonnull _ => (match st with | .null :: st => kn (e.1 + e.2.2.1) ls st σ | .ref _ :: st => kn (e.2.2.2.1.getD 0 0) ls st σ | _ => none)
  | .tableswitch _ _ _ _ => (match st with | .int x :: st => sw (fun t => kn t ls st σ) x (e.2.2.2.1.getD 0 0) e.2.2.2.2.1 (e.2.2.2.1.drop 1) | _ => none)
  | .getfield _ => (match st with
    | .ref a :: st => (match e.2.2.2.1 with
      | [ci, k, 2] => bO (gR σ ci a k) fun v => kn (e.1 + e.2.2.1) ls (.ref v :: st) σ
      | [ci, k, 3] => bO (gQ σ ci a k) fun q => bN q (kn (e.1 + e.2.2.1) ls (.null :: st) σ) fun v => kn (e.1 + e.2.2.1) ls (.ref v :: st) σ
      | [ci, k, _] => bO (gI σ ci a k) fun v => kn (e.1 + e.2.2.1) ls (.int v :: st) σ
      | _ => none)
    | _ => none)
  | .putfield _ => (match e.2.2.2.1 with
    | [ci, k, 0] => (match st with | .int v :: .ref a :: st => bO (pF σ ci a k (.int v)) fun σ => kn (e.1 + e.2.2.1) ls st σ | _ => none)
    | [ci, k, 1] => (match st with | .int v :: .ref a :: st => bif okZ v then bO (pF σ ci a k (.int v)) fun σ => kn (e.1 + e.2.2.1) ls st σ else none | _ => none)
    | [ci, k, _] => (match st with | .ref v :: .ref a :: st => bO (pF σ ci a k (.ref v)) fun σ => kn (e.1 + e.2.2.1) ls st σ | _ => none)
    | _ => none)
  | .iaload => (match st with | .int i :: .ref a :: st => bO (lI σ a i) fun v => kn (e.1 + e.2.2.1) ls (.int v :: st) σ | _ => none)
  | .baload => (match st with | .int i :: .ref a :: st => bO (lB σ a i) fun v => kn (e.1 + e.2.2.1) ls (.int v :: st) σ | _ => none)
  | .laload => (match st with | .int i :: .ref a :: st => bO (lL σ a i) fun v => kn (e.1 + e.2.2.1) ls (.long v :: st) σ | _ => none)
  | .aaload => (match st with | .int i :: .ref a :: st => bO (lQ σ a i) fun q => bN q (kn (e.1 + e.2.2.1) ls (.null :: st) σ) fun v => kn (e.1 + e.2.2.1) ls (.ref v :: st) σ | _ => none)
  | .iastore => (match st with | .int x :: .int i :: .ref a :: st => bO (sI σ a i x) fun σ => kn (e.1 + e.2.2.1) ls st σ | _ => none)
  | .bastore => (match st with | .int x :: .int i :: .ref a :: st => bO (sB σ a i x) fun σ => kn (e.1 + e.2.2.1) ls st σ | _ => none)
  | .lastore => (match st with | .long x :: .int i :: .ref a :: st => bO (sL σ a i x) fun σ => kn (e.1 + e.2.2.1) ls st σ | _ => none)
  | .aastore => (match st with
    | .ref x :: .int i :: .ref a :: st => bO (sQ σ a i (some x)) fun σ => kn (e.1 + e.2.2.1) ls st σ
    | .null :: .int i :: .ref a :: st => bO (sQ σ a i none) fun σ => kn (e.1 + e.2.2.1) ls st σ
    | _ => none)
  | .arraylength => (match st with | .ref a :: st => bO (aln σ a) fun v => kn (e.1 + e.2.2.1) ls (.int v :: st) σ | _ => none)
  | .newarray _ | .anewarray _ => (match st with | .int n :: st => bO (newA σ (e.2.2.2.1.getD 0 0) n) fun q => kn (e.1 + e.2.2.1) ls (.ref q.1 :: st) q.2 | _ => none)
  | .new _ => kn (e.1 + e.2.2.1) ls (.ref σ.1 :: st) (addC σ (e.2.2.2.1.getD 1 0) (.inr (e.2.2.2.1.getD 0 0, dfl (e.2.2.2.1.getD 0 0))))
  | .invokevirtual _ | .invokestatic _ | .invokespecial _ => (match e.2.2.2.1 with
    | [mt, n, r, 0] => bif okR (st.drop n) && (st.take n).length == n && okA mt (st.take n).reverse then ivk kc (fun st σ => kn (e.1 + e.2.2.1) ls st σ) mt r (st.take n).reverse (st.drop n) σ else none
    | [mt, n, r, c + 1] => bif okR (st.drop n) then (match (st.take n).reverse with
      | .ref a :: as => bif as.length + 1 == n && okA mt (.ref a :: as) then (bif isC σ c a then ivk kc (fun st σ => kn (e.1 + e.2.2.1) ls st σ) mt r (.ref a :: as) (st.drop n) σ else none) else none
      | _ => none) else none
    | [0] => (match st with | .ref _ :: st => bif okR st then kn (e.1 + e.2.2.1) ls st σ else none | _ => none)
    | [1] => (match st with | .int n :: .int dp :: .ref a :: .int sp :: .ref b :: st => bif okR st then bO (cpI σ b sp a dp n) (fun σ => kn (e.1 + e.2.2.1) ls st σ) else none | _ => none)
    | [2] => (match st with | .ref a :: st => bif okR st then bO (tLen σ a) (fun v => kn (e.1 + e.2.2.1) ls (.int v :: st) σ) else none | _ => none)
    | [4] => (match st with | .int y :: .int x :: st => bif okR st then kn (e.1 + e.2.2.1) ls (.int (mnI x y) :: st) σ else none | _ => none)
    | [5] => (match st with | .int y :: .int x :: st => bif okR st then kn (e.1 + e.2.2.1) ls (.int (mxI x y) :: st) σ else none | _ => none)
    | [3] => (match st with | .int i :: .ref a :: st => bif okR st then bO (tCh σ a i) (fun v => kn (e.1 + e.2.2.1) ls (.int v :: st) σ) else none | _ => none)
    | _ => none)
  | .ireturn => (match st with
    | [.int v] => bif rk == 1 then some (some (.int v), σ) else bif rk == 5 && okZ v then some (some (.int v), σ) else none
    | _ => none)
  | .lreturn => (match st with | [.long v] => bif rk == 2 then some (some (.long v), σ) else none | _ => none)
  | .areturn => (match st with
    | [.ref v] => bif rk == 3 || rk == 4 then some (some (.ref v), σ) else none
    | [.null] => bif rk == 3 || rk == 4 then some (some .null, σ) else none
    | _ => none)
  | .return_ => (match st with | [] => bif rk == 0 then some (none, σ) else none | _ => none)
  | _ => none
/-- where a method is cut: the locals that still matter there -/
def lvAt (m pc : Nat) : Option (List Nat) := (((cuts.getD m []).find? (fun q => q.1 == pc)).map (fun q => q.2))
def nrmAt (m pc : Nat) (ls : Ls) : Ls := match lvAt m pc with
  | none => ls
  | some is => nrm is ls
def insAt (m pc : Nat) : Option EE := (pgs.getD m []).find? (fun q => q.1 == pc)
/-- one step of method m at pc -/
def stepAt (kc : Nat → List Value → Mem → Option Rs) (kn : Nat → Ls → List Value → Mem → Option Rs) (m pc : Nat) (ls : Ls) (st : List Value) (σ : Mem) : Option Rs :=
  match insAt m pc with
  | none => none
  | some e => stepQ kc kn (rks.getD m 99) e (nrmAt m pc ls) st σ
/-- runs of at most n steps, at most d calls deep -/
def ev : Nat → Nat → Nat → Nat → Ls → List Value → Mem → Option Rs
  | 0, _, _, _, _, _, _ => none
  | n + 1, d, m, pc, ls, st, σ => stepAt (fun m' args σ' => match d with | 0 => none | d' + 1 => ev n d' m' 0 (lv_args 0 args) [] σ') (fun pc' ls' st' σ' => ev n d m pc' ls' st' σ') m pc ls st σ
/-- what a run comes to -/
noncomputable def Ev (d m pc : Nat) (ls : Ls) (st : List Value) (σ : Mem) : Option Rs := by
  classical
  exact if h : ∃ r, ∃ n, ev n d m pc ls st σ = some r then some h.choose else none
noncomputable def EC (d m : Nat) (args : List Value) (σ : Mem) : Option Rs := Ev d m 0 (lv_args 0 args) [] σ
noncomputable def ECs (d : Nat) (m : Nat) (args : List Value) (σ : Mem) : Option Rs := match d with
  | 0 => none
  | d + 1 => EC d m args σ
/-- the shapes of a step: it ends, it goes on, it calls and goes on, it fails -/
def ShapeQ (F : (Nat → List Value → Mem → Option Rs) → (Nat → Ls → List Value → Mem → Option Rs) → Option Rs) : Prop :=
  (∃ r, ∀ kc kn, F kc kn = r) ∨ (∃ pc ls st σ, ∀ kc kn, F kc kn = kn pc ls st σ) ∨
  (∃ (m : Nat) (args : List Value) (σ : Mem) (g : Rs → Option (Nat × Ls × List Value × Mem)), ∀ kc kn, F kc kn = match kc m args σ with
    | none => none
    | some r => match g r with
      | none => none
      | some q => kn q.1 q.2.1 q.2.2.1 q.2.2.2)
theorem ShapeQ.ret {r : Option Rs} : ShapeQ (fun _ _ => r) := Or.inl ⟨r, fun _ _ => rfl⟩
theorem ShapeQ.nxt {pc : Nat} {ls : Ls} {st : List Value} {σ : Mem} : ShapeQ (fun _ kn => kn pc ls st σ) := Or.inr (Or.inl ⟨pc, ls, st, σ, fun _ _ => rfl⟩)
theorem ShapeQ.rO {α : Type} {o : Option α} {f : α → (Nat → List Value → Mem → Option Rs) → (Nat → Ls → List Value → Mem → Option Rs) → Option Rs} (h : ∀ x, ShapeQ (f x)) : ShapeQ (fun kc kn => bO o (fun x => f x kc kn)) := by
  cases o with
  | none => exact ShapeQ.ret
  | some x => exact h x
theorem ShapeQ.rN {q : Option Nat} {f : (Nat → List Value → Mem → Option Rs) → (Nat → Ls → List Value → Mem → Option Rs) → Option Rs} {g : Nat → (Nat → List Value → Mem → Option Rs) → (Nat → Ls → List Value → Mem → Option Rs) → Option Rs} (hf : ShapeQ f) (h : ∀ x, ShapeQ (g x)) : ShapeQ (fun kc kn => bN q (f kc kn) (fun x => g x kc kn)) := by
  cases q with
  | none => exact hf
  | some x => exact h x
theorem ShapeQ.ite {c : Prop} [Decidable c] {f g : (Nat → List Value → Mem → Option Rs) → (Nat → Ls → List Value → Mem → Option Rs) → Option Rs} (hf : ShapeQ f) (hg : ShapeQ g) : ShapeQ (fun kc kn => if c then f kc kn else g kc kn) := by
  by_cases h : c
  · simp only [h, if_true]; exact hf
  · simp only [h, if_false]; exact hg
theorem ShapeQ.cnd {c : Bool} {f g : (Nat → List Value → Mem → Option Rs) → (Nat → Ls → List Value → Mem → Option Rs) → Option Rs} (hf : ShapeQ f) (hg : ShapeQ g) : ShapeQ (fun kc kn => bif c then f kc kn else g kc kn) := by
  cases c
  · exact hg
  · exact hf
theorem ShapeQ.rsw {x : Int32} {dflt : Nat} {ls : Ls} {st : List Value} {σ : Mem} : ∀ (ks : List Int32) (ts : List Nat), ShapeQ (fun _ kn => sw (fun t => kn t ls st σ) x dflt ks ts)
  | [], _ => ShapeQ.nxt
  | _ :: _, [] => ShapeQ.nxt
  | k :: ks, t :: ts => ShapeQ.ite (f := fun _ kn => kn t ls st σ) (g := fun _ kn => sw (fun t => kn t ls st σ) x dflt ks ts) ShapeQ.nxt (ShapeQ.rsw ks ts)
theorem ShapeQ.rI {mt r : Nat} {args rest : List Value} {σ : Mem} {pc : Nat} {ls : Ls} : ShapeQ (fun kc kn => ivk kc (fun st σ => kn pc ls st σ) mt r args rest σ) := by
  match r with
  | 0 =>
    refine Or.inr (Or.inr ⟨mt, args, σ, fun q => match q with | (none, σ) => some (pc, ls, rest, σ) | _ => none, fun kc kn => ?_⟩)
    show bV (kc mt args σ) _ = _
    rcases kc mt args σ with _ | ⟨_ | v, σ'⟩ <;> rfl
  | 1 =>
    refine Or.inr (Or.inr ⟨mt, args, σ, fun q => match q with | (some (.int x), σ) => some (pc, ls, .int x :: rest, σ) | _ => none, fun kc kn => ?_⟩)
    show bI (kc mt args σ) _ = _
    rcases kc mt args σ with _ | ⟨_ | v, σ'⟩
    · rfl
    · rfl
    · cases v <;> rfl
  | 2 =>
    refine Or.inr (Or.inr ⟨mt, args, σ, fun q => match q with | (some (.long x), σ) => some (pc, ls, .long x :: rest, σ) | _ => none, fun kc kn => ?_⟩)
    show bL (kc mt args σ) _ = _
    rcases kc mt args σ with _ | ⟨_ | v, σ'⟩
    · rfl
    · rfl
    · cases v <;> rfl
  | 3 =>
    refine Or.inr (Or.inr ⟨mt, args, σ, fun q => match q with | (some (.ref x), σ) => some (pc, ls, .ref x :: rest, σ) | (some .null, σ) => some (pc, ls, .null :: rest, σ) | _ => none, fun kc kn => ?_⟩)
    dsimp only [ivk]
    generalize kc mt args σ = o
    rcases o with _ | ⟨_ | v, σ'⟩
    · rfl
    · rfl
    · cases v <;> rfl
  | 4 =>
    refine Or.inr (Or.inr ⟨mt, args, σ, fun q => match q with | (some (.ref x), σ) => some (pc, ls, .ref x :: rest, σ) | _ => none, fun kc kn => ?_⟩)
    show bR (kc mt args σ) _ = _
    rcases kc mt args σ with _ | ⟨_ | v, σ'⟩
    · rfl
    · rfl
    · cases v <;> rfl
  | r + 5 => exact ShapeQ.ret
set_option maxHeartbeats 4000000 in
theorem step_shape (rk : Nat) (e : EE) (ls : Ls) (st : List Value) (σ : Mem) : ShapeQ (fun kc kn => stepQ kc kn rk e ls st σ) := by
  unfold stepQ
  split <;> (repeat' first
    | exact ShapeQ.ret
    | exact ShapeQ.nxt
    | exact ShapeQ.rsw _ _
    | exact ShapeQ.rI
    | refine ShapeQ.rO (fun _ => ?_)
    | refine ShapeQ.rN ?_ (fun _ => ?_)
    | refine ShapeQ.ite ?_ ?_
    | refine ShapeQ.cnd ?_ ?_
    | split)
theorem stepAt_shape (m pc : Nat) (ls : Ls) (st : List Value) (σ : Mem) : ShapeQ (fun kc kn => stepAt kc kn m pc ls st σ) := by
  unfold stepAt
  cases insAt m pc with
  | none => exact ShapeQ.ret
  | some e => exact step_shape _ _ _ _ _
/-- more steps: the same -/
theorem stepAt_mono {kc kc' : Nat → List Value → Mem → Option Rs} {kn kn' : Nat → Ls → List Value → Mem → Option Rs} {m pc : Nat} {ls : Ls} {st : List Value} {σ : Mem} {r : Rs}
    (hc : ∀ m a σ r, kc m a σ = some r → kc' m a σ = some r) (hn : ∀ p l s σ r, kn p l s σ = some r → kn' p l s σ = some r) (h : stepAt kc kn m pc ls st σ = some r) : stepAt kc' kn' m pc ls st σ = some r := by
  rcases stepAt_shape m pc ls st σ with ⟨q, hq⟩ | ⟨p, l, s, τ, hq⟩ | ⟨mt, a, τ, g, hq⟩
  · have h1 := hq kc kn; have h2 := hq kc' kn'
    dsimp only at h1 h2
    rw [h2, ← h1]; exact h
  · have h1 := hq kc kn; have h2 := hq kc' kn'
    dsimp only at h1 h2
    rw [h2]; exact hn _ _ _ _ _ (h1 ▸ h)
  · have h1 := hq kc kn; have h2 := hq kc' kn'
    dsimp only at h1 h2
    rw [h1] at h
    rw [h2]
    cases e1 : kc mt a τ with
    | none => rw [e1] at h; cases h
    | some r1 =>
      rw [e1] at h
      rw [hc _ _ _ _ e1]
      dsimp only at h ⊢
      cases e2 : g r1 with
      | none => rw [e2] at h; cases h
      | some q => rw [e2] at h; exact hn _ _ _ _ _ h
theorem ev_mono1 : ∀ (n d m pc : Nat) (ls : Ls) (st : List Value) (σ : Mem) (r : Rs), ev n d m pc ls st σ = some r → ev (n + 1) d m pc ls st σ = some r := by
  intro n
  induction n with
  | zero => intro d m pc ls st σ r h; cases h
  | succ n ih =>
    intro d m pc ls st σ r h
    rw [ev] at h ⊢
    refine stepAt_mono ?_ ?_ h
    · intro m' a τ r' h'
      cases d with
      | zero => cases h'
      | succ d => exact ih _ _ _ _ _ _ _ h'
    · intro p l s τ r' h'
      exact ih _ _ _ _ _ _ _ h'
theorem ev_mono {n k d m pc : Nat} {ls : Ls} {st : List Value} {σ : Mem} {r : Rs} (hk : n ≤ k) (h : ev n d m pc ls st σ = some r) : ev k d m pc ls st σ = some r := by
  induction hk with
  | refl => exact h
  | step _ ih => exact ev_mono1 _ _ _ _ _ _ _ _ ih
theorem Ev_iff {d m pc : Nat} {ls : Ls} {st : List Value} {σ : Mem} {r : Rs} : Ev d m pc ls st σ = some r ↔ ∃ n, ev n d m pc ls st σ = some r := by
  unfold Ev
  constructor
  · intro h
    split at h
    · rename_i hx
      cases h
      exact hx.choose_spec
    · cases h
  · rintro ⟨n, hn⟩
    have hx : ∃ r, ∃ n, ev n d m pc ls st σ = some r := ⟨r, n, hn⟩
    rw [dif_pos hx]
    obtain ⟨k, hk⟩ := hx.choose_spec
    have h1 := ev_mono (Nat.le_max_left n k) hn
    have h2 := ev_mono (Nat.le_max_right n k) hk
    rw [h1] at h2
    exact h2.symm
theorem opt_ext {α : Type} {x y : Option α} (h : ∀ r, x = some r ↔ y = some r) : x = y := by
  cases x with
  | none =>
    cases y with
    | none => rfl
    | some b => exact ((h b).mpr rfl)
  | some a => exact ((h a).mp rfl).symm
/-- a run is a step and a run -/
theorem Ev_fix (d m pc : Nat) (ls : Ls) (st : List Value) (σ : Mem) : Ev d m pc ls st σ = stepAt (ECs d) (fun pc' ls' st' σ' => Ev d m pc' ls' st' σ') m pc ls st σ := by
  apply opt_ext
  intro r
  rw [Ev_iff]
  constructor
  · rintro ⟨n, hn⟩
    cases n with
    | zero => cases hn
    | succ n =>
      rw [ev] at hn
      refine stepAt_mono ?_ ?_ hn
      · intro m' a τ r' h'
        cases d with
        | zero => cases h'
        | succ d => exact Ev_iff.mpr ⟨n, h'⟩
      · intro p l s τ r' h'
        exact Ev_iff.mpr ⟨n, h'⟩
  · intro h
    rcases stepAt_shape m pc ls st σ with ⟨q, hq⟩ | ⟨p, l, s, τ, hq⟩ | ⟨mt, a, τ, g, hq⟩
    · refine ⟨1, ?_⟩
      rw [ev]
      have h1 := hq (ECs d) (fun pc' ls' st' σ' => Ev d m pc' ls' st' σ')
      dsimp only at h1
      exact (hq _ _).trans (h1.symm.trans h)
    · have h1 := hq (ECs d) (fun pc' ls' st' σ' => Ev d m pc' ls' st' σ')
      dsimp only at h1
      rw [h1] at h
      obtain ⟨n, hn⟩ := Ev_iff.mp h
      refine ⟨n + 1, ?_⟩
      rw [ev]
      exact (hq _ _).trans hn
    · have h1 := hq (ECs d) (fun pc' ls' st' σ' => Ev d m pc' ls' st' σ')
      dsimp only at h1
      rw [h1] at h
      cases d with
      | zero => cases h
      | succ d =>
        cases e1 : ECs (d + 1) mt a τ with
        | none => rw [e1] at h; cases h
        | some r1 =>
          rw [e1] at h
          dsimp only at h
          cases e2 : g r1 with
          | none => rw [e2] at h; cases h
          | some q =>
            rw [e2] at h
            obtain ⟨n1, hn1⟩ := Ev_iff.mp (show Ev d mt 0 (lv_args 0 a) [] τ = some r1 from e1)
            obtain ⟨n2, hn2⟩ := Ev_iff.mp h
            refine ⟨max n1 n2 + 1, ?_⟩
            rw [ev]
            refine (hq _ _).trans ?_
            dsimp only
            rw [ev_mono (Nat.le_max_left n1 n2) hn1]
            dsimp only
            rw [e2]
            exact ev_mono (Nat.le_max_right n1 n2) hn2
theorem lk_nrm {i : Nat} {l : Ls} : ∀ (is : List Nat), lk i (nrm is l) = if i ∈ is then lk i l else none := by
  intro is
  induction is with
  | nil => rfl
  | cons j is ih =>
    show lk i (List.filterMap _ (j :: is)) = _
    rw [List.filterMap_cons]
    cases e : lk j l with
    | none =>
      show lk i (nrm is l) = _
      rw [ih]
      by_cases h : i = j
      · subst h; simp [e]
      · simp [h]
    | some v =>
      show (bif j == i then some v else lk i (nrm is l)) = _
      by_cases h : j = i
      · subst h; simp [e]
      · have h' : (j == i) = false := by simpa using h
        have h2 : i ≠ j := fun q => h q.symm
        simp [h', ih, h2]
theorem nrm_nrm (is : List Nat) (l : Ls) : nrm is (nrm is l) = nrm is l := by
  have key : ∀ js : List Nat, (∀ i ∈ js, i ∈ is) → nrm js (nrm is l) = nrm js l := by
    intro js
    induction js with
    | nil => intro _; rfl
    | cons j js ih =>
      intro h
      have e : lk j (nrm is l) = lk j l := by rw [lk_nrm, if_pos (h j List.mem_cons_self)]
      show List.filterMap _ (j :: js) = List.filterMap _ (j :: js)
      rw [List.filterMap_cons, List.filterMap_cons, e]
      have i1 := ih (fun i hi => h i (List.mem_cons_of_mem _ hi))
      unfold nrm at i1
      unfold nrm
      rw [i1]
  exact key is (fun _ h => h)
theorem nrmAt_idem (m pc : Nat) (l : Ls) : nrmAt m pc (nrmAt m pc l) = nrmAt m pc l := by
  unfold nrmAt
  cases lvAt m pc with
  | none => rfl
  | some is => exact nrm_nrm is l
theorem Ev_nrm (d m pc : Nat) (ls : Ls) (st : List Value) (σ : Mem) : Ev d m pc (nrmAt m pc ls) st σ = Ev d m pc ls st σ := by
  rw [Ev_fix, Ev_fix d m pc ls]
  unfold stepAt
  rw [nrmAt_idem]
/-- a stretch: up to K steps, stopping at cuts -/
def blk (kc : Nat → List Value → Mem → Option Rs) (kn : Nat → Ls → List Value → Mem → Option Rs) (m : Nat) : Nat → Nat → Ls → List Value → Mem → Option Rs
  | 0, pc, ls, st, σ => kn pc ls st σ
  | K + 1, pc, ls, st, σ => stepAt kc (fun pc' ls' st' σ' => match lvAt m pc' with
    | some is => kn pc' (nrm is ls') st' σ'
    | none => blk kc kn m K pc' ls' st' σ') m pc ls st σ
theorem Ev_blk0 (d m : Nat) : ∀ (K pc : Nat) (ls : Ls) (st : List Value) (σ : Mem), Ev d m pc ls st σ = blk (ECs d) (fun pc' ls' st' σ' => Ev d m pc' ls' st' σ') m K pc ls st σ := by
  intro K
  induction K with
  | zero => intro pc ls st σ; rfl
  | succ K ih =>
    intro pc ls st σ
    rw [Ev_fix]
    show _ = stepAt _ _ _ _ _ _ _
    congr 1
    funext pc' ls' st' σ'
    cases e : lvAt m pc' with
    | none => exact ih pc' ls' st' σ'
    | some is =>
      have h := Ev_nrm d m pc' ls' st' σ'
      unfold nrmAt at h
      rw [e] at h
      exact h.symm
theorem Ev_blk (d m K pc : Nat) (ls : Ls) (st : List Value) (σ : Mem) : Ev (d + 1) m pc ls st σ = blk (EC d) (fun pc' ls' st' σ' => Ev (d + 1) m pc' ls' st' σ') m K pc ls st σ := Ev_blk0 (d + 1) m K pc ls st σ
