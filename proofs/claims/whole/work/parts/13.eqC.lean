/-! ===== what each method does, a stretch at a time (printed by wip/whole/mkeqs.py) ===== -/
set_option maxRecDepth 100000 in
theorem q_Rules_init (d : Nat) (a0 : Nat) (σ : Mem) : EC (d + 1) mRules_init [.ref a0] σ =
  hO (newA σ 0 64) fun q1 =>
  hO (pF q1.2 7 a0 0 (.ref q1.1)) fun σ2 =>
  hO (pF σ2 7 a0 3 (.int (-1))) fun σ3 =>
  hO (pF σ3 7 a0 5 (.int (-1))) fun σ4 =>
  some (none, σ4) := (Ev_blk d mRules_init 14 _ _ _ _).trans rfl
set_option maxRecDepth 100000 in
theorem q_Rules_startOrders (d : Nat) (a0 : Nat) (a1 : Nat) (σ : Mem) : EC (d + 1) mRules_startOrders [.ref a0, .ref a1] σ =
  hO (pF σ 7 a0 1 (.ref a1)) fun σ1 =>
  hO (pF σ1 7 a0 4 (.int 0)) fun σ2 =>
  hO (pF σ2 7 a0 5 (.int (-1))) fun σ3 =>
  some (none, σ3) := (Ev_blk d mRules_startOrders 11 _ _ _ _).trans rfl
set_option maxRecDepth 100000 in
theorem q_Rules_payOf (d : Nat) (a0 : Nat) (a1 : Nat) (a2 : Int32) (σ : Mem) : EC (d + 1) mRules_payOf [.ref a0, .ref a1, .int a2] σ =
  hO (gR σ 1 a1 5) fun r1 =>
  hO (lI σ r1 a2) fun i2 =>
  bif isC σ 7 a0 then hI (EC d mRules_lastTold [.ref a0, .ref a1, .int a2, .int 4, .int i2] σ) fun i4 σ3 =>
  hI (EC d mRules_clamp [.int i4, .int 9999] σ3) fun i6 σ5 =>
  some (some (.int i6), σ5)
  else none := (Ev_blk d mRules_payOf 13 _ _ _ _).trans rfl
set_option maxRecDepth 100000 in
theorem q_Rules_wearOf (d : Nat) (a0 : Nat) (a1 : Nat) (a2 : Int32) (σ : Mem) : EC (d + 1) mRules_wearOf [.ref a0, .ref a1, .int a2] σ =
  hO (gR σ 1 a1 13) fun r1 =>
  hO (lI σ r1 1) fun i2 =>
  bif isC σ 7 a0 then hI (EC d mRules_lastTold [.ref a0, .ref a1, .int a2, .int 5, .int i2] σ) fun i4 σ3 =>
  hI (EC d mRules_clamp [.int i4, .int 12] σ3) fun i6 σ5 =>
  some (some (.int i6), σ5)
  else none := (Ev_blk d mRules_wearOf 13 _ _ _ _).trans rfl
set_option maxRecDepth 100000 in
theorem q_Rules_clamp (d : Nat) (a0 : Int32) (a1 : Int32) (σ : Mem) : EC (d + 1) mRules_clamp [.int a0, .int a1] σ =
  some (some (.int (mxI 0 (mnI a1 a0))), σ) := (Ev_blk d mRules_clamp 7 _ _ _ _).trans rfl
set_option maxRecDepth 100000 in
theorem q_Rules_lastTold (d : Nat) (a0 : Nat) (a1 : Nat) (a2 : Int32) (a3 : Int32) (a4 : Int32) (σ : Mem) : EC (d + 1) mRules_lastTold [.ref a0, .ref a1, .int a2, .int a3, .int a4] σ =
  bif isC σ 1 a1 then hQ (EC d mChest_lawInForce [.ref a1] σ) fun q2 σ1 =>
  hN q2 (
    some (some (.int a4), σ1)) fun r3 =>
  bif isC σ1 1 a1 then hI (EC d mChest_hasStick [.ref a1, .int a2] σ1) fun i5 σ4 =>
  if i5 = 0 then
    some (some (.int a4), σ4)
  else
  hO (pF σ4 7 a0 1 (.ref a1)) fun σ6 =>
  hO (pF σ6 7 a0 2 (.int a2)) fun σ7 =>
  hO (pF σ7 7 a0 3 (.int (-1))) fun σ8 =>
  hO (gI σ8 5 r3 0) fun i9 =>
  Ev (d + 1) mRules_lastTold 46 [(0, .ref a0), (3, .int a3), (4, .int a4), (5, .ref r3), (6, .int (i9 - (1 : Int32)))] [] σ8
  else none
  else none := (Ev_blk d mRules_lastTold 24 _ _ _ _).trans rfl
set_option maxRecDepth 100000 in
theorem q_Rules_lastTold_46 (d : Nat) (x0 : Nat) (x3 : Int32) (x4 : Int32) (x5 : Nat) (x6 : Int32) (σ : Mem) : Ev (d + 1) mRules_lastTold 46 [(0, .ref x0), (3, .int x3), (4, .int x4), (5, .ref x5), (6, .int x6)] [] σ =
  if x6 < 0 then
    some (some (.int x4), σ)
  else
  bif isC σ 5 x5 then hI (EC d mProgram_headOf [.ref x5, .int x6, .int 4] σ) fun i2 σ1 =>
  bif isC σ1 5 x5 then hI (EC d mProgram_headOf [.ref x5, .int x6, .int 0] σ1) fun i4 σ3 =>
  if i4 = x3 then
    bif isC σ3 5 x5 then hI (EC d mProgram_headOf [.ref x5, .int x6, .int 5] σ3) fun i6 σ5 =>
    bif isC σ5 7 x0 then hI (EC d mRules_compute [.ref x0, .ref x5, .int i2, .int i6] σ5) fun i8 σ7 =>
    if i8 = 1 then
      bif isC σ7 5 x5 then hI (EC d mProgram_headOf [.ref x5, .int x6, .int 2] σ7) fun i10 σ9 =>
      bif isC σ9 7 x0 then hI (EC d mRules_compute [.ref x0, .ref x5, .int i10, .int i2] σ9) fun i12 σ11 =>
      if i12 = (-2000000000) then
        Ev (d + 1) mRules_lastTold 46 [(0, .ref x0), (3, .int x3), (4, .int x4), (5, .ref x5), (6, .int (x6 + (-1)))] [] σ11
      else
      some (some (.int i12), σ11)
      else none
      else none
    else
    Ev (d + 1) mRules_lastTold 46 [(0, .ref x0), (3, .int x3), (4, .int x4), (5, .ref x5), (6, .int (x6 + (-1)))] [] σ7
    else none
    else none
  else
  Ev (d + 1) mRules_lastTold 46 [(0, .ref x0), (3, .int x3), (4, .int x4), (5, .ref x5), (6, .int (x6 + (-1)))] [] σ3
  else none
  else none := (Ev_blk d mRules_lastTold 38 _ _ _ _).trans rfl
set_option maxRecDepth 100000 in
theorem q_Rules_isBarred (d : Nat) (a0 : Nat) (a1 : Nat) (a2 : Int32) (a3 : Int32) (σ : Mem) : EC (d + 1) mRules_isBarred [.ref a0, .ref a1, .int a2, .int a3] σ =
  bif isC σ 1 a1 then hQ (EC d mChest_lawInForce [.ref a1] σ) fun q2 σ1 =>
  hN q2 (
    some (some (.int 0), σ1)) fun r3 =>
  bif isC σ1 1 a1 then hI (EC d mChest_hasStick [.ref a1, .int a2] σ1) fun i5 σ4 =>
  if i5 = 0 then
    some (some (.int 0), σ4)
  else
  hO (pF σ4 7 a0 1 (.ref a1)) fun σ6 =>
  hO (pF σ6 7 a0 2 (.int a2)) fun σ7 =>
  hO (pF σ7 7 a0 3 (.int a3)) fun σ8 =>
  Ev (d + 1) mRules_isBarred 39 [(0, .ref a0), (4, .ref r3), (5, .int 0)] [] σ8
  else none
  else none := (Ev_blk d mRules_isBarred 21 _ _ _ _).trans rfl
set_option maxRecDepth 100000 in
theorem q_Rules_isBarred_39 (d : Nat) (x0 : Nat) (x4 : Nat) (x5 : Int32) (σ : Mem) : Ev (d + 1) mRules_isBarred 39 [(0, .ref x0), (4, .ref x4), (5, .int x5)] [] σ =
  hO (gI σ 5 x4 0) fun i1 =>
  if i1 ≤ x5 then
    some (some (.int 0), σ)
  else
  bif isC σ 5 x4 then hI (EC d mProgram_headOf [.ref x4, .int x5, .int 0] σ) fun i3 σ2 =>
  if i3 = 6 then
    bif isC σ2 5 x4 then hI (EC d mProgram_headOf [.ref x4, .int x5, .int 4] σ2) fun i5 σ4 =>
    bif isC σ4 5 x4 then hI (EC d mProgram_headOf [.ref x4, .int x5, .int 5] σ4) fun i7 σ6 =>
    bif isC σ6 7 x0 then hI (EC d mRules_compute [.ref x0, .ref x4, .int i5, .int i7] σ6) fun i9 σ8 =>
    if i9 = 1 then
      some (some (.int 1), σ8)
    else
    Ev (d + 1) mRules_isBarred 39 [(0, .ref x0), (4, .ref x4), (5, .int (x5 + 1))] [] σ8
    else none
    else none
    else none
  else
  Ev (d + 1) mRules_isBarred 39 [(0, .ref x0), (4, .ref x4), (5, .int (x5 + 1))] [] σ2
  else none := (Ev_blk d mRules_isBarred 26 _ _ _ _).trans rfl
set_option maxRecDepth 100000 in
theorem q_Rules_tryGive (d : Nat) (a0 : Nat) (a1 : Nat) (a2 : Int32) (a3 : Int32) (σ : Mem) : EC (d + 1) mRules_tryGive [.ref a0, .ref a1, .int a2, .int a3] σ =
  bif isC σ 1 a1 then hI (EC d mChest_hasStick [.ref a1, .int a2] σ) fun i2 σ1 =>
  if i2 = 0 then
    some (some (.int (-2)), σ1)
  else
  bif isC σ1 1 a1 then hI (EC d mChest_hasPerson [.ref a1, .int a3] σ1) fun i4 σ3 =>
  if i4 = 0 then
    some (some (.int (-2)), σ3)
  else
  hO (gR σ3 1 a1 4) fun r5 =>
  hO (lI σ3 r5 a2) fun i6 =>
  bif isC σ3 1 a1 then hI (EC d mChest_isOpen [.ref a1, .int a2] σ3) fun i8 σ7 =>
  if i8 = 0 then
    some (some (.int (-3)), σ7)
  else
  if i6 = a3 then
    some (some (.int (-3)), σ7)
  else
  bif isC σ7 7 a0 then hI (EC d mRules_isBarred [.ref a0, .ref a1, .int a2, .int a3] σ7) fun i10 σ9 =>
  if i10 = 0 then
    hO (gR σ9 1 a1 3) fun r11 =>
    hO (lI σ9 r11 a2) fun i12 =>
    if i12 = a3 then
      hO (gR σ9 1 a1 9) fun r13 =>
      hO (sI σ9 r13 a2 1) fun σ14 =>
      some (some (.int i6), σ14)
    else
    hO (gR σ9 1 a1 4) fun r15 =>
    hO (sI σ9 r15 a2 a3) fun σ16 =>
    some (some (.int i6), σ16)
  else
  some (some (.int (-3)), σ9)
  else none
  else none
  else none
  else none := (Ev_blk d mRules_tryGive 41 _ _ _ _).trans rfl
set_option maxRecDepth 100000 in
theorem q_Rules_tryCall (d : Nat) (a0 : Nat) (a1 : Nat) (a2 : Int32) (σ : Mem) : EC (d + 1) mRules_tryCall [.ref a0, .ref a1, .int a2] σ =
  bif isC σ 1 a1 then hI (EC d mChest_hasStick [.ref a1, .int a2] σ) fun i2 σ1 =>
  if i2 = 0 then
    some (some (.int (-2)), σ1)
  else
  bif isC σ1 1 a1 then hI (EC d mChest_isCallable [.ref a1, .int a2] σ1) fun i4 σ3 =>
  if i4 = 0 then
    some (some (.int (-3)), σ3)
  else
  bif isC σ3 7 a0 then hI (EC d mRules_payOf [.ref a0, .ref a1, .int a2] σ3) fun i6 σ5 =>
  bif isC σ5 1 a1 then hI (EC d mChest_payOver [.ref a1, .int a2, .int i6] σ5) fun i8 σ7 =>
  if i8 = 0 then
    some (some (.int (-3)), σ7)
  else
  hO (gR σ7 1 a1 9) fun r9 =>
  hO (sI σ7 r9 a2 1) fun σ10 =>
  some (some (.int i6), σ10)
  else none
  else none
  else none
  else none := (Ev_blk d mRules_tryCall 26 _ _ _ _).trans rfl
set_option maxRecDepth 100000 in
theorem q_Rules_tryShave (d : Nat) (a0 : Nat) (a1 : Nat) (a2 : Int32) (a3 : Int32) (σ : Mem) : EC (d + 1) mRules_tryShave [.ref a0, .ref a1, .int a2, .int a3] σ =
  if a3 < 1 then
    some (some (.int (-1)), σ)
  else
  if a3 ≤ 998 then
    bif isC σ 1 a1 then hI (EC d mChest_hasStick [.ref a1, .int a2] σ) fun i2 σ1 =>
    if i2 = 0 then
      some (some (.int (-2)), σ1)
    else
    bif isC σ1 1 a1 then hI (EC d mChest_isOpen [.ref a1, .int a2] σ1) fun i4 σ3 =>
    if i4 = 0 then
      some (some (.int (-3)), σ3)
    else
    hO (gR σ3 1 a1 5) fun r5 =>
    hO (lI σ3 r5 a2) fun i6 =>
    if i6 ≤ a3 then
      some (some (.int (-3)), σ3)
    else
    bif isC σ3 1 a1 then hI (EC d mChest_payOver [.ref a1, .int a2, .int a3] σ3) fun i8 σ7 =>
    if i8 = 0 then
      some (some (.int (-3)), σ7)
    else
    hO (gR σ7 1 a1 5) fun r9 =>
    hO (lI σ7 r9 a2) fun i10 =>
    hO (sI σ7 r9 a2 (i10 - a3)) fun σ11 =>
    hO (gR σ11 1 a1 5) fun r12 =>
    hO (lI σ11 r12 a2) fun i13 =>
    some (some (.int i13), σ11)
    else none
    else none
    else none
  else
  some (some (.int (-1)), σ) := (Ev_blk d mRules_tryShave 39 _ _ _ _).trans rfl
set_option maxRecDepth 100000 in
theorem q_Rules_tryPass (d : Nat) (a0 : Nat) (a1 : Nat) (σ : Mem) : EC (d + 1) mRules_tryPass [.ref a0, .ref a1] σ =
  hO (gR σ 1 a1 13) fun r1 =>
  hO (lI σ r1 0) fun i2 =>
  if i2 < 999 then
    hO (gR σ 1 a1 13) fun r3 =>
    hO (lI σ r3 0) fun i4 =>
    hO (sI σ r3 0 (i4 + (1 : Int32))) fun σ5 =>
    hO (gR σ5 1 a1 13) fun r6 =>
    hO (lI σ5 r6 0) fun i7 =>
    some (some (.int i7), σ5)
  else
  some (some (.int (-3)), σ) := (Ev_blk d mRules_tryPass 20 _ _ _ _).trans rfl
set_option maxRecDepth 100000 in
theorem q_Rules_compute (d : Nat) (a0 : Nat) (a1 : Nat) (a2 : Int32) (a3 : Int32) (σ : Mem) : EC (d + 1) mRules_compute [.ref a0, .ref a1, .int a2, .int a3] σ =
  hO (gR σ 5 a1 3) fun r1 =>
  hO (aln σ r1) fun i2 =>
  if a2 < 0 then
    some (some (.int 1), σ)
  else
  if a2 < (mnI a3 i2) then
    Ev (d + 1) mRules_compute 29 [(0, .ref a0), (1, .ref a1), (4, .int 0), (5, .int (mnI a3 i2)), (6, .int a2)] [] σ
  else
  some (some (.int 1), σ) := (Ev_blk d mRules_compute 16 _ _ _ _).trans rfl
set_option maxRecDepth 100000 in
theorem q_Rules_compute_29 (d : Nat) (x0 : Nat) (x1 : Nat) (x4 : Int32) (x5 : Int32) (x6 : Int32) (σ : Mem) : Ev (d + 1) mRules_compute 29 [(0, .ref x0), (1, .ref x1), (4, .int x4), (5, .int x5), (6, .int x6)] [] σ =
  if x5 ≤ x6 then
    if x4 = 1 then
      hO (gR σ 7 x0 0) fun r1 =>
      hO (lI σ r1 0) fun i2 =>
      some (some (.int i2), σ)
    else
    some (some (.int (-2000000000)), σ)
  else
  hO (gR σ 5 x1 3) fun r3 =>
  hO (lI σ r3 x6) fun i4 =>
  if (1024 : Int32) = 0 then none else
  hO (gR σ 5 x1 3) fun r5 =>
  hO (lI σ r5 x6) fun i6 =>
  if (1024 : Int32) = 0 then none else
  if 12 ≤ ((i4 / (1024 : Int32)) : Int32) then
    Ev (d + 1) mRules_compute 74 [(0, .ref x0), (1, .ref x1), (4, .int x4), (5, .int x5), (6, .int x6), (7, .int (i4 / (1024 : Int32))), (8, .int (i6 - i6 / (1024 : Int32) * (1024 : Int32)))] [] σ
  else
  if ((i4 / (1024 : Int32)) : Int32) = 0 then
    Ev (d + 1) mRules_compute 74 [(0, .ref x0), (1, .ref x1), (4, .int x4), (5, .int x5), (6, .int x6), (7, .int (i4 / (1024 : Int32))), (8, .int (i6 - i6 / (1024 : Int32) * (1024 : Int32)))] [] σ
  else
  if 1 ≤ x4 then
    if ((i4 / (1024 : Int32)) : Int32) = 9 then
      hO (gR σ 7 x0 0) fun r7 =>
      hO (gR σ 7 x0 0) fun r8 =>
      hO (lI σ r8 (x4 - (1 : Int32))) fun i9 =>
      hO (sI σ r7 (x4 - (1 : Int32)) ((1 : Int32) - i9)) fun σ10 =>
      Ev (d + 1) mRules_compute 29 [(0, .ref x0), (1, .ref x1), (4, .int x4), (5, .int x5), (6, .int (x6 + 1))] [] σ10
    else
    if ((i4 / (1024 : Int32)) : Int32) = 10 then
      Ev (d + 1) mRules_compute 168 [(0, .ref x0), (1, .ref x1), (4, .int x4), (5, .int x5), (6, .int x6), (7, .int (i4 / (1024 : Int32))), (8, .int (i6 - i6 / (1024 : Int32) * (1024 : Int32)))] [] σ
    else
    if ((i4 / (1024 : Int32)) : Int32) = 11 then
      Ev (d + 1) mRules_compute 168 [(0, .ref x0), (1, .ref x1), (4, .int x4), (5, .int x5), (6, .int x6), (7, .int (i4 / (1024 : Int32))), (8, .int (i6 - i6 / (1024 : Int32) * (1024 : Int32)))] [] σ
    else
    if 2 ≤ x4 then
      hO (gR σ 7 x0 0) fun r11 =>
      hO (gR σ 7 x0 0) fun r12 =>
      hO (lI σ r12 ((x4 + (-1)) - (1 : Int32))) fun i13 =>
      hO (gR σ 7 x0 0) fun r14 =>
      hO (lI σ r14 (x4 + (-1))) fun i15 =>
      hI (EC d mRules_combine [.int (i4 / (1024 : Int32)), .int i13, .int i15] σ) fun i17 σ16 =>
      hO (sI σ16 r11 ((x4 + (-1)) - (1 : Int32)) i17) fun σ18 =>
      hO (gR σ18 7 x0 0) fun r19 =>
      hO (lI σ18 r19 ((x4 + (-1)) - (1 : Int32))) fun i20 =>
      if i20 = (-2000000000) then
        some (some (.int (-2000000000)), σ18)
      else
      Ev (d + 1) mRules_compute 29 [(0, .ref x0), (1, .ref x1), (4, .int (x4 + (-1))), (5, .int x5), (6, .int (x6 + 1))] [] σ18
    else
    some (some (.int (-2000000000)), σ)
  else
  some (some (.int (-2000000000)), σ) := (Ev_blk d mRules_compute 67 _ _ _ _).trans rfl
set_option maxRecDepth 100000 in
theorem q_Rules_compute_74 (d : Nat) (x0 : Nat) (x1 : Nat) (x4 : Int32) (x5 : Int32) (x6 : Int32) (x7 : Int32) (x8 : Int32) (σ : Mem) : Ev (d + 1) mRules_compute 74 [(0, .ref x0), (1, .ref x1), (4, .int x4), (5, .int x5), (6, .int x6), (7, .int x7), (8, .int x8)] [] σ =
  if x4 < 64 then
    hO (gR σ 7 x0 0) fun r1 =>
    if x7 = 0 then
      hO (sI σ r1 x4 x8) fun σ2 =>
      Ev (d + 1) mRules_compute 29 [(0, .ref x0), (1, .ref x1), (4, .int (x4 + 1)), (5, .int x5), (6, .int (x6 + 1))] [] σ2
    else
    bif isC σ 7 x0 then hI (EC d mRules_wordValue [.ref x0, .int x7, .int x8] σ) fun i4 σ3 =>
    hO (sI σ3 r1 x4 i4) fun σ5 =>
    Ev (d + 1) mRules_compute 29 [(0, .ref x0), (1, .ref x1), (4, .int (x4 + 1)), (5, .int x5), (6, .int (x6 + 1))] [] σ5
    else none
  else
  some (some (.int (-2000000000)), σ) := (Ev_blk d mRules_compute 18 _ _ _ _).trans rfl
set_option maxRecDepth 100000 in
theorem q_Rules_compute_168 (d : Nat) (x0 : Nat) (x1 : Nat) (x4 : Int32) (x5 : Int32) (x6 : Int32) (x7 : Int32) (x8 : Int32) (σ : Mem) : Ev (d + 1) mRules_compute 168 [(0, .ref x0), (1, .ref x1), (4, .int x4), (5, .int x5), (6, .int x6), (7, .int x7), (8, .int x8)] [] σ =
  hO (gR σ 7 x0 0) fun r1 =>
  hO (lI σ r1 (x4 - (1 : Int32))) fun i2 =>
  if x7 = 10 then
    Ev (d + 1) mRules_compute 189 [(0, .ref x0), (1, .ref x1), (4, .int x4), (5, .int x5), (6, .int x6), (8, .int x8)] [.int 1, .int i2] σ
  else
  Ev (d + 1) mRules_compute 189 [(0, .ref x0), (1, .ref x1), (4, .int x4), (5, .int x5), (6, .int x6), (8, .int x8)] [.int 0, .int i2] σ := (Ev_blk d mRules_compute 12 _ _ _ _).trans rfl
set_option maxRecDepth 100000 in
theorem q_Rules_compute_189 (d : Nat) (x0 : Nat) (x1 : Nat) (x4 : Int32) (x5 : Int32) (x6 : Int32) (x8 : Int32) (y0 : Int32) (y1 : Int32) (σ : Mem) : Ev (d + 1) mRules_compute 189 [(0, .ref x0), (1, .ref x1), (4, .int x4), (5, .int x5), (6, .int x6), (8, .int x8)] [.int y0, .int y1] σ =
  if y1 = y0 then
    Ev (d + 1) mRules_compute 29 [(0, .ref x0), (1, .ref x1), (4, .int x4), (5, .int x5), (6, .int ((mxI x6 (x8 - (1 : Int32))) + 1))] [] σ
  else
  Ev (d + 1) mRules_compute 29 [(0, .ref x0), (1, .ref x1), (4, .int (x4 + (-1))), (5, .int x5), (6, .int (x6 + 1))] [] σ := (Ev_blk d mRules_compute 11 _ _ _ _).trans rfl
set_option maxRecDepth 100000 in
theorem q_Rules_combine (d : Nat) (a0 : Int32) (a1 : Int32) (a2 : Int32) (σ : Mem) : EC (d + 1) mRules_combine [.int a0, .int a1, .int a2] σ =
  if a0 = 1 then
    Ev (d + 1) mRules_combine 140 [(3, .long ((Int32.toInt64 a1) + (Int32.toInt64 a2)))] [] σ
  else if a0 = 2 then
    Ev (d + 1) mRules_combine 140 [(3, .long ((Int32.toInt64 a1) - (Int32.toInt64 a2)))] [] σ
  else if a0 = 3 then
    Ev (d + 1) mRules_combine 140 [(3, .long ((Int32.toInt64 a1) * (Int32.toInt64 a2)))] [] σ
  else if a0 = 4 then
    if a2 = 0 then
      some (some (.int (-2000000000)), σ)
    else
    if (a2 : Int32) = 0 then none else
    Ev (d + 1) mRules_combine 140 [(3, .long (Int32.toInt64 (a1 / a2)))] [] σ
  else if a0 = 5 then
    if a2 = 0 then
      some (some (.int (-2000000000)), σ)
    else
    if (a2 : Int32) = 0 then none else
    Ev (d + 1) mRules_combine 140 [(3, .long (Int32.toInt64 (a1 - a1 / a2 * a2)))] [] σ
  else if a0 = 6 then
    if a2 ≤ a1 then
      Ev (d + 1) mRules_combine 140 [(3, .long 0)] [] σ
    else
    Ev (d + 1) mRules_combine 140 [(3, .long 1)] [] σ
  else if a0 = 7 then
    if a1 ≤ a2 then
      Ev (d + 1) mRules_combine 140 [(3, .long 0)] [] σ
    else
    Ev (d + 1) mRules_combine 140 [(3, .long 1)] [] σ
  else 
  if a1 = a2 then
    Ev (d + 1) mRules_combine 140 [(3, .long 1)] [] σ
  else
  Ev (d + 1) mRules_combine 140 [(3, .long 0)] [] σ := (Ev_blk d mRules_combine 11 _ _ _ _).trans rfl
set_option maxRecDepth 100000 in
theorem q_Rules_combine_140 (d : Nat) (x3 : Int64) (σ : Mem) : Ev (d + 1) mRules_combine 140 [(3, .long x3)] [] σ =
  if 0 < ((lg_cmp x3 1000000000) : Int32) then
    some (some (.int (-2000000000)), σ)
  else
  if 0 ≤ ((lg_cmp x3 (-1000000000)) : Int32) then
    some (some (.int (Int64.toInt32 x3)), σ)
  else
  some (some (.int (-2000000000)), σ) := (Ev_blk d mRules_combine 12 _ _ _ _).trans rfl
set_option maxRecDepth 100000 in
theorem q_Rules_wordValue (d : Nat) (a0 : Nat) (a1 : Int32) (a2 : Int32) (σ : Mem) : EC (d + 1) mRules_wordValue [.ref a0, .int a1, .int a2] σ =
  hO (gQ σ 7 a0 1) fun q1 =>
  hN q1 (
    some (some (.int (-1)), σ)) fun r2 =>
  if a1 = 12 then
    hO (gR σ 1 r2 3) fun r3 =>
    hO (gI σ 7 a0 2) fun i4 =>
    hO (lI σ r3 i4) fun i5 =>
    some (some (.int i5), σ)
  else if a1 = 13 then
    hO (gR σ 1 r2 4) fun r6 =>
    hO (gI σ 7 a0 2) fun i7 =>
    hO (lI σ r6 i7) fun i8 =>
    some (some (.int i8), σ)
  else if a1 = 14 then
    hO (gR σ 1 r2 5) fun r9 =>
    hO (gI σ 7 a0 2) fun i10 =>
    hO (lI σ r9 i10) fun i11 =>
    some (some (.int i11), σ)
  else if a1 = 15 then
    hO (gR σ 1 r2 7) fun r12 =>
    hO (gI σ 7 a0 2) fun i13 =>
    hO (lI σ r12 i13) fun i14 =>
    some (some (.int i14), σ)
  else if a1 = 16 then
    hO (gR σ 1 r2 13) fun r15 =>
    hO (lI σ r15 0) fun i16 =>
    hO (gR σ 1 r2 8) fun r17 =>
    hO (gI σ 7 a0 2) fun i18 =>
    hO (lI σ r17 i18) fun i19 =>
    some (some (.int (i16 - i19)), σ)
  else if a1 = 17 then
    hO (gR σ 1 r2 1) fun r20 =>
    hO (gR σ 1 r2 3) fun r21 =>
    hO (gI σ 7 a0 2) fun i22 =>
    hO (lI σ r21 i22) fun i23 =>
    hO (lI σ r20 i23) fun i24 =>
    some (some (.int i24), σ)
  else if a1 = 18 then
    hO (gI σ 7 a0 3) fun i25 =>
    some (some (.int i25), σ)
  else if a1 = 19 then
    hO (gR σ 1 r2 13) fun r26 =>
    hO (lI σ r26 0) fun i27 =>
    some (some (.int i27), σ)
  else if a1 = 20 then
    hO (gR σ 1 r2 13) fun r28 =>
    hO (lI σ r28 2) fun i29 =>
    some (some (.int i29), σ)
  else if a1 = 21 then
    hO (gI σ 7 a0 4) fun i30 =>
    some (some (.int i30), σ)
  else if a1 = 22 then
    hO (gI σ 7 a0 5) fun i31 =>
    some (some (.int i31), σ)
  else if a1 = 23 then
    hO (gI σ 1 r2 0) fun i32 =>
    if i32 ≤ a2 then
      some (some (.int (-1)), σ)
    else
    hO (gR σ 1 r2 1) fun r33 =>
    hO (lI σ r33 a2) fun i34 =>
    some (some (.int i34), σ)
  else if a1 = 24 then
    hO (gI σ 1 r2 2) fun i35 =>
    if i35 ≤ a2 then
      some (some (.int (-1)), σ)
    else
    hO (gR σ 1 r2 4) fun r36 =>
    hO (lI σ r36 a2) fun i37 =>
    some (some (.int i37), σ)
  else 
  hO (gI σ 1 r2 2) fun i38 =>
  if i38 ≤ a2 then
    some (some (.int (-1)), σ)
  else
  hO (gR σ 1 r2 5) fun r39 =>
  hO (lI σ r39 a2) fun i40 =>
  some (some (.int i40), σ) := (Ev_blk d mRules_wordValue 19 _ _ _ _).trans rfl
set_option maxRecDepth 100000 in
theorem q_X_init (d : Nat) (a0 : Nat) (σ : Mem) : EC (d + 1) mX_init [.ref a0] σ =
  bif isC (addC σ 17 (.inr (1, dfl 1))) 1 σ.1 then hV (EC d mChest_init [.ref σ.1] (addC σ 17 (.inr (1, dfl 1)))) fun σ1 =>
  hO (pF σ1 8 a0 0 (.ref σ.1)) fun σ2 =>
  bif isC (addC σ2 17 (.inr (1, dfl 1))) 1 σ2.1 then hV (EC d mChest_init [.ref σ2.1] (addC σ2 17 (.inr (1, dfl 1)))) fun σ3 =>
  hO (pF σ3 8 a0 1 (.ref σ2.1)) fun σ4 =>
  hO (newA σ4 5 2) fun q5 =>
  hO (pF q5.2 8 a0 2 (.ref q5.1)) fun σ6 =>
  bif isC (addC σ6 3 (.inr (3, dfl 3))) 3 σ6.1 then hV (EC d mDeeds_init [.ref σ6.1] (addC σ6 3 (.inr (3, dfl 3)))) fun σ7 =>
  hO (pF σ7 8 a0 4 (.ref σ6.1)) fun σ8 =>
  bif isC (addC σ8 3 (.inr (3, dfl 3))) 3 σ8.1 then hV (EC d mDeeds_init [.ref σ8.1] (addC σ8 3 (.inr (3, dfl 3)))) fun σ9 =>
  hO (pF σ9 8 a0 5 (.ref σ8.1)) fun σ10 =>
  hO (newA σ10 0 400) fun q11 =>
  hO (pF q11.2 8 a0 6 (.ref q11.1)) fun σ12 =>
  bif isC (addC σ12 10 (.inr (6, dfl 6))) 6 σ12.1 then hV (EC d mReader_init [.ref σ12.1] (addC σ12 10 (.inr (6, dfl 6)))) fun σ13 =>
  hO (pF σ13 8 a0 8 (.ref σ12.1)) fun σ14 =>
  bif isC (addC σ14 6 (.inr (7, dfl 7))) 7 σ14.1 then hV (EC d mRules_init [.ref σ14.1] (addC σ14 6 (.inr (7, dfl 7)))) fun σ15 =>
  hO (pF σ15 8 a0 9 (.ref σ14.1)) fun σ16 =>
  bif isC (addC σ16 5 (.inr (4, dfl 4))) 4 σ16.1 then hV (EC d mHalves_init [.ref σ16.1] (addC σ16 5 (.inr (4, dfl 4)))) fun σ17 =>
  hO (pF σ17 8 a0 10 (.ref σ16.1)) fun σ18 =>
  bif isC (addC σ18 6 (.inr (2, dfl 2))) 2 σ18.1 then hV (EC d mDebts_init [.ref σ18.1] (addC σ18 6 (.inr (2, dfl 2)))) fun σ19 =>
  hO (pF σ19 8 a0 11 (.ref σ18.1)) fun σ20 =>
  bif isC (addC σ20 7 (.inr (0, dfl 0))) 0 σ20.1 then hV (EC d mCallingIn_init [.ref σ20.1] (addC σ20 7 (.inr (0, dfl 0)))) fun σ21 =>
  hO (pF σ21 8 a0 12 (.ref σ20.1)) fun σ22 =>
  hO (pF σ22 8 a0 15 (.int (-1))) fun σ23 =>
  hO (pF σ23 8 a0 16 (.int (-1))) fun σ24 =>
  hO (newA σ24 0 5) fun q25 =>
  hO (pF q25.2 8 a0 19 (.ref q25.1)) fun σ26 =>
  some (none, σ26)
  else none
  else none
  else none
  else none
  else none
  else none
  else none
  else none
  else none := (Ev_blk d mX_init 67 _ _ _ _).trans rfl
set_option maxRecDepth 100000 in
theorem q_X_person (d : Nat) (a0 : Nat) (a1 : Int32) (σ : Mem) : EC (d + 1) mX_person [.ref a0, .int a1] σ =
  if a1 < 0 then
    bif isC σ 8 a0 then hI (EC d mX_refuse [.ref a0, .int (-1)] σ) fun i2 σ1 =>
    some (some (.int i2), σ1)
    else none
  else
  if a1 ≤ 9999 then
    hO (gR σ 8 a0 0) fun r3 =>
    hO (gI σ 1 r3 0) fun i4 =>
    if i4 < 6 then
      hO (gR σ 8 a0 4) fun r5 =>
      bif isC σ 3 r5 then hV (EC d mDeeds_forget [.ref r5] σ) fun σ6 =>
      hO (gR σ6 8 a0 0) fun r7 =>
      bif isC σ6 1 r7 then hI (EC d mChest_addPerson [.ref r7, .int a1] σ6) fun i9 σ8 =>
      bif isC σ8 8 a0 then hI (EC d mX_accept [.ref a0, .int i9] σ8) fun i11 σ10 =>
      some (some (.int i11), σ10)
      else none
      else none
      else none
    else
    bif isC σ 8 a0 then hI (EC d mX_refuse [.ref a0, .int (-5)] σ) fun i13 σ12 =>
    some (some (.int i13), σ12)
    else none
  else
  bif isC σ 8 a0 then hI (EC d mX_refuse [.ref a0, .int (-1)] σ) fun i15 σ14 =>
  some (some (.int i15), σ14)
  else none := (Ev_blk d mX_person 21 _ _ _ _).trans rfl
set_option maxRecDepth 100000 in
theorem q_X_of (d : Nat) (a0 : Nat) (a1 : Int32) (a2 : Int32) (σ : Mem) : EC (d + 1) mX_of [.ref a0, .int a1, .int a2] σ =
  hO (gR σ 8 a0 0) fun r1 =>
  bif isC σ 1 r1 then hI (EC d mChest_hasPerson [.ref r1, .int a1] σ) fun i3 σ2 =>
  if i3 = 0 then
    some (some (.int (-1000000)), σ2)
  else
  if a2 = 0 then
    hO (gR σ2 8 a0 0) fun r4 =>
    hO (gR σ2 1 r4 1) fun r5 =>
    hO (lI σ2 r5 a1) fun i6 =>
    some (some (.int i6), σ2)
  else if a2 = 1 then
    hO (gR σ2 8 a0 0) fun r7 =>
    bif isC σ2 1 r7 then hI (EC d mChest_netOf [.ref r7, .int a1] σ2) fun i9 σ8 =>
    some (some (.int i9), σ8)
    else none
  else if a2 = 2 then
    hO (gR σ2 8 a0 0) fun r10 =>
    hO (gR σ2 8 a0 0) fun r11 =>
    hO (gR σ2 1 r11 4) fun r12 =>
    bif isC σ2 1 r10 then hI (EC d mChest_openSticks [.ref r10, .ref r12, .int a1] σ2) fun i14 σ13 =>
    some (some (.int i14), σ13)
    else none
  else if a2 = 3 then
    hO (gR σ2 8 a0 0) fun r15 =>
    hO (gR σ2 8 a0 0) fun r16 =>
    hO (gR σ2 1 r16 3) fun r17 =>
    bif isC σ2 1 r15 then hI (EC d mChest_openSticks [.ref r15, .ref r17, .int a1] σ2) fun i19 σ18 =>
    some (some (.int i19), σ18)
    else none
  else 
  some (some (.int (-1000000)), σ2)
  else none := (Ev_blk d mX_of 16 _ _ _ _).trans rfl
set_option maxRecDepth 100000 in
theorem q_X_stick (d : Nat) (a0 : Nat) (a1 : Int32) (a2 : Int32) (a3 : Int32) (a4 : Int32) (a5 : Int32) (a6 : Int32) (σ : Mem) : EC (d + 1) mX_stick [.ref a0, .int a1, .int a2, .int a3, .int a4, .int a5, .int a6] σ =
  if a1 = a2 then
    bif isC σ 8 a0 then hI (EC d mX_refuse [.ref a0, .int (-1)] σ) fun i2 σ1 =>
    some (some (.int i2), σ1)
    else none
  else
  hI (EC d mX_isSum [.int a3] σ) fun i4 σ3 =>
  if i4 = 0 then
    bif isC σ3 8 a0 then hI (EC d mX_refuse [.ref a0, .int (-1)] σ3) fun i6 σ5 =>
    some (some (.int i6), σ5)
    else none
  else
  hI (EC d mX_isGrain [.int a4] σ3) fun i8 σ7 =>
  if i8 = 0 then
    bif isC σ7 8 a0 then hI (EC d mX_refuse [.ref a0, .int (-1)] σ7) fun i10 σ9 =>
    some (some (.int i10), σ9)
    else none
  else
  if a5 < 0 then
    bif isC σ7 8 a0 then hI (EC d mX_refuse [.ref a0, .int (-1)] σ7) fun i12 σ11 =>
    some (some (.int i12), σ11)
    else none
  else
  if 3 < a5 then
    bif isC σ7 8 a0 then hI (EC d mX_refuse [.ref a0, .int (-1)] σ7) fun i14 σ13 =>
    some (some (.int i14), σ13)
    else none
  else
  if a6 < 0 then
    bif isC σ7 8 a0 then hI (EC d mX_refuse [.ref a0, .int (-1)] σ7) fun i16 σ15 =>
    some (some (.int i16), σ15)
    else none
  else
  if a6 ≤ 999 then
    hO (gR σ7 8 a0 0) fun r17 =>
    bif isC σ7 1 r17 then hI (EC d mChest_hasPerson [.ref r17, .int a1] σ7) fun i19 σ18 =>
    if i19 = 0 then
      bif isC σ18 8 a0 then hI (EC d mX_refuse [.ref a0, .int (-2)] σ18) fun i21 σ20 =>
      some (some (.int i21), σ20)
      else none
    else
    hO (gR σ18 8 a0 0) fun r22 =>
    bif isC σ18 1 r22 then hI (EC d mChest_hasPerson [.ref r22, .int a2] σ18) fun i24 σ23 =>
    if i24 = 0 then
      bif isC σ23 8 a0 then hI (EC d mX_refuse [.ref a0, .int (-2)] σ23) fun i26 σ25 =>
      some (some (.int i26), σ25)
      else none
    else
    hO (gR σ23 8 a0 0) fun r27 =>
    hO (gI σ23 1 r27 2) fun i28 =>
    if i28 < 10 then
      hO (gR σ23 8 a0 4) fun r29 =>
      bif isC σ23 3 r29 then hV (EC d mDeeds_forget [.ref r29] σ23) fun σ30 =>
      hO (gR σ30 8 a0 0) fun r31 =>
      bif isC σ30 1 r31 then hI (EC d mChest_addStick [.ref r31, .int a1, .int a2, .int a3, .int a4, .int a5, .int a6] σ30) fun i33 σ32 =>
      bif isC σ32 8 a0 then hI (EC d mX_accept [.ref a0, .int i33] σ32) fun i35 σ34 =>
      some (some (.int i35), σ34)
      else none
      else none
      else none
    else
    bif isC σ23 8 a0 then hI (EC d mX_refuse [.ref a0, .int (-5)] σ23) fun i37 σ36 =>
    some (some (.int i37), σ36)
    else none
    else none
    else none
  else
  bif isC σ7 8 a0 then hI (EC d mX_refuse [.ref a0, .int (-1)] σ7) fun i39 σ38 =>
  some (some (.int i39), σ38)
  else none := (Ev_blk d mX_stick 50 _ _ _ _).trans rfl
set_option maxRecDepth 100000 in
theorem q_X_at (d : Nat) (a0 : Nat) (a1 : Int32) (a2 : Int32) (σ : Mem) : EC (d + 1) mX_at [.ref a0, .int a1, .int a2] σ =
  hO (gR σ 8 a0 0) fun r1 =>
  bif isC σ 1 r1 then hI (EC d mChest_hasStick [.ref r1, .int a1] σ) fun i3 σ2 =>
  if i3 = 0 then
    some (some (.int (-1)), σ2)
  else
  if a2 = 0 then
    hO (gR σ2 8 a0 0) fun r4 =>
    hO (gR σ2 1 r4 3) fun r5 =>
    hO (lI σ2 r5 a1) fun i6 =>
    some (some (.int i6), σ2)
  else if a2 = 1 then
    hO (gR σ2 8 a0 0) fun r7 =>
    hO (gR σ2 1 r7 4) fun r8 =>
    hO (lI σ2 r8 a1) fun i9 =>
    some (some (.int i9), σ2)
  else if a2 = 2 then
    hO (gR σ2 8 a0 0) fun r10 =>
    hO (gR σ2 1 r10 5) fun r11 =>
    hO (lI σ2 r11 a1) fun i12 =>
    some (some (.int i12), σ2)
  else if a2 = 3 then
    hO (gR σ2 8 a0 0) fun r13 =>
    hO (gR σ2 1 r13 6) fun r14 =>
    hO (lI σ2 r14 a1) fun i15 =>
    some (some (.int i15), σ2)
  else if a2 = 4 then
    hO (gR σ2 8 a0 0) fun r16 =>
    hO (gR σ2 1 r16 7) fun r17 =>
    hO (lI σ2 r17 a1) fun i18 =>
    some (some (.int i18), σ2)
  else if a2 = 5 then
    hO (gR σ2 8 a0 0) fun r19 =>
    hO (gR σ2 1 r19 8) fun r20 =>
    hO (lI σ2 r20 a1) fun i21 =>
    some (some (.int i21), σ2)
  else if a2 = 6 then
    hO (gR σ2 8 a0 0) fun r22 =>
    hO (gR σ2 1 r22 9) fun r23 =>
    hO (lI σ2 r23 a1) fun i24 =>
    some (some (.int i24), σ2)
  else if a2 = 7 then
    hO (gR σ2 8 a0 9) fun r25 =>
    hO (gR σ2 8 a0 0) fun r26 =>
    bif isC σ2 7 r25 then hI (EC d mRules_payOf [.ref r25, .ref r26, .int a1] σ2) fun i28 σ27 =>
    some (some (.int i28), σ27)
    else none
  else if a2 = 8 then
    hO (gR σ2 8 a0 9) fun r29 =>
    hO (gR σ2 8 a0 0) fun r30 =>
    bif isC σ2 7 r29 then hI (EC d mRules_wearOf [.ref r29, .ref r30, .int a1] σ2) fun i32 σ31 =>
    some (some (.int i32), σ31)
    else none
  else 
  some (some (.int (-1)), σ2)
  else none := (Ev_blk d mX_at 15 _ _ _ _).trans rfl
set_option maxRecDepth 100000 in
theorem q_X_foil (d : Nat) (a0 : Nat) (a1 : Int32) (a2 : Int32) (σ : Mem) : EC (d + 1) mX_foil [.ref a0, .int a1, .int a2] σ =
  hI (EC d mX_isGrain [.int a1] σ) fun i2 σ1 =>
  if i2 = 0 then
    bif isC σ1 8 a0 then hI (EC d mX_refuse [.ref a0, .int (-1)] σ1) fun i4 σ3 =>
    some (some (.int i4), σ3)
    else none
  else
  hI (EC d mX_isSum [.int a2] σ1) fun i6 σ5 =>
  if i6 = 0 then
    bif isC σ5 8 a0 then hI (EC d mX_refuse [.ref a0, .int (-1)] σ5) fun i8 σ7 =>
    some (some (.int i8), σ7)
    else none
  else
  hO (gR σ5 8 a0 0) fun r9 =>
  hO (gI σ5 1 r9 10) fun i10 =>
  if i10 < 10 then
    hO (gR σ5 8 a0 0) fun r11 =>
    bif isC σ5 1 r11 then hI (EC d mChest_addFoil [.ref r11, .int a1, .int a2] σ5) fun i13 σ12 =>
    bif isC σ12 8 a0 then hI (EC d mX_accept [.ref a0, .int i13] σ12) fun i15 σ14 =>
    some (some (.int i15), σ14)
    else none
    else none
  else
  bif isC σ5 8 a0 then hI (EC d mX_refuse [.ref a0, .int (-5)] σ5) fun i17 σ16 =>
  some (some (.int i17), σ16)
  else none := (Ev_blk d mX_foil 20 _ _ _ _).trans rfl
set_option maxRecDepth 100000 in
theorem q_X_half (d : Nat) (a0 : Nat) (a1 : Int32) (a2 : Int32) (σ : Mem) : EC (d + 1) mX_half [.ref a0, .int a1, .int a2] σ =
  hO (gR σ 8 a0 0) fun r1 =>
  bif isC σ 1 r1 then hI (EC d mChest_hasFoil [.ref r1, .int a1] σ) fun i3 σ2 =>
  if i3 = 0 then
    some (some (.int (-1)), σ2)
  else
  if a2 < 0 then
    some (some (.int (-1)), σ2)
  else
  if a2 ≤ 1 then
    if a2 = 0 then
      hO (gR σ2 8 a0 0) fun r4 =>
      hO (gR σ2 1 r4 11) fun r5 =>
      hO (lI σ2 r5 a1) fun i6 =>
      some (some (.int i6), σ2)
    else
    hO (gR σ2 8 a0 0) fun r7 =>
    hO (gR σ2 1 r7 12) fun r8 =>
    hO (lI σ2 r8 a1) fun i9 =>
    some (some (.int i9), σ2)
  else
  some (some (.int (-1)), σ2)
  else none := (Ev_blk d mX_half 20 _ _ _ _).trans rfl
set_option maxRecDepth 100000 in
theorem q_X_terms (d : Nat) (a0 : Nat) (a1 : Int32) (a2 : Int32) (σ : Mem) : EC (d + 1) mX_terms [.ref a0, .int a1, .int a2] σ =
  if a1 < 0 then
    bif isC σ 8 a0 then hI (EC d mX_refuse [.ref a0, .int (-1)] σ) fun i2 σ1 =>
    some (some (.int i2), σ1)
    else none
  else
  if 3 ≤ a1 then
    bif isC σ 8 a0 then hI (EC d mX_refuse [.ref a0, .int (-1)] σ) fun i4 σ3 =>
    some (some (.int i4), σ3)
    else none
  else
  if a2 < 0 then
    bif isC σ 8 a0 then hI (EC d mX_refuse [.ref a0, .int (-1)] σ) fun i6 σ5 =>
    some (some (.int i6), σ5)
    else none
  else
  hI (EC d mX_lastOfTerm [.int a1] σ) fun i8 σ7 =>
  if a2 ≤ i8 then
    hO (gR σ7 8 a0 0) fun r9 =>
    hO (gR σ7 1 r9 13) fun r10 =>
    hO (lI σ7 r10 a1) fun i11 =>
    hO (gR σ7 8 a0 0) fun r12 =>
    hO (gR σ7 1 r12 13) fun r13 =>
    hO (sI σ7 r13 a1 a2) fun σ14 =>
    hO (gR σ14 8 a0 4) fun r15 =>
    bif isC σ14 3 r15 then hV (EC d mDeeds_forget [.ref r15] σ14) fun σ16 =>
    bif isC σ16 8 a0 then hI (EC d mX_accept [.ref a0, .int i11] σ16) fun i18 σ17 =>
    some (some (.int i18), σ17)
    else none
    else none
  else
  bif isC σ7 8 a0 then hI (EC d mX_refuse [.ref a0, .int (-1)] σ7) fun i20 σ19 =>
  some (some (.int i20), σ19)
  else none := (Ev_blk d mX_terms 31 _ _ _ _).trans rfl
set_option maxRecDepth 100000 in
theorem q_X_feed (d : Nat) (a0 : Nat) (a1 : Int32) (a2 : Int32) (a3 : Int32) (a4 : Int32) (a5 : Int32) (σ : Mem) : EC (d + 1) mX_feed [.ref a0, .int a1, .int a2, .int a3, .int a4, .int a5] σ =
  hO (gI σ 8 a0 7) fun i1 =>
  if ((i1 + (20 : Int32)) : Int32) ≤ 400 then
    bif isC σ 8 a0 then hV (EC d mX_putBytes [.ref a0, .int a1] σ) fun σ2 =>
    bif isC σ2 8 a0 then hV (EC d mX_putBytes [.ref a0, .int a2] σ2) fun σ3 =>
    bif isC σ3 8 a0 then hV (EC d mX_putBytes [.ref a0, .int a3] σ3) fun σ4 =>
    bif isC σ4 8 a0 then hV (EC d mX_putBytes [.ref a0, .int a4] σ4) fun σ5 =>
    bif isC σ5 8 a0 then hV (EC d mX_putBytes [.ref a0, .int a5] σ5) fun σ6 =>
    hO (gI σ6 8 a0 7) fun i7 =>
    some (some (.int i7), σ6)
    else none
    else none
    else none
    else none
    else none
  else
  some (some (.int (-1)), σ) := (Ev_blk d mX_feed 25 _ _ _ _).trans rfl
set_option maxRecDepth 100000 in
theorem q_X_end (d : Nat) (a0 : Nat) (a1 : Int32) (σ : Mem) : EC (d + 1) mX_end [.ref a0, .int a1] σ =
  if a1 < 0 then
    some (some (.int (-1)), σ)
  else
  hO (gI σ 8 a0 7) fun i1 =>
  if a1 ≤ i1 then
    hO (pF σ 8 a0 7 (.int a1)) fun σ2 =>
    some (some (.int a1), σ2)
  else
  some (some (.int (-1)), σ) := (Ev_blk d mX_end 12 _ _ _ _).trans rfl
set_option maxRecDepth 100000 in
theorem q_X_row (d : Nat) (a0 : Nat) (σ : Mem) : EC (d + 1) mX_row [.ref a0] σ =
  bif isC σ 8 a0 then hI (EC d mX_emptyTape [.ref a0] σ) fun i2 σ1 =>
  if i2 = 0 then
    bif isC σ1 8 a0 then hI (EC d mX_refuse [.ref a0, .int (-6)] σ1) fun i4 σ3 =>
    some (some (.int i4), σ3)
    else none
  else
  Ev (d + 1) mX_row 23 [(0, .ref a0), (1, .int i2), (2, .int 0), (3, .int 0), (4, .int 0)] [] σ1
  else none := (Ev_blk d mX_row 12 _ _ _ _).trans rfl
set_option maxRecDepth 100000 in
theorem q_X_row_23 (d : Nat) (x0 : Nat) (x1 : Int32) (x2 : Int32) (x3 : Int32) (x4 : Int32) (σ : Mem) : Ev (d + 1) mX_row 23 [(0, .ref x0), (1, .int x1), (2, .int x2), (3, .int x3), (4, .int x4)] [] σ =
  if x1 ≤ x4 then
    hO (pF σ 8 x0 17 (.int x3)) fun σ1 =>
    bif isC σ1 8 x0 then hI (EC d mX_accept [.ref x0, .int x2] σ1) fun i3 σ2 =>
    some (some (.int i3), σ2)
    else none
  else
  if x1 ≤ ((x4 + (2 : Int32)) : Int32) then
    Ev (d + 1) mX_row 23 [(0, .ref x0), (1, .int x1), (2, .int x2), (3, .int (x3 + 1)), (4, .int (x4 + 3))] [] σ
  else
  hO (gR σ 8 x0 6) fun r4 =>
  hO (lI σ r4 x4) fun i5 =>
  hO (gR σ 8 x0 6) fun r6 =>
  hO (lI σ r6 (x4 + (1 : Int32))) fun i7 =>
  hO (gR σ 8 x0 6) fun r8 =>
  hO (lI σ r8 (x4 + (2 : Int32))) fun i9 =>
  bif isC σ 8 x0 then hI (EC d mX_cutFoil [.ref x0, .int i5, .int i7, .int i9] σ) fun i11 σ10 =>
  if i11 = 0 then
    Ev (d + 1) mX_row 23 [(0, .ref x0), (1, .int x1), (2, .int x2), (3, .int (x3 + 1)), (4, .int (x4 + 3))] [] σ10
  else
  Ev (d + 1) mX_row 23 [(0, .ref x0), (1, .int x1), (2, .int (x2 + 1)), (3, .int x3), (4, .int (x4 + 3))] [] σ10
  else none := (Ev_blk d mX_row 32 _ _ _ _).trans rfl
set_option maxRecDepth 100000 in
theorem q_X_chips (d : Nat) (a0 : Nat) (σ : Mem) : EC (d + 1) mX_chips [.ref a0] σ =
  hO (gI σ 8 a0 17) fun i1 =>
  some (some (.int i1), σ) := (Ev_blk d mX_chips 4 _ _ _ _).trans rfl
set_option maxRecDepth 100000 in
theorem q_X_law (d : Nat) (a0 : Nat) (σ : Mem) : EC (d + 1) mX_law [.ref a0] σ =
  bif isC σ 8 a0 then hI (EC d mX_emptyTape [.ref a0] σ) fun i2 σ1 =>
  hO (gR σ1 8 a0 0) fun r3 =>
  hO (gI σ1 1 r3 14) fun i4 =>
  if i4 < 6 then
    hO (gR σ1 8 a0 8) fun r5 =>
    hO (gR σ1 8 a0 6) fun r6 =>
    bif isC σ1 6 r5 then hI (EC d mReader_readText [.ref r5, .ref r6, .int i2, .int 1] σ1) fun i8 σ7 =>
    hO (pF σ7 8 a0 15 (.int i8)) fun σ9 =>
    hO (gI σ9 8 a0 15) fun i10 =>
    if i10 = (-1) then
      hO (gR σ9 8 a0 0) fun r11 =>
      hO (gR σ9 8 a0 8) fun r12 =>
      hO (gR σ9 6 r12 0) fun r13 =>
      bif isC σ9 5 r13 then hR (EC d mProgram_trimmed [.ref r13] σ9) fun r15 σ14 =>
      bif isC σ14 1 r11 then hI (EC d mChest_addLaw [.ref r11, .ref r15] σ14) fun i17 σ16 =>
      bif isC σ16 8 a0 then hI (EC d mX_accept [.ref a0, .int i17] σ16) fun i19 σ18 =>
      some (some (.int i19), σ18)
      else none
      else none
      else none
    else
    bif isC σ9 8 a0 then hI (EC d mX_refuse [.ref a0, .int (-6)] σ9) fun i21 σ20 =>
    some (some (.int i21), σ20)
    else none
    else none
  else
  bif isC σ1 8 a0 then hI (EC d mX_refuse [.ref a0, .int (-5)] σ1) fun i23 σ22 =>
  some (some (.int i23), σ22)
  else none
  else none := (Ev_blk d mX_law 32 _ _ _ _).trans rfl
set_option maxRecDepth 100000 in
theorem q_X_orders (d : Nat) (a0 : Nat) (σ : Mem) : EC (d + 1) mX_orders [.ref a0] σ =
  bif isC σ 8 a0 then hI (EC d mX_emptyTape [.ref a0] σ) fun i2 σ1 =>
  hO (pF σ1 8 a0 16 (.int (-1))) fun σ3 =>
  hO (gR σ3 8 a0 8) fun r4 =>
  hO (gR σ3 8 a0 6) fun r5 =>
  bif isC σ3 6 r4 then hI (EC d mReader_readText [.ref r4, .ref r5, .int i2, .int 0] σ3) fun i7 σ6 =>
  hO (pF σ6 8 a0 15 (.int i7)) fun σ8 =>
  hO (gI σ8 8 a0 15) fun i9 =>
  if i9 = (-1) then
    hO (gR σ8 8 a0 1) fun r10 =>
    hO (gR σ8 8 a0 0) fun r11 =>
    bif isC σ8 1 r10 then hV (EC d mChest_copyFrom [.ref r10, .ref r11] σ8) fun σ12 =>
    hO (gR σ12 8 a0 5) fun r13 =>
    hO (gR σ12 8 a0 4) fun r14 =>
    bif isC σ12 3 r13 then hV (EC d mDeeds_copyFrom [.ref r13, .ref r14] σ12) fun σ15 =>
    hO (gR σ15 8 a0 9) fun r16 =>
    hO (gR σ15 8 a0 0) fun r17 =>
    bif isC σ15 7 r16 then hV (EC d mRules_startOrders [.ref r16, .ref r17] σ15) fun σ18 =>
    Ev (d + 1) mX_orders 77 [(0, .ref a0), (2, .int 0)] [] σ18
    else none
    else none
    else none
  else
  bif isC σ8 8 a0 then hI (EC d mX_refuse [.ref a0, .int (-6)] σ8) fun i20 σ19 =>
  some (some (.int i20), σ19)
  else none
  else none
  else none := (Ev_blk d mX_orders 37 _ _ _ _).trans rfl
set_option maxRecDepth 100000 in
theorem q_X_orders_77 (d : Nat) (x0 : Nat) (x2 : Int32) (σ : Mem) : Ev (d + 1) mX_orders 77 [(0, .ref x0), (2, .int x2)] [] σ =
  hO (gR σ 8 x0 8) fun r1 =>
  hO (gR σ 6 r1 0) fun r2 =>
  hO (gI σ 5 r2 0) fun i3 =>
  if i3 ≤ x2 then
    hO (gR σ 8 x0 9) fun r4 =>
    hO (gI σ 7 r4 4) fun i5 =>
    bif isC σ 8 x0 then hI (EC d mX_accept [.ref x0, .int i5] σ) fun i7 σ6 =>
    some (some (.int i7), σ6)
    else none
  else
  hO (gR σ 8 x0 8) fun r8 =>
  hO (gR σ 6 r8 0) fun r9 =>
  bif isC σ 5 r9 then hI (EC d mProgram_headOf [.ref r9, .int x2, .int 1] σ) fun i11 σ10 =>
  Ev (d + 1) mX_orders 107 [(0, .ref x0), (2, .int x2), (3, .int i11), (4, .int 0)] [] σ10
  else none := (Ev_blk d mX_orders 16 _ _ _ _).trans rfl
set_option maxRecDepth 100000 in
theorem q_X_orders_107 (d : Nat) (x0 : Nat) (x2 : Int32) (x3 : Int32) (x4 : Int32) (σ : Mem) : Ev (d + 1) mX_orders 107 [(0, .ref x0), (2, .int x2), (3, .int x3), (4, .int x4)] [] σ =
  if x3 ≤ x4 then
    Ev (d + 1) mX_orders 77 [(0, .ref x0), (2, .int (x2 + 1))] [] σ
  else
  hO (gR σ 8 x0 8) fun r1 =>
  hO (gR σ 6 r1 0) fun r2 =>
  bif isC σ 8 x0 then hI (EC d mX_runOrder [.ref x0, .ref r2, .int x2] σ) fun i4 σ3 =>
  if i4 = 0 then
    hO (gR σ3 8 x0 0) fun r5 =>
    hO (gR σ3 8 x0 1) fun r6 =>
    bif isC σ3 1 r5 then hV (EC d mChest_copyFrom [.ref r5, .ref r6] σ3) fun σ7 =>
    hO (gR σ7 8 x0 4) fun r8 =>
    hO (gR σ7 8 x0 5) fun r9 =>
    bif isC σ7 3 r8 then hV (EC d mDeeds_copyFrom [.ref r8, .ref r9] σ7) fun σ10 =>
    hO (pF σ10 8 x0 16 (.int x2)) fun σ11 =>
    bif isC σ11 8 x0 then hI (EC d mX_refuse [.ref x0, .int (-3)] σ11) fun i13 σ12 =>
    some (some (.int i13), σ12)
    else none
    else none
    else none
  else
  Ev (d + 1) mX_orders 107 [(0, .ref x0), (2, .int x2), (3, .int x3), (4, .int (x4 + 1))] [] σ3
  else none := (Ev_blk d mX_orders 28 _ _ _ _).trans rfl
set_option maxRecDepth 100000 in
theorem q_X_fault (d : Nat) (a0 : Nat) (σ : Mem) : EC (d + 1) mX_fault [.ref a0] σ =
  hO (gI σ 8 a0 15) fun i1 =>
  some (some (.int i1), σ) := (Ev_blk d mX_fault 4 _ _ _ _).trans rfl
set_option maxRecDepth 100000 in
theorem q_X_stopped (d : Nat) (a0 : Nat) (σ : Mem) : EC (d + 1) mX_stopped [.ref a0] σ =
  hO (gI σ 8 a0 16) fun i1 =>
  some (some (.int i1), σ) := (Ev_blk d mX_stopped 4 _ _ _ _).trans rfl
set_option maxRecDepth 100000 in
theorem q_X_force (d : Nat) (a0 : Nat) (a1 : Int32) (σ : Mem) : EC (d + 1) mX_force [.ref a0, .int a1] σ =
  if a1 < (-1) then
    bif isC σ 8 a0 then hI (EC d mX_refuse [.ref a0, .int (-2)] σ) fun i2 σ1 =>
    some (some (.int i2), σ1)
    else none
  else
  hO (gR σ 8 a0 0) fun r3 =>
  hO (gI σ 1 r3 14) fun i4 =>
  if a1 < i4 then
    hO (gR σ 8 a0 0) fun r5 =>
    hO (gI σ 1 r5 16) fun i6 =>
    hO (gR σ 8 a0 0) fun r7 =>
    hO (pF σ 1 r7 16 (.int a1)) fun σ8 =>
    bif isC σ8 8 a0 then hI (EC d mX_accept [.ref a0, .int i6] σ8) fun i10 σ9 =>
    some (some (.int i10), σ9)
    else none
  else
  bif isC σ 8 a0 then hI (EC d mX_refuse [.ref a0, .int (-2)] σ) fun i12 σ11 =>
  some (some (.int i12), σ11)
  else none := (Ev_blk d mX_force 21 _ _ _ _).trans rfl
set_option maxRecDepth 100000 in
theorem q_X_asks (d : Nat) (a0 : Nat) (a1 : Int32) (a2 : Int32) (σ : Mem) : EC (d + 1) mX_asks [.ref a0, .int a1, .int a2] σ =
  hO (gR σ 8 a0 0) fun r1 =>
  bif isC σ 1 r1 then hI (EC d mChest_hasStick [.ref r1, .int a1] σ) fun i3 σ2 =>
  if i3 = 0 then
    some (some (.int (-1)), σ2)
  else
  hO (gR σ2 8 a0 0) fun r4 =>
  bif isC σ2 1 r4 then hI (EC d mChest_hasPerson [.ref r4, .int a2] σ2) fun i6 σ5 =>
  if i6 = 0 then
    some (some (.int (-1)), σ5)
  else
  hO (gR σ5 8 a0 9) fun r7 =>
  hO (gR σ5 8 a0 0) fun r8 =>
  bif isC σ5 7 r7 then hI (EC d mRules_isBarred [.ref r7, .ref r8, .int a1, .int a2] σ5) fun i10 σ9 =>
  if i10 = 0 then
    some (some (.int 0), σ9)
  else
  some (some (.int 1), σ9)
  else none
  else none
  else none := (Ev_blk d mX_asks 22 _ _ _ _).trans rfl
set_option maxRecDepth 100000 in
theorem q_X_give (d : Nat) (a0 : Nat) (a1 : Int32) (a2 : Int32) (σ : Mem) : EC (d + 1) mX_give [.ref a0, .int a1, .int a2] σ =
  bif isC σ 8 a0 then hI (EC d mX_perform [.ref a0, .int 0, .int a1, .int a2] σ) fun i2 σ1 =>
  bif isC σ1 8 a0 then hI (EC d mX_answer [.ref a0, .int i2] σ1) fun i4 σ3 =>
  some (some (.int i4), σ3)
  else none
  else none := (Ev_blk d mX_give 9 _ _ _ _).trans rfl
set_option maxRecDepth 100000 in
theorem q_X_call (d : Nat) (a0 : Nat) (a1 : Int32) (σ : Mem) : EC (d + 1) mX_call [.ref a0, .int a1] σ =
  bif isC σ 8 a0 then hI (EC d mX_perform [.ref a0, .int 1, .int a1, .int 0] σ) fun i2 σ1 =>
  bif isC σ1 8 a0 then hI (EC d mX_answer [.ref a0, .int i2] σ1) fun i4 σ3 =>
  some (some (.int i4), σ3)
  else none
  else none := (Ev_blk d mX_call 9 _ _ _ _).trans rfl
set_option maxRecDepth 100000 in
theorem q_X_shave (d : Nat) (a0 : Nat) (a1 : Int32) (a2 : Int32) (σ : Mem) : EC (d + 1) mX_shave [.ref a0, .int a1, .int a2] σ =
  bif isC σ 8 a0 then hI (EC d mX_perform [.ref a0, .int 2, .int a1, .int a2] σ) fun i2 σ1 =>
  bif isC σ1 8 a0 then hI (EC d mX_answer [.ref a0, .int i2] σ1) fun i4 σ3 =>
  some (some (.int i4), σ3)
  else none
  else none := (Ev_blk d mX_shave 9 _ _ _ _).trans rfl
set_option maxRecDepth 100000 in
theorem q_X_pass (d : Nat) (a0 : Nat) (σ : Mem) : EC (d + 1) mX_pass [.ref a0] σ =
  bif isC σ 8 a0 then hI (EC d mX_perform [.ref a0, .int 3, .int 0, .int 0] σ) fun i2 σ1 =>
  bif isC σ1 8 a0 then hI (EC d mX_answer [.ref a0, .int i2] σ1) fun i4 σ3 =>
  some (some (.int i4), σ3)
  else none
  else none := (Ev_blk d mX_pass 9 _ _ _ _).trans rfl
set_option maxRecDepth 100000 in
theorem q_X_undo (d : Nat) (a0 : Nat) (σ : Mem) : EC (d + 1) mX_undo [.ref a0] σ =
  hO (gR σ 8 a0 4) fun r1 =>
  hO (gI σ 3 r1 2) fun i2 =>
  if i2 = 0 then
    bif isC σ 8 a0 then hI (EC d mX_refuse [.ref a0, .int (-3)] σ) fun i4 σ3 =>
    some (some (.int i4), σ3)
    else none
  else
  hO (gR σ 8 a0 4) fun r5 =>
  hO (gR σ 8 a0 0) fun r6 =>
  bif isC σ 3 r5 then hI (EC d mDeeds_takeBack [.ref r5, .ref r6] σ) fun i8 σ7 =>
  bif isC σ7 8 a0 then hI (EC d mX_accept [.ref a0, .int i8] σ7) fun i10 σ9 =>
  some (some (.int i10), σ9)
  else none
  else none := (Ev_blk d mX_undo 13 _ _ _ _).trans rfl
set_option maxRecDepth 100000 in
theorem q_X_fit (d : Nat) (a0 : Nat) (a1 : Int32) (a2 : Int32) (a3 : Int32) (σ : Mem) : EC (d + 1) mX_fit [.ref a0, .int a1, .int a2, .int a3] σ =
  hO (gR σ 8 a0 0) fun r1 =>
  bif isC σ 1 r1 then hI (EC d mChest_hasStick [.ref r1, .int a1] σ) fun i3 σ2 =>
  if i3 = 0 then
    some (some (.int (-1)), σ2)
  else
  hO (gR σ2 8 a0 0) fun r4 =>
  bif isC σ2 1 r4 then hI (EC d mChest_hasFoil [.ref r4, .int a2] σ2) fun i6 σ5 =>
  if i6 = 0 then
    some (some (.int (-1)), σ5)
  else
  if a3 < 0 then
    some (some (.int (-1)), σ5)
  else
  if a3 ≤ 1 then
    if a3 = 0 then
      hO (gR σ5 8 a0 0) fun r7 =>
      hO (gR σ5 1 r7 6) fun r8 =>
      hO (lI σ5 r8 a1) fun i9 =>
      hO (gR σ5 8 a0 0) fun r10 =>
      hO (gR σ5 1 r10 11) fun r11 =>
      hO (lI σ5 r11 a2) fun i12 =>
      hI (EC d mJ_bitCount [.int (i9 ^^^ i12)] σ5) fun i14 σ13 =>
      some (some (.int i14), σ13)
    else
    hO (gR σ5 8 a0 0) fun r15 =>
    hO (gR σ5 8 a0 9) fun r16 =>
    hO (gR σ5 8 a0 0) fun r17 =>
    bif isC σ5 7 r16 then hI (EC d mRules_wearOf [.ref r16, .ref r17, .int a1] σ5) fun i19 σ18 =>
    bif isC σ18 1 r15 then hI (EC d mChest_fits [.ref r15, .int a1, .int a2, .int i19] σ18) fun i21 σ20 =>
    if i21 = 0 then
      some (some (.int 0), σ20)
    else
    some (some (.int 1), σ20)
    else none
    else none
  else
  some (some (.int (-1)), σ5)
  else none
  else none := (Ev_blk d mX_fit 33 _ _ _ _).trans rfl
set_option maxRecDepth 100000 in
theorem q_X_match (d : Nat) (a0 : Nat) (a1 : Int32) (σ : Mem) : EC (d + 1) mX_match [.ref a0, .int a1] σ =
  if a1 < 0 then
    some (some (.int (-1)), σ)
  else
  hO (gR σ 8 a0 0) fun r1 =>
  hO (gI σ 1 r1 2) fun i2 =>
  if a1 ≤ i2 then
    hO (gR σ 8 a0 10) fun r3 =>
    hO (gR σ 8 a0 0) fun r4 =>
    hO (gR σ 8 a0 9) fun r5 =>
    bif isC σ 4 r3 then hI (EC d mHalves_matchMost [.ref r3, .ref r4, .ref r5] σ) fun i7 σ6 =>
    if a1 = 0 then
      some (some (.int i7), σ6)
    else
    hO (gR σ6 8 a0 10) fun r8 =>
    hO (gR σ6 4 r8 1) fun r9 =>
    hO (lI σ6 r9 (a1 - (1 : Int32))) fun i10 =>
    some (some (.int i10), σ6)
    else none
  else
  some (some (.int (-1)), σ) := (Ev_blk d mX_match 26 _ _ _ _).trans rfl
set_option maxRecDepth 100000 in
theorem q_X_odd (d : Nat) (a0 : Nat) (σ : Mem) : EC (d + 1) mX_odd [.ref a0] σ =
  hO (gR σ 8 a0 10) fun r1 =>
  hO (gR σ 8 a0 0) fun r2 =>
  hO (gR σ 8 a0 9) fun r3 =>
  bif isC σ 4 r1 then hI (EC d mHalves_oddFoils [.ref r1, .ref r2, .ref r3] σ) fun i5 σ4 =>
  some (some (.int i5), σ4)
  else none := (Ev_blk d mX_odd 9 _ _ _ _).trans rfl
set_option maxRecDepth 100000 in
theorem q_X_apart (d : Nat) (a0 : Nat) (a1 : Int32) (σ : Mem) : EC (d + 1) mX_apart [.ref a0, .int a1] σ =
  if a1 < 0 then
    some (some (.int (-1)), σ)
  else
  if a1 ≤ 1 then
    hO (gR σ 8 a0 10) fun r1 =>
    hO (gR σ 8 a0 0) fun r2 =>
    bif isC σ 4 r1 then hI (EC d mHalves_fewestFibres [.ref r1, .ref r2] σ) fun i4 σ3 =>
    if a1 = 0 then
      if i4 = (-1) then
        some (some (.int i4), σ3)
      else
      hI (EC d mJ_bitCount [.int i4] σ3) fun i6 σ5 =>
      some (some (.int i6), σ5)
    else
    some (some (.int i4), σ3)
    else none
  else
  some (some (.int (-1)), σ) := (Ev_blk d mX_apart 21 _ _ _ _).trans rfl
set_option maxRecDepth 100000 in
theorem q_X_told (d : Nat) (a0 : Nat) (a1 : Int32) (a2 : Int32) (a3 : Int32) (σ : Mem) : EC (d + 1) mX_told [.ref a0, .int a1, .int a2, .int a3] σ =
  hO (gR σ 8 a0 0) fun r1 =>
  bif isC σ 1 r1 then hI (EC d mChest_hasStick [.ref r1, .int a1] σ) fun i3 σ2 =>
  if i3 = 0 then
    some (some (.int (-1)), σ2)
  else
  if a2 < 0 then
    some (some (.int (-1)), σ2)
  else
  if 27 < a2 then
    some (some (.int (-1)), σ2)
  else
  if a3 < 0 then
    some (some (.int (-1)), σ2)
  else
  if a3 ≤ 1 then
    if a3 = 0 then
      hO (gR σ2 8 a0 10) fun r4 =>
      hO (gR σ2 8 a0 0) fun r5 =>
      hO (gR σ2 1 r5 5) fun r6 =>
      hO (lI σ2 r6 a1) fun i7 =>
      bif isC σ2 4 r4 then hI (EC d mHalves_toldCount [.ref r4, .int i7, .int a2] σ2) fun i9 σ8 =>
      some (some (.int i9), σ8)
      else none
    else
    hO (gR σ2 8 a0 10) fun r10 =>
    hO (gR σ2 8 a0 0) fun r11 =>
    hO (gR σ2 1 r11 5) fun r12 =>
    hO (lI σ2 r12 a1) fun i13 =>
    bif isC σ2 4 r10 then hI (EC d mHalves_toldMost [.ref r10, .int i13, .int a2] σ2) fun i15 σ14 =>
    some (some (.int i15), σ14)
    else none
  else
  some (some (.int (-1)), σ2)
  else none := (Ev_blk d mX_told 29 _ _ _ _).trans rfl
set_option maxRecDepth 100000 in
theorem q_X_settle (d : Nat) (a0 : Nat) (a1 : Int32) (σ : Mem) : EC (d + 1) mX_settle [.ref a0, .int a1] σ =
  if a1 < 0 then
    some (some (.int (-1)), σ)
  else
  hO (gR σ 8 a0 0) fun r1 =>
  hO (gI σ 1 r1 0) fun i2 =>
  if a1 ≤ i2 then
    hO (gR σ 8 a0 11) fun r3 =>
    hO (gR σ 8 a0 0) fun r4 =>
    bif isC σ 2 r3 then hI (EC d mDebts_settleAll [.ref r3, .ref r4] σ) fun i6 σ5 =>
    if a1 = 0 then
      some (some (.int i6), σ5)
    else
    hO (gR σ5 8 a0 11) fun r7 =>
    hO (gR σ5 2 r7 3) fun r8 =>
    hO (lI σ5 r8 (a1 - (1 : Int32))) fun i9 =>
    some (some (.int i9), σ5)
    else none
  else
  some (some (.int (-1)), σ) := (Ev_blk d mX_settle 24 _ _ _ _).trans rfl
set_option maxRecDepth 100000 in
theorem q_X_ring (d : Nat) (a0 : Nat) (a1 : Int32) (σ : Mem) : EC (d + 1) mX_ring [.ref a0, .int a1] σ =
  if 0 ≤ a1 then
    hO (gR σ 8 a0 11) fun r1 =>
    hO (gR σ 8 a0 0) fun r2 =>
    bif isC σ 2 r1 then hI (EC d mDebts_shortestRing [.ref r1, .ref r2] σ) fun i4 σ3 =>
    if a1 ≤ i4 then
      if a1 = 0 then
        some (some (.int i4), σ3)
      else
      hO (gR σ3 8 a0 11) fun r5 =>
      hO (gR σ3 2 r5 4) fun r6 =>
      hO (lI σ3 r6 (a1 - (1 : Int32))) fun i7 =>
      some (some (.int i7), σ3)
    else
    some (some (.int (-1)), σ3)
    else none
  else
  some (some (.int (-1)), σ) := (Ev_blk d mX_ring 22 _ _ _ _).trans rfl
set_option maxRecDepth 100000 in
theorem q_X_chain (d : Nat) (a0 : Nat) (a1 : Int32) (a2 : Int32) (σ : Mem) : EC (d + 1) mX_chain [.ref a0, .int a1, .int a2] σ =
  hO (gR σ 8 a0 0) fun r1 =>
  bif isC σ 1 r1 then hI (EC d mChest_hasPerson [.ref r1, .int a1] σ) fun i3 σ2 =>
  if i3 = 0 then
    some (some (.int (-1)), σ2)
  else
  hO (gR σ2 8 a0 0) fun r4 =>
  bif isC σ2 1 r4 then hI (EC d mChest_hasPerson [.ref r4, .int a2] σ2) fun i6 σ5 =>
  if i6 = 0 then
    some (some (.int (-1)), σ5)
  else
  if a1 = a2 then
    some (some (.int (-1)), σ5)
  else
  hO (gR σ5 8 a0 11) fun r7 =>
  hO (gR σ5 8 a0 0) fun r8 =>
  bif isC σ5 2 r7 then hI (EC d mDebts_shortestChain [.ref r7, .ref r8, .int a1, .int a2] σ5) fun i10 σ9 =>
  some (some (.int i10), σ9)
  else none
  else none
  else none := (Ev_blk d mX_chain 22 _ _ _ _).trans rfl
set_option maxRecDepth 100000 in
theorem q_X_calls (d : Nat) (a0 : Nat) (a1 : Int32) (σ : Mem) : EC (d + 1) mX_calls [.ref a0, .int a1] σ =
  if (-1) ≤ a1 then
    hO (gI σ 8 a0 13) fun i1 =>
    if i1 = 0 then
      hO (gR σ 8 a0 1) fun r2 =>
      hO (gR σ 8 a0 0) fun r3 =>
      bif isC σ 1 r2 then hV (EC d mChest_copyFrom [.ref r2, .ref r3] σ) fun σ4 =>
      hO (gR σ4 8 a0 12) fun r5 =>
      hO (gR σ4 8 a0 1) fun r6 =>
      hO (gR σ4 8 a0 9) fun r7 =>
      bif isC σ4 0 r5 then hI (EC d mCallingIn_longestRow [.ref r5, .ref r6, .ref r7] σ4) fun i9 σ8 =>
      hO (pF σ8 8 a0 14 (.int i9)) fun σ10 =>
      hO (pF σ10 8 a0 13 (.int 1)) fun σ11 =>
      if a1 = (-1) then
        hO (gI σ11 8 a0 14) fun i12 =>
        some (some (.int i12), σ11)
      else
      hO (gI σ11 8 a0 14) fun i13 =>
      if i13 ≤ a1 then
        some (some (.int (-1)), σ11)
      else
      hO (gR σ11 8 a0 12) fun r14 =>
      hO (gR σ11 0 r14 2) fun r15 =>
      hO (lI σ11 r15 a1) fun i16 =>
      some (some (.int i16), σ11)
      else none
      else none
    else
    if a1 = (-1) then
      hO (gI σ 8 a0 14) fun i17 =>
      some (some (.int i17), σ)
    else
    hO (gI σ 8 a0 14) fun i18 =>
    if i18 ≤ a1 then
      some (some (.int (-1)), σ)
    else
    hO (gR σ 8 a0 12) fun r19 =>
    hO (gR σ 0 r19 2) fun r20 =>
    hO (lI σ r20 a1) fun i21 =>
    some (some (.int i21), σ)
  else
  some (some (.int (-1)), σ) := (Ev_blk d mX_calls 38 _ _ _ _).trans rfl
set_option maxRecDepth 100000 in
theorem q_X_years (d : Nat) (a0 : Nat) (a1 : Int32) (a2 : Int32) (σ : Mem) : EC (d + 1) mX_years [.ref a0, .int a1, .int a2] σ =
  if a1 < 0 then
    bif isC σ 8 a0 then hI (EC d mX_refuse [.ref a0, .int (-1)] σ) fun i2 σ1 =>
    some (some (.int i2), σ1)
    else none
  else
  if 1000000 < a1 then
    bif isC σ 8 a0 then hI (EC d mX_refuse [.ref a0, .int (-1)] σ) fun i4 σ3 =>
    some (some (.int i4), σ3)
    else none
  else
  if a2 < 1 then
    bif isC σ 8 a0 then hI (EC d mX_refuse [.ref a0, .int (-1)] σ) fun i6 σ5 =>
    some (some (.int i6), σ5)
    else none
  else
  if a2 ≤ 60 then
    hO (gR σ 8 a0 0) fun r7 =>
    hO (gI σ 1 r7 2) fun i8 =>
    if i8 = 0 then
      bif isC σ 8 a0 then hI (EC d mX_refuse [.ref a0, .int (-3)] σ) fun i10 σ9 =>
      some (some (.int i10), σ9)
      else none
    else
    hO (gR σ 8 a0 0) fun r11 =>
    hO (gI σ 1 r11 0) fun i12 =>
    if i12 = 0 then
      bif isC σ 8 a0 then hI (EC d mX_refuse [.ref a0, .int (-3)] σ) fun i14 σ13 =>
      some (some (.int i14), σ13)
      else none
    else
    hO (gQ σ 8 a0 3) fun q15 =>
    hN q15 (
      bif isC (addC σ 17 (.inr (1, dfl 1))) 1 σ.1 then hV (EC d mChest_init [.ref σ.1] (addC σ 17 (.inr (1, dfl 1)))) fun σ17 =>
      hO (pF σ17 8 a0 3 (.ref σ.1)) fun σ18 =>
      hO (gQ σ18 8 a0 3) fun q19 =>
      hN q19 (
        hO (gR σ18 8 a0 0) fun r21 =>
        none) fun r20 =>
      hO (gR σ18 8 a0 0) fun r23 =>
      bif isC σ18 1 r20 then hV (EC d mChest_copyFrom [.ref r20, .ref r23] σ18) fun σ24 =>
      Ev (d + 1) mX_years 92 [(0, .ref a0), (2, .int a2), (3, .int a1), (4, .int 0), (5, .int 0)] [] σ24
      else none
      else none) fun r16 =>
    hO (gQ σ 8 a0 3) fun q25 =>
    hN q25 (
      hO (gR σ 8 a0 0) fun r27 =>
      none) fun r26 =>
    hO (gR σ 8 a0 0) fun r29 =>
    bif isC σ 1 r26 then hV (EC d mChest_copyFrom [.ref r26, .ref r29] σ) fun σ30 =>
    Ev (d + 1) mX_years 92 [(0, .ref a0), (2, .int a2), (3, .int a1), (4, .int 0), (5, .int 0)] [] σ30
    else none
  else
  bif isC σ 8 a0 then hI (EC d mX_refuse [.ref a0, .int (-1)] σ) fun i32 σ31 =>
  some (some (.int i32), σ31)
  else none := (Ev_blk d mX_years 39 _ _ _ _).trans rfl
set_option maxRecDepth 100000 in
theorem q_X_years_92 (d : Nat) (x0 : Nat) (x2 : Int32) (x3 : Int32) (x4 : Int32) (x5 : Int32) (σ : Mem) : Ev (d + 1) mX_years 92 [(0, .ref x0), (2, .int x2), (3, .int x3), (4, .int x4), (5, .int x5)] [] σ =
  if x2 ≤ x5 then
    bif isC σ 8 x0 then hI (EC d mX_accept [.ref x0, .int x4] σ) fun i2 σ1 =>
    some (some (.int i2), σ1)
    else none
  else
  hO (gQ σ 8 x0 3) fun q3 =>
  hN q3 (
    none) fun r4 =>
  hO (gR σ 1 r4 13) fun r5 =>
  hO (lI σ r5 0) fun i6 =>
  if 999 ≤ i6 then
    bif isC σ 8 x0 then hI (EC d mX_accept [.ref x0, .int x4] σ) fun i8 σ7 =>
    some (some (.int i8), σ7)
    else none
  else
  hI (EC d mX_nextDraw [.int x3] σ) fun i10 σ9 =>
  hO (gQ σ9 8 x0 3) fun q11 =>
  hN q11 (
    none) fun r12 =>
  hO (gI σ9 1 r12 2) fun i13 =>
  if (i13 : Int32) = 0 then none else
  hI (EC d mX_nextDraw [.int i10] σ9) fun i15 σ14 =>
  hO (gQ σ14 8 x0 3) fun q16 =>
  hN q16 (
    none) fun r17 =>
  hO (gI σ14 1 r17 0) fun i18 =>
  if (i18 : Int32) = 0 then none else
  hO (gR σ14 8 x0 9) fun r19 =>
  hO (gQ σ14 8 x0 3) fun q20 =>
  hN q20 (
    bif isC σ14 7 r19 then hI (EC d mRules_tryCall [.ref r19, .null, .int (i10 - i10 / i13 * i13)] σ14) fun i23 σ22 =>
    if i23 < 0 then
      hO (gR σ22 8 x0 9) fun r24 =>
      hO (gQ σ22 8 x0 3) fun q25 =>
      hN q25 (
        bif isC σ22 7 r24 then hI (EC d mRules_tryGive [.ref r24, .null, .int (i10 - i10 / i13 * i13), .int (i15 - i15 / i18 * i18)] σ22) fun i28 σ27 =>
        hO (gR σ27 8 x0 9) fun r29 =>
        hO (gQ σ27 8 x0 3) fun q30 =>
        hN q30 (
          bif isC σ27 7 r29 then hI (EC d mRules_tryPass [.ref r29, .null] σ27) fun i33 σ32 =>
          Ev (d + 1) mX_years 92 [(0, .ref x0), (2, .int x2), (3, .int i15), (4, .int x4), (5, .int (x5 + 1))] [] σ32
          else none) fun r31 =>
        bif isC σ27 7 r29 then hI (EC d mRules_tryPass [.ref r29, .ref r31] σ27) fun i35 σ34 =>
        Ev (d + 1) mX_years 92 [(0, .ref x0), (2, .int x2), (3, .int i15), (4, .int x4), (5, .int (x5 + 1))] [] σ34
        else none
        else none) fun r26 =>
      bif isC σ22 7 r24 then hI (EC d mRules_tryGive [.ref r24, .ref r26, .int (i10 - i10 / i13 * i13), .int (i15 - i15 / i18 * i18)] σ22) fun i37 σ36 =>
      hO (gR σ36 8 x0 9) fun r38 =>
      hO (gQ σ36 8 x0 3) fun q39 =>
      hN q39 (
        bif isC σ36 7 r38 then hI (EC d mRules_tryPass [.ref r38, .null] σ36) fun i42 σ41 =>
        Ev (d + 1) mX_years 92 [(0, .ref x0), (2, .int x2), (3, .int i15), (4, .int x4), (5, .int (x5 + 1))] [] σ41
        else none) fun r40 =>
      bif isC σ36 7 r38 then hI (EC d mRules_tryPass [.ref r38, .ref r40] σ36) fun i44 σ43 =>
      Ev (d + 1) mX_years 92 [(0, .ref x0), (2, .int x2), (3, .int i15), (4, .int x4), (5, .int (x5 + 1))] [] σ43
      else none
      else none
    else
    hO (gR σ22 8 x0 9) fun r45 =>
    hO (gQ σ22 8 x0 3) fun q46 =>
    hN q46 (
      bif isC σ22 7 r45 then hI (EC d mRules_tryPass [.ref r45, .null] σ22) fun i49 σ48 =>
      Ev (d + 1) mX_years 92 [(0, .ref x0), (2, .int x2), (3, .int i15), (4, .int (x4 + 1)), (5, .int (x5 + 1))] [] σ48
      else none) fun r47 =>
    bif isC σ22 7 r45 then hI (EC d mRules_tryPass [.ref r45, .ref r47] σ22) fun i51 σ50 =>
    Ev (d + 1) mX_years 92 [(0, .ref x0), (2, .int x2), (3, .int i15), (4, .int (x4 + 1)), (5, .int (x5 + 1))] [] σ50
    else none
    else none) fun r21 =>
  bif isC σ14 7 r19 then hI (EC d mRules_tryCall [.ref r19, .ref r21, .int (i10 - i10 / i13 * i13)] σ14) fun i53 σ52 =>
  if i53 < 0 then
    hO (gR σ52 8 x0 9) fun r54 =>
    hO (gQ σ52 8 x0 3) fun q55 =>
    hN q55 (
      bif isC σ52 7 r54 then hI (EC d mRules_tryGive [.ref r54, .null, .int (i10 - i10 / i13 * i13), .int (i15 - i15 / i18 * i18)] σ52) fun i58 σ57 =>
      hO (gR σ57 8 x0 9) fun r59 =>
      hO (gQ σ57 8 x0 3) fun q60 =>
      hN q60 (
        bif isC σ57 7 r59 then hI (EC d mRules_tryPass [.ref r59, .null] σ57) fun i63 σ62 =>
        Ev (d + 1) mX_years 92 [(0, .ref x0), (2, .int x2), (3, .int i15), (4, .int x4), (5, .int (x5 + 1))] [] σ62
        else none) fun r61 =>
      bif isC σ57 7 r59 then hI (EC d mRules_tryPass [.ref r59, .ref r61] σ57) fun i65 σ64 =>
      Ev (d + 1) mX_years 92 [(0, .ref x0), (2, .int x2), (3, .int i15), (4, .int x4), (5, .int (x5 + 1))] [] σ64
      else none
      else none) fun r56 =>
    bif isC σ52 7 r54 then hI (EC d mRules_tryGive [.ref r54, .ref r56, .int (i10 - i10 / i13 * i13), .int (i15 - i15 / i18 * i18)] σ52) fun i67 σ66 =>
    hO (gR σ66 8 x0 9) fun r68 =>
    hO (gQ σ66 8 x0 3) fun q69 =>
    hN q69 (
      bif isC σ66 7 r68 then hI (EC d mRules_tryPass [.ref r68, .null] σ66) fun i72 σ71 =>
      Ev (d + 1) mX_years 92 [(0, .ref x0), (2, .int x2), (3, .int i15), (4, .int x4), (5, .int (x5 + 1))] [] σ71
      else none) fun r70 =>
    bif isC σ66 7 r68 then hI (EC d mRules_tryPass [.ref r68, .ref r70] σ66) fun i74 σ73 =>
    Ev (d + 1) mX_years 92 [(0, .ref x0), (2, .int x2), (3, .int i15), (4, .int x4), (5, .int (x5 + 1))] [] σ73
    else none
    else none
  else
  hO (gR σ52 8 x0 9) fun r75 =>
  hO (gQ σ52 8 x0 3) fun q76 =>
  hN q76 (
    bif isC σ52 7 r75 then hI (EC d mRules_tryPass [.ref r75, .null] σ52) fun i79 σ78 =>
    Ev (d + 1) mX_years 92 [(0, .ref x0), (2, .int x2), (3, .int i15), (4, .int (x4 + 1)), (5, .int (x5 + 1))] [] σ78
    else none) fun r77 =>
  bif isC σ52 7 r75 then hI (EC d mRules_tryPass [.ref r75, .ref r77] σ52) fun i81 σ80 =>
  Ev (d + 1) mX_years 92 [(0, .ref x0), (2, .int x2), (3, .int i15), (4, .int (x4 + 1)), (5, .int (x5 + 1))] [] σ80
  else none
  else none := (Ev_blk d mX_years 52 _ _ _ _).trans rfl
set_option maxRecDepth 100000 in
theorem q_X_drawn (d : Nat) (a0 : Nat) (a1 : Int32) (a2 : Int32) (σ : Mem) : EC (d + 1) mX_drawn [.ref a0, .int a1, .int a2] σ =
  hO (gQ σ 8 a0 3) fun q1 =>
  hN q1 (
    some (some (.int (-1)), σ)) fun r2 =>
  if a2 = 0 then
    bif isC σ 1 r2 then hI (EC d mChest_hasPerson [.ref r2, .int a1] σ) fun i4 σ3 =>
    if i4 = 0 then
      some (some (.int (-1)), σ3)
    else
    hO (gR σ3 1 r2 1) fun r5 =>
    hO (lI σ3 r5 a1) fun i6 =>
    some (some (.int i6), σ3)
    else none
  else
  bif isC σ 1 r2 then hI (EC d mChest_hasStick [.ref r2, .int a1] σ) fun i8 σ7 =>
  if i8 = 0 then
    some (some (.int (-1)), σ7)
  else
  if a2 = 1 then
    hO (gR σ7 1 r2 4) fun r9 =>
    hO (lI σ7 r9 a1) fun i10 =>
    some (some (.int i10), σ7)
  else
  if a2 = 2 then
    hO (gR σ7 1 r2 9) fun r11 =>
    hO (lI σ7 r11 a1) fun i12 =>
    some (some (.int i12), σ7)
  else
  some (some (.int (-1)), σ7)
  else none := (Ev_blk d mX_drawn 24 _ _ _ _).trans rfl
set_option maxRecDepth 100000 in
theorem q_X_image (d : Nat) (a0 : Nat) (a1 : Int32) (σ : Mem) : EC (d + 1) mX_image [.ref a0, .int a1] σ =
  if a1 < 0 then
    bif isC σ 8 a0 then hI (EC d mX_refuse [.ref a0, .int (-1)] σ) fun i2 σ1 =>
    some (some (.int i2), σ1)
    else none
  else
  if a1 < 2 then
    hO (gR σ 8 a0 2) fun r3 =>
    hO (lQ σ r3 a1) fun q4 =>
    hN q4 (
      bif isC (addC σ 17 (.inr (1, dfl 1))) 1 σ.1 then hV (EC d mChest_init [.ref σ.1] (addC σ 17 (.inr (1, dfl 1)))) fun σ6 =>
      hO (gR σ6 8 a0 2) fun r7 =>
      hO (sQ σ6 r7 a1 (some σ.1)) fun σ8 =>
      hO (gR σ8 8 a0 0) fun r9 =>
      bif isC σ8 1 σ.1 then hV (EC d mChest_copyFrom [.ref σ.1, .ref r9] σ8) fun σ10 =>
      bif isC σ10 8 a0 then hI (EC d mX_accept [.ref a0, .int 0] σ10) fun i12 σ11 =>
      some (some (.int i12), σ11)
      else none
      else none
      else none) fun r5 =>
    hO (gR σ 8 a0 0) fun r13 =>
    bif isC σ 1 r5 then hV (EC d mChest_copyFrom [.ref r5, .ref r13] σ) fun σ14 =>
    bif isC σ14 8 a0 then hI (EC d mX_accept [.ref a0, .int 0] σ14) fun i16 σ15 =>
    some (some (.int i16), σ15)
    else none
    else none
  else
  bif isC σ 8 a0 then hI (EC d mX_refuse [.ref a0, .int (-1)] σ) fun i18 σ17 =>
  some (some (.int i18), σ17)
  else none := (Ev_blk d mX_image 30 _ _ _ _).trans rfl
set_option maxRecDepth 100000 in
theorem q_X_back (d : Nat) (a0 : Nat) (a1 : Int32) (σ : Mem) : EC (d + 1) mX_back [.ref a0, .int a1] σ =
  if a1 < 0 then
    bif isC σ 8 a0 then hI (EC d mX_refuse [.ref a0, .int (-1)] σ) fun i2 σ1 =>
    some (some (.int i2), σ1)
    else none
  else
  if a1 < 2 then
    hO (gR σ 8 a0 2) fun r3 =>
    hO (lQ σ r3 a1) fun q4 =>
    hN q4 (
      bif isC σ 8 a0 then hI (EC d mX_refuse [.ref a0, .int (-2)] σ) fun i7 σ6 =>
      some (some (.int i7), σ6)
      else none) fun r5 =>
    hO (gR σ 8 a0 0) fun r8 =>
    bif isC σ 1 r8 then hV (EC d mChest_copyFrom [.ref r8, .ref r5] σ) fun σ9 =>
    hO (gR σ9 8 a0 4) fun r10 =>
    bif isC σ9 3 r10 then hV (EC d mDeeds_forget [.ref r10] σ9) fun σ11 =>
    bif isC σ11 8 a0 then hI (EC d mX_accept [.ref a0, .int 0] σ11) fun i13 σ12 =>
    some (some (.int i13), σ12)
    else none
    else none
    else none
  else
  bif isC σ 8 a0 then hI (EC d mX_refuse [.ref a0, .int (-1)] σ) fun i15 σ14 =>
  some (some (.int i15), σ14)
  else none := (Ev_blk d mX_back 24 _ _ _ _).trans rfl
set_option maxRecDepth 100000 in
theorem q_X_count (d : Nat) (a0 : Nat) (a1 : Int32) (σ : Mem) : EC (d + 1) mX_count [.ref a0, .int a1] σ =
  if a1 < 7 then
    if a1 < 13 then
      Ev (d + 1) mX_count 47 [(0, .ref a0), (1, .int a1)] [] σ
    else
    if 16 ≤ a1 then
      Ev (d + 1) mX_count 47 [(0, .ref a0), (1, .int a1)] [] σ
    else
    hO (gR σ 8 a0 0) fun r1 =>
    hO (gR σ 1 r1 13) fun r2 =>
    hO (lI σ r2 (a1 - (13 : Int32))) fun i3 =>
    some (some (.int i3), σ)
  else
  if 12 ≤ a1 then
    if a1 < 13 then
      Ev (d + 1) mX_count 47 [(0, .ref a0), (1, .int a1)] [] σ
    else
    if 16 ≤ a1 then
      Ev (d + 1) mX_count 47 [(0, .ref a0), (1, .int a1)] [] σ
    else
    hO (gR σ 8 a0 0) fun r4 =>
    hO (gR σ 1 r4 13) fun r5 =>
    hO (lI σ r5 (a1 - (13 : Int32))) fun i6 =>
    some (some (.int i6), σ)
  else
  hO (gR σ 8 a0 19) fun r7 =>
  hO (lI σ r7 (a1 - (7 : Int32))) fun i8 =>
  some (some (.int i8), σ) := (Ev_blk d mX_count 21 _ _ _ _).trans rfl
set_option maxRecDepth 100000 in
theorem q_X_count_47 (d : Nat) (x0 : Nat) (x1 : Int32) (σ : Mem) : Ev (d + 1) mX_count 47 [(0, .ref x0), (1, .int x1)] [] σ =
  if x1 = 0 then
    hO (gR σ 8 x0 0) fun r1 =>
    hO (gI σ 1 r1 0) fun i2 =>
    some (some (.int i2), σ)
  else if x1 = 1 then
    hO (gR σ 8 x0 0) fun r3 =>
    hO (gI σ 1 r3 2) fun i4 =>
    some (some (.int i4), σ)
  else if x1 = 2 then
    hO (gR σ 8 x0 0) fun r5 =>
    hO (gI σ 1 r5 10) fun i6 =>
    some (some (.int i6), σ)
  else if x1 = 3 then
    hO (gR σ 8 x0 0) fun r7 =>
    bif isC σ 1 r7 then hI (EC d mChest_paidSticks [.ref r7] σ) fun i9 σ8 =>
    some (some (.int i9), σ8)
    else none
  else if x1 = 4 then
    hO (gR σ 8 x0 0) fun r10 =>
    hO (gI σ 1 r10 14) fun i11 =>
    some (some (.int i11), σ)
  else if x1 = 5 then
    hO (gR σ 8 x0 4) fun r12 =>
    hO (gI σ 3 r12 2) fun i13 =>
    some (some (.int i13), σ)
  else if x1 = 6 then
    hO (gI σ 8 x0 7) fun i14 =>
    some (some (.int i14), σ)
  else if x1 = 7 then
    some (some (.int (-1)), σ)
  else if x1 = 8 then
    some (some (.int (-1)), σ)
  else if x1 = 9 then
    some (some (.int (-1)), σ)
  else if x1 = 10 then
    some (some (.int (-1)), σ)
  else if x1 = 11 then
    some (some (.int (-1)), σ)
  else if x1 = 12 then
    hO (gR σ 8 x0 0) fun r15 =>
    hO (gI σ 1 r15 16) fun i16 =>
    some (some (.int i16), σ)
  else 
  some (some (.int (-1)), σ) := (Ev_blk d mX_count 7 _ _ _ _).trans rfl
set_option maxRecDepth 100000 in
theorem q_X_status (d : Nat) (a0 : Nat) (σ : Mem) : EC (d + 1) mX_status [.ref a0] σ =
  hO (gI σ 8 a0 18) fun i1 =>
  some (some (.int i1), σ) := (Ev_blk d mX_status 4 _ _ _ _).trans rfl
set_option maxRecDepth 100000 in
theorem q_X_isSum (d : Nat) (a0 : Int32) (σ : Mem) : EC (d + 1) mX_isSum [.int a0] σ =
  if a0 < 1 then
    some (some (.int 0), σ)
  else
  if 999 < a0 then
    some (some (.int 0), σ)
  else
  some (some (.int 1), σ) := (Ev_blk d mX_isSum 10 _ _ _ _).trans rfl
set_option maxRecDepth 100000 in
theorem q_X_isGrain (d : Nat) (a0 : Int32) (σ : Mem) : EC (d + 1) mX_isGrain [.int a0] σ =
  if a0 < 0 then
    some (some (.int 0), σ)
  else
  if 4095 < a0 then
    some (some (.int 0), σ)
  else
  some (some (.int 1), σ) := (Ev_blk d mX_isGrain 9 _ _ _ _).trans rfl
set_option maxRecDepth 100000 in
theorem q_X_lastOfTerm (d : Nat) (a0 : Int32) (σ : Mem) : EC (d + 1) mX_lastOfTerm [.int a0] σ =
  if a0 = 0 then
    some (some (.int 999), σ)
  else
  if a0 = 1 then
    some (some (.int 12), σ)
  else
  some (some (.int 9), σ) := (Ev_blk d mX_lastOfTerm 9 _ _ _ _).trans rfl
set_option maxRecDepth 100000 in
theorem q_X_accept (d : Nat) (a0 : Nat) (a1 : Int32) (σ : Mem) : EC (d + 1) mX_accept [.ref a0, .int a1] σ =
  hO (pF σ 8 a0 18 (.int 0)) fun σ1 =>
  hO (pF σ1 8 a0 13 (.int 0)) fun σ2 =>
  some (some (.int a1), σ2) := (Ev_blk d mX_accept 9 _ _ _ _).trans rfl
set_option maxRecDepth 100000 in
theorem q_X_refuse (d : Nat) (a0 : Nat) (a1 : Int32) (σ : Mem) : EC (d + 1) mX_refuse [.ref a0, .int a1] σ =
  hO (pF σ 8 a0 18 (.int a1)) fun σ1 =>
  if a1 < (-3) then
    if (((-a1) - (2 : Int32)) : Int32) < 0 then
      some (some (.int a1), σ1)
    else
    if 5 ≤ (((-a1) - (2 : Int32)) : Int32) then
      some (some (.int a1), σ1)
    else
    hO (gR σ1 8 a0 19) fun r2 =>
    hO (lI σ1 r2 ((-a1) - (2 : Int32))) fun i3 =>
    hO (sI σ1 r2 ((-a1) - (2 : Int32)) (i3 + (1 : Int32))) fun σ4 =>
    some (some (.int a1), σ4)
  else
  if (((-a1) - (1 : Int32)) : Int32) < 0 then
    some (some (.int a1), σ1)
  else
  if 5 ≤ (((-a1) - (1 : Int32)) : Int32) then
    some (some (.int a1), σ1)
  else
  hO (gR σ1 8 a0 19) fun r5 =>
  hO (lI σ1 r5 ((-a1) - (1 : Int32))) fun i6 =>
  hO (sI σ1 r5 ((-a1) - (1 : Int32)) (i6 + (1 : Int32))) fun σ7 =>
  some (some (.int a1), σ7) := (Ev_blk d mX_refuse 28 _ _ _ _).trans rfl
set_option maxRecDepth 100000 in
theorem q_X_answer (d : Nat) (a0 : Nat) (a1 : Int32) (σ : Mem) : EC (d + 1) mX_answer [.ref a0, .int a1] σ =
  if 0 ≤ a1 then
    bif isC σ 8 a0 then hI (EC d mX_accept [.ref a0, .int a1] σ) fun i2 σ1 =>
    some (some (.int i2), σ1)
    else none
  else
  bif isC σ 8 a0 then hI (EC d mX_refuse [.ref a0, .int a1] σ) fun i4 σ3 =>
  some (some (.int i4), σ3)
  else none := (Ev_blk d mX_answer 8 _ _ _ _).trans rfl
set_option maxRecDepth 100000 in
theorem q_X_perform (d : Nat) (a0 : Nat) (a1 : Int32) (a2 : Int32) (a3 : Int32) (σ : Mem) : EC (d + 1) mX_perform [.ref a0, .int a1, .int a2, .int a3] σ =
  hO (gR σ 8 a0 4) fun r1 =>
  hO (gR σ 8 a0 0) fun r2 =>
  bif isC σ 3 r1 then hV (EC d mDeeds_prepare [.ref r1, .int a1, .ref r2, .int a2] σ) fun σ3 =>
  if a1 = 0 then
    hO (gR σ3 8 a0 9) fun r4 =>
    hO (gR σ3 8 a0 0) fun r5 =>
    bif isC σ3 7 r4 then hI (EC d mRules_tryGive [.ref r4, .ref r5, .int a2, .int a3] σ3) fun i7 σ6 =>
    if i7 < 0 then
      some (some (.int i7), σ6)
    else
    hO (gR σ6 8 a0 4) fun r8 =>
    bif isC σ6 3 r8 then hV (EC d mDeeds_keep [.ref r8] σ6) fun σ9 =>
    some (some (.int i7), σ9)
    else none
    else none
  else if a1 = 1 then
    hO (gR σ3 8 a0 9) fun r10 =>
    hO (gR σ3 8 a0 0) fun r11 =>
    bif isC σ3 7 r10 then hI (EC d mRules_tryCall [.ref r10, .ref r11, .int a2] σ3) fun i13 σ12 =>
    if i13 < 0 then
      some (some (.int i13), σ12)
    else
    hO (gR σ12 8 a0 4) fun r14 =>
    bif isC σ12 3 r14 then hV (EC d mDeeds_keep [.ref r14] σ12) fun σ15 =>
    some (some (.int i13), σ15)
    else none
    else none
  else if a1 = 2 then
    hO (gR σ3 8 a0 9) fun r16 =>
    hO (gR σ3 8 a0 0) fun r17 =>
    bif isC σ3 7 r16 then hI (EC d mRules_tryShave [.ref r16, .ref r17, .int a2, .int a3] σ3) fun i19 σ18 =>
    if i19 < 0 then
      some (some (.int i19), σ18)
    else
    hO (gR σ18 8 a0 4) fun r20 =>
    bif isC σ18 3 r20 then hV (EC d mDeeds_keep [.ref r20] σ18) fun σ21 =>
    some (some (.int i19), σ21)
    else none
    else none
  else 
  hO (gR σ3 8 a0 9) fun r22 =>
  hO (gR σ3 8 a0 0) fun r23 =>
  bif isC σ3 7 r22 then hI (EC d mRules_tryPass [.ref r22, .ref r23] σ3) fun i25 σ24 =>
  if i25 < 0 then
    some (some (.int i25), σ24)
  else
  hO (gR σ24 8 a0 4) fun r26 =>
  bif isC σ24 3 r26 then hV (EC d mDeeds_keep [.ref r26] σ24) fun σ27 =>
  some (some (.int i25), σ27)
  else none
  else none
  else none := (Ev_blk d mX_perform 26 _ _ _ _).trans rfl
set_option maxRecDepth 100000 in
theorem q_X_runOrder (d : Nat) (a0 : Nat) (a1 : Nat) (a2 : Int32) (σ : Mem) : EC (d + 1) mX_runOrder [.ref a0, .ref a1, .int a2] σ =
  bif isC σ 5 a1 then hI (EC d mProgram_headOf [.ref a1, .int a2, .int 3] σ) fun i2 σ1 =>
  bif isC σ1 5 a1 then hI (EC d mProgram_headOf [.ref a1, .int a2, .int 4] σ1) fun i4 σ3 =>
  hO (gR σ3 8 a0 9) fun r5 =>
  bif isC σ3 5 a1 then hI (EC d mProgram_headOf [.ref a1, .int a2, .int 5] σ3) fun i7 σ6 =>
  bif isC σ6 7 r5 then hI (EC d mRules_compute [.ref r5, .ref a1, .int i4, .int i7] σ6) fun i9 σ8 =>
  if i9 = 1 then
    hO (gR σ8 8 a0 9) fun r10 =>
    bif isC σ8 5 a1 then hI (EC d mProgram_headOf [.ref a1, .int a2, .int 2] σ8) fun i12 σ11 =>
    bif isC σ11 7 r10 then hI (EC d mRules_compute [.ref r10, .ref a1, .int i12, .int i2] σ11) fun i14 σ13 =>
    if i14 = (-2000000000) then
      some (some (.int 0), σ13)
    else
    hO (gR σ13 8 a0 9) fun r15 =>
    bif isC σ13 7 r15 then hI (EC d mRules_compute [.ref r15, .ref a1, .int i2, .int i4] σ13) fun i17 σ16 =>
    if i17 = (-2000000000) then
      some (some (.int 0), σ16)
    else
    bif isC σ16 5 a1 then hI (EC d mProgram_headOf [.ref a1, .int a2, .int 0] σ16) fun i19 σ18 =>
    bif isC σ18 8 a0 then hI (EC d mX_perform [.ref a0, .int i19, .int i14, .int i17] σ18) fun i21 σ20 =>
    if 0 ≤ i21 then
      hO (gR σ20 8 a0 9) fun r22 =>
      hO (gI σ20 7 r22 4) fun i23 =>
      hO (pF σ20 7 r22 4 (.int (i23 + (1 : Int32)))) fun σ24 =>
      if i19 = 1 then
        hO (gR σ24 8 a0 9) fun r25 =>
        hO (pF σ24 7 r25 5 (.int i21)) fun σ26 =>
        some (some (.int 1), σ26)
      else
      some (some (.int 1), σ24)
    else
    some (some (.int 0), σ20)
    else none
    else none
    else none
    else none
    else none
  else
  some (some (.int 1), σ8)
  else none
  else none
  else none
  else none := (Ev_blk d mX_runOrder 74 _ _ _ _).trans rfl
set_option maxRecDepth 100000 in
theorem q_X_nextDraw (d : Nat) (a0 : Int32) (σ : Mem) : EC (d + 1) mX_nextDraw [.int a0] σ =
  if (1000003 : Int32) = 0 then none else
  some (some (.int (((a0 * (1103 : Int32)) + (12345 : Int32)) - ((a0 * (1103 : Int32)) + (12345 : Int32)) / (1000003 : Int32) * (1000003 : Int32))), σ) := (Ev_blk d mX_nextDraw 9 _ _ _ _).trans rfl
set_option maxRecDepth 100000 in
theorem q_X_emptyTape (d : Nat) (a0 : Nat) (σ : Mem) : EC (d + 1) mX_emptyTape [.ref a0] σ =
  hO (gI σ 8 a0 7) fun i1 =>
  hO (pF σ 8 a0 7 (.int 0)) fun σ2 =>
  some (some (.int i1), σ2) := (Ev_blk d mX_emptyTape 9 _ _ _ _).trans rfl
set_option maxRecDepth 100000 in
theorem q_X_putBytes (d : Nat) (a0 : Nat) (a1 : Int32) (σ : Mem) : EC (d + 1) mX_putBytes [.ref a0, .int a1] σ =
  Ev (d + 1) mX_putBytes 3 [(0, .ref a0), (1, .int a1), (2, .int 24)] [] σ := (Ev_blk d mX_putBytes 3 _ _ _ _).trans rfl
set_option maxRecDepth 100000 in
theorem q_X_putBytes_3 (d : Nat) (x0 : Nat) (x1 : Int32) (x2 : Int32) (σ : Mem) : Ev (d + 1) mX_putBytes 3 [(0, .ref x0), (1, .int x1), (2, .int x2)] [] σ =
  if x2 < 0 then
    some (none, σ)
  else
  hO (gI σ 8 x0 7) fun i1 =>
  if 400 ≤ i1 then
    some (none, σ)
  else
  hO (gR σ 8 x0 6) fun r2 =>
  hO (gI σ 8 x0 7) fun i3 =>
  hO (sI σ r2 i3 ((Int32.toUInt32 x1 >>> (Int32.toUInt32 x2 &&& Int32.toUInt32 31)).toInt32 &&& (255 : Int32))) fun σ4 =>
  hO (gI σ4 8 x0 7) fun i5 =>
  hO (pF σ4 8 x0 7 (.int (i5 + (1 : Int32)))) fun σ6 =>
  Ev (d + 1) mX_putBytes 3 [(0, .ref x0), (1, .int x1), (2, .int (x2 + (-8)))] [] σ6 := (Ev_blk d mX_putBytes 25 _ _ _ _).trans rfl
set_option maxRecDepth 100000 in
theorem q_X_cutFoil (d : Nat) (a0 : Nat) (a1 : Int32) (a2 : Int32) (a3 : Int32) (σ : Mem) : EC (d + 1) mX_cutFoil [.ref a0, .int a1, .int a2, .int a3] σ =
  if 15 < a2 then
    some (some (.int 0), σ)
  else
  if a3 < 1 then
    some (some (.int 0), σ)
  else
  hO (gR σ 8 a0 0) fun r1 =>
  hO (gI σ 1 r1 10) fun i2 =>
  if i2 < 10 then
    hO (gR σ 8 a0 0) fun r3 =>
    bif isC σ 1 r3 then hI (EC d mChest_addFoil [.ref r3, .int ((a1 * (16 : Int32)) + a2), .int a3] σ) fun i5 σ4 =>
    some (some (.int 1), σ4)
    else none
  else
  some (some (.int 0), σ) := (Ev_blk d mX_cutFoil 24 _ _ _ _).trans rfl
