/-! ===== what each method does, a stretch at a time (printed by wip/whole/mkeqs.py) ===== -/
set_option maxRecDepth 100000 in
theorem q_CallingIn_init (d : Nat) (a0 : Nat) (σ : Mem) : EC (d + 1) mCallingIn_init [.ref a0] σ =
  hO (newA σ 0 7) fun q1 =>
  hO (pF q1.2 0 a0 0 (.ref q1.1)) fun σ2 =>
  hO (newA σ2 0 7) fun q3 =>
  hO (pF q3.2 0 a0 1 (.ref q3.1)) fun σ4 =>
  hO (newA σ4 0 7) fun q5 =>
  hO (pF q5.2 0 a0 2 (.ref q5.1)) fun σ6 =>
  hO (newA σ6 0 10) fun q7 =>
  hO (pF q7.2 0 a0 3 (.ref q7.1)) fun σ8 =>
  hO (newA σ8 0 10) fun q9 =>
  hO (pF q9.2 0 a0 4 (.ref q9.1)) fun σ10 =>
  some (none, σ10) := (Ev_blk d mCallingIn_init 24 _ _ _ _).trans rfl
set_option maxRecDepth 100000 in
theorem q_CallingIn_longestRow (d : Nat) (a0 : Nat) (a1 : Nat) (a2 : Nat) (σ : Mem) : EC (d + 1) mCallingIn_longestRow [.ref a0, .ref a1, .ref a2] σ =
  hO (pF σ 0 a0 5 (.int 0)) fun σ1 =>
  hO (pF σ1 0 a0 6 (.int 0)) fun σ2 =>
  Ev (d + 1) mCallingIn_longestRow 12 [(0, .ref a0), (1, .ref a1), (2, .ref a2), (3, .int 0)] [] σ2 := (Ev_blk d mCallingIn_longestRow 9 _ _ _ _).trans rfl
set_option maxRecDepth 100000 in
theorem q_CallingIn_longestRow_12 (d : Nat) (x0 : Nat) (x1 : Nat) (x2 : Nat) (x3 : Int32) (σ : Mem) : Ev (d + 1) mCallingIn_longestRow 12 [(0, .ref x0), (1, .ref x1), (2, .ref x2), (3, .int x3)] [] σ =
  hO (gI σ 1 x1 2) fun i1 =>
  if i1 ≤ x3 then
    bif isC σ 0 x0 then hV (EC d mCallingIn_tryBehind [.ref x0, .ref x1, .ref x2, .int 0] σ) fun σ2 =>
    hO (gI σ2 0 x0 6) fun i3 =>
    some (some (.int i3), σ2)
    else none
  else
  bif isC σ 1 x1 then hI (EC d mChest_isCallable [.ref x1, .int x3] σ) fun i5 σ4 =>
  if i5 = 0 then
    Ev (d + 1) mCallingIn_longestRow 12 [(0, .ref x0), (1, .ref x1), (2, .ref x2), (3, .int (x3 + 1))] [] σ4
  else
  hO (gI σ4 0 x0 5) fun i6 =>
  if i6 < 7 then
    hO (gR σ4 0 x0 0) fun r7 =>
    hO (gI σ4 0 x0 5) fun i8 =>
    hO (sI σ4 r7 i8 x3) fun σ9 =>
    hO (gI σ9 0 x0 5) fun i10 =>
    hO (pF σ9 0 x0 5 (.int (i10 + (1 : Int32)))) fun σ11 =>
    hO (gR σ11 0 x0 3) fun r12 =>
    hO (sI σ11 r12 x3 (-1)) fun σ13 =>
    Ev (d + 1) mCallingIn_longestRow 12 [(0, .ref x0), (1, .ref x1), (2, .ref x2), (3, .int (x3 + 1))] [] σ13
  else
  some (some (.int (-1)), σ4)
  else none := (Ev_blk d mCallingIn_longestRow 32 _ _ _ _).trans rfl
set_option maxRecDepth 100000 in
theorem q_CallingIn_tryBehind (d : Nat) (a0 : Nat) (a1 : Nat) (a2 : Nat) (a3 : Int32) (σ : Mem) : EC (d + 1) mCallingIn_tryBehind [.ref a0, .ref a1, .ref a2, .int a3] σ =
  hO (gI σ 0 a0 6) fun i1 =>
  if a3 ≤ i1 then
    if a3 < 7 then
      Ev (d + 1) mCallingIn_tryBehind 43 [(0, .ref a0), (1, .ref a1), (2, .ref a2), (3, .int a3), (4, .int 0)] [] σ
    else
    some (none, σ)
  else
  if 7 < a3 then
    if a3 < 7 then
      Ev (d + 1) mCallingIn_tryBehind 43 [(0, .ref a0), (1, .ref a1), (2, .ref a2), (3, .int a3), (4, .int 0)] [] σ
    else
    some (none, σ)
  else
  hO (pF σ 0 a0 6 (.int a3)) fun σ2 =>
  hO (gR σ2 0 a0 1) fun r3 =>
  hO (gR σ2 0 a0 2) fun r4 =>
  hO (cpI σ2 r3 0 r4 0 a3) fun σ5 =>
  if a3 < 7 then
    Ev (d + 1) mCallingIn_tryBehind 43 [(0, .ref a0), (1, .ref a1), (2, .ref a2), (3, .int a3), (4, .int 0)] [] σ5
  else
  some (none, σ5) := (Ev_blk d mCallingIn_tryBehind 24 _ _ _ _).trans rfl
set_option maxRecDepth 100000 in
theorem q_CallingIn_tryBehind_43 (d : Nat) (x0 : Nat) (x1 : Nat) (x2 : Nat) (x3 : Int32) (x4 : Int32) (σ : Mem) : Ev (d + 1) mCallingIn_tryBehind 43 [(0, .ref x0), (1, .ref x1), (2, .ref x2), (3, .int x3), (4, .int x4)] [] σ =
  hO (gI σ 0 x0 5) fun i1 =>
  if i1 ≤ x4 then
    some (none, σ)
  else
  hO (gI σ 0 x0 6) fun i2 =>
  hO (gI σ 0 x0 5) fun i3 =>
  if i3 ≤ i2 then
    some (none, σ)
  else
  hO (gR σ 0 x0 0) fun r4 =>
  hO (lI σ r4 x4) fun i5 =>
  hO (gR σ 1 x1 9) fun r6 =>
  hO (lI σ r6 i5) fun i7 =>
  if i7 = 0 then
    hO (gR σ 1 x1 3) fun r8 =>
    hO (lI σ r8 i5) fun i9 =>
    hO (gR σ 1 x1 4) fun r10 =>
    hO (lI σ r10 i5) fun i11 =>
    hO (gR σ 1 x1 1) fun r12 =>
    hO (lI σ r12 i9) fun i13 =>
    hO (gR σ 1 x1 1) fun r14 =>
    hO (lI σ r14 i11) fun i15 =>
    hO (gR σ 0 x0 3) fun r16 =>
    hO (lI σ r16 i5) fun i17 =>
    if i17 = i13 then
      hO (gR σ 0 x0 4) fun r18 =>
      hO (lI σ r18 i5) fun i19 =>
      bif isC σ 1 x1 then hI (EC d mChest_payOver [.ref x1, .int i5, .int i19] σ) fun i21 σ20 =>
      if i21 = 0 then
        Ev (d + 1) mCallingIn_tryBehind 43 [(0, .ref x0), (1, .ref x1), (2, .ref x2), (3, .int x3), (4, .int (x4 + 1))] [] σ20
      else
      hO (gR σ20 1 x1 9) fun r22 =>
      hO (sI σ20 r22 i5 1) fun σ23 =>
      hO (gR σ23 0 x0 1) fun r24 =>
      hO (sI σ23 r24 x3 i5) fun σ25 =>
      bif isC σ25 0 x0 then hV (EC d mCallingIn_tryBehind [.ref x0, .ref x1, .ref x2, .int (x3 + (1 : Int32))] σ25) fun σ26 =>
      hO (gR σ26 1 x1 9) fun r27 =>
      hO (sI σ26 r27 i5 0) fun σ28 =>
      hO (gR σ28 1 x1 1) fun r29 =>
      hO (sI σ28 r29 i9 i13) fun σ30 =>
      hO (gR σ30 1 x1 1) fun r31 =>
      hO (sI σ30 r31 i11 i15) fun σ32 =>
      Ev (d + 1) mCallingIn_tryBehind 43 [(0, .ref x0), (1, .ref x1), (2, .ref x2), (3, .int x3), (4, .int (x4 + 1))] [] σ32
      else none
      else none
    else
    hO (gR σ 0 x0 3) fun r33 =>
    hO (sI σ r33 i5 i13) fun σ34 =>
    hO (gR σ34 0 x0 4) fun r35 =>
    bif isC σ34 7 x2 then hI (EC d mRules_payOf [.ref x2, .ref x1, .int i5] σ34) fun i37 σ36 =>
    hO (sI σ36 r35 i5 i37) fun σ38 =>
    hO (gR σ38 0 x0 4) fun r39 =>
    hO (lI σ38 r39 i5) fun i40 =>
    bif isC σ38 1 x1 then hI (EC d mChest_payOver [.ref x1, .int i5, .int i40] σ38) fun i42 σ41 =>
    if i42 = 0 then
      Ev (d + 1) mCallingIn_tryBehind 43 [(0, .ref x0), (1, .ref x1), (2, .ref x2), (3, .int x3), (4, .int (x4 + 1))] [] σ41
    else
    hO (gR σ41 1 x1 9) fun r43 =>
    hO (sI σ41 r43 i5 1) fun σ44 =>
    hO (gR σ44 0 x0 1) fun r45 =>
    hO (sI σ44 r45 x3 i5) fun σ46 =>
    bif isC σ46 0 x0 then hV (EC d mCallingIn_tryBehind [.ref x0, .ref x1, .ref x2, .int (x3 + (1 : Int32))] σ46) fun σ47 =>
    hO (gR σ47 1 x1 9) fun r48 =>
    hO (sI σ47 r48 i5 0) fun σ49 =>
    hO (gR σ49 1 x1 1) fun r50 =>
    hO (sI σ49 r50 i9 i13) fun σ51 =>
    hO (gR σ51 1 x1 1) fun r52 =>
    hO (sI σ51 r52 i11 i15) fun σ53 =>
    Ev (d + 1) mCallingIn_tryBehind 43 [(0, .ref x0), (1, .ref x1), (2, .ref x2), (3, .int x3), (4, .int (x4 + 1))] [] σ53
    else none
    else none
    else none
  else
  Ev (d + 1) mCallingIn_tryBehind 43 [(0, .ref x0), (1, .ref x1), (2, .ref x2), (3, .int x3), (4, .int (x4 + 1))] [] σ := (Ev_blk d mCallingIn_tryBehind 101 _ _ _ _).trans rfl
set_option maxRecDepth 100000 in
theorem q_Chest_init (d : Nat) (a0 : Nat) (σ : Mem) : EC (d + 1) mChest_init [.ref a0] σ =
  hO (newA σ 0 6) fun q1 =>
  hO (pF q1.2 1 a0 1 (.ref q1.1)) fun σ2 =>
  hO (newA σ2 0 10) fun q3 =>
  hO (pF q3.2 1 a0 3 (.ref q3.1)) fun σ4 =>
  hO (newA σ4 0 10) fun q5 =>
  hO (pF q5.2 1 a0 4 (.ref q5.1)) fun σ6 =>
  hO (newA σ6 0 10) fun q7 =>
  hO (pF q7.2 1 a0 5 (.ref q7.1)) fun σ8 =>
  hO (newA σ8 0 10) fun q9 =>
  hO (pF q9.2 1 a0 6 (.ref q9.1)) fun σ10 =>
  hO (newA σ10 0 10) fun q11 =>
  hO (pF q11.2 1 a0 7 (.ref q11.1)) fun σ12 =>
  hO (newA σ12 0 10) fun q13 =>
  hO (pF q13.2 1 a0 8 (.ref q13.1)) fun σ14 =>
  hO (newA σ14 0 10) fun q15 =>
  hO (pF q15.2 1 a0 9 (.ref q15.1)) fun σ16 =>
  hO (newA σ16 0 10) fun q17 =>
  hO (pF q17.2 1 a0 11 (.ref q17.1)) fun σ18 =>
  hO (newA σ18 0 10) fun q19 =>
  hO (pF q19.2 1 a0 12 (.ref q19.1)) fun σ20 =>
  hO (newA σ20 0 3) fun q21 =>
  hO (pF q21.2 1 a0 13 (.ref q21.1)) fun σ22 =>
  hO (newA σ22 4 6) fun q23 =>
  hO (pF q23.2 1 a0 15 (.ref q23.1)) fun σ24 =>
  hO (pF σ24 1 a0 16 (.int (-1))) fun σ25 =>
  hO (gR σ25 1 a0 13) fun r26 =>
  hO (sI σ25 r26 1 2) fun σ27 =>
  some (none, σ27) := (Ev_blk d mChest_init 60 _ _ _ _).trans rfl
set_option maxRecDepth 100000 in
theorem q_Chest_copyFrom (d : Nat) (a0 : Nat) (a1 : Nat) (σ : Mem) : EC (d + 1) mChest_copyFrom [.ref a0, .ref a1] σ =
  hO (gI σ 1 a1 0) fun i1 =>
  hO (pF σ 1 a0 0 (.int i1)) fun σ2 =>
  hO (gI σ2 1 a1 2) fun i3 =>
  hO (pF σ2 1 a0 2 (.int i3)) fun σ4 =>
  hO (gI σ4 1 a1 10) fun i5 =>
  hO (pF σ4 1 a0 10 (.int i5)) fun σ6 =>
  hO (gI σ6 1 a1 14) fun i7 =>
  hO (pF σ6 1 a0 14 (.int i7)) fun σ8 =>
  hO (gI σ8 1 a1 16) fun i9 =>
  hO (pF σ8 1 a0 16 (.int i9)) fun σ10 =>
  hO (gR σ10 1 a1 1) fun r11 =>
  hO (gR σ10 1 a0 1) fun r12 =>
  hO (cpI σ10 r11 0 r12 0 6) fun σ13 =>
  hO (gR σ13 1 a1 3) fun r14 =>
  hO (gR σ13 1 a0 3) fun r15 =>
  hO (cpI σ13 r14 0 r15 0 10) fun σ16 =>
  hO (gR σ16 1 a1 4) fun r17 =>
  hO (gR σ16 1 a0 4) fun r18 =>
  hO (cpI σ16 r17 0 r18 0 10) fun σ19 =>
  hO (gR σ19 1 a1 5) fun r20 =>
  hO (gR σ19 1 a0 5) fun r21 =>
  hO (cpI σ19 r20 0 r21 0 10) fun σ22 =>
  hO (gR σ22 1 a1 6) fun r23 =>
  hO (gR σ22 1 a0 6) fun r24 =>
  hO (cpI σ22 r23 0 r24 0 10) fun σ25 =>
  hO (gR σ25 1 a1 7) fun r26 =>
  hO (gR σ25 1 a0 7) fun r27 =>
  hO (cpI σ25 r26 0 r27 0 10) fun σ28 =>
  hO (gR σ28 1 a1 8) fun r29 =>
  hO (gR σ28 1 a0 8) fun r30 =>
  hO (cpI σ28 r29 0 r30 0 10) fun σ31 =>
  hO (gR σ31 1 a1 9) fun r32 =>
  hO (gR σ31 1 a0 9) fun r33 =>
  hO (cpI σ31 r32 0 r33 0 10) fun σ34 =>
  hO (gR σ34 1 a1 11) fun r35 =>
  hO (gR σ34 1 a0 11) fun r36 =>
  hO (cpI σ34 r35 0 r36 0 10) fun σ37 =>
  hO (gR σ37 1 a1 12) fun r38 =>
  hO (gR σ37 1 a0 12) fun r39 =>
  hO (cpI σ37 r38 0 r39 0 10) fun σ40 =>
  hO (gR σ40 1 a1 13) fun r41 =>
  hO (gR σ40 1 a0 13) fun r42 =>
  hO (cpI σ40 r41 0 r42 0 3) fun σ43 =>
  Ev (d + 1) mChest_copyFrom 206 [(0, .ref a0), (1, .ref a1), (2, .int 0)] [] σ43 := (Ev_blk d mChest_copyFrom 111 _ _ _ _).trans rfl
set_option maxRecDepth 100000 in
theorem q_Chest_copyFrom_206 (d : Nat) (x0 : Nat) (x1 : Nat) (x2 : Int32) (σ : Mem) : Ev (d + 1) mChest_copyFrom 206 [(0, .ref x0), (1, .ref x1), (2, .int x2)] [] σ =
  if 6 ≤ x2 then
    some (none, σ)
  else
  hO (gR σ 1 x0 15) fun r1 =>
  hO (gR σ 1 x1 15) fun r2 =>
  hO (lQ σ r2 x2) fun q3 =>
  hN q3 (
    hO (sQ σ r1 x2 none) fun σ5 =>
    Ev (d + 1) mChest_copyFrom 206 [(0, .ref x0), (1, .ref x1), (2, .int (x2 + 1))] [] σ5) fun r4 =>
  hO (sQ σ r1 x2 (some r4)) fun σ6 =>
  Ev (d + 1) mChest_copyFrom 206 [(0, .ref x0), (1, .ref x1), (2, .int (x2 + 1))] [] σ6 := (Ev_blk d mChest_copyFrom 14 _ _ _ _).trans rfl
set_option maxRecDepth 100000 in
theorem q_Chest_hasPerson (d : Nat) (a0 : Nat) (a1 : Int32) (σ : Mem) : EC (d + 1) mChest_hasPerson [.ref a0, .int a1] σ =
  if a1 < 0 then
    some (some (.int 0), σ)
  else
  hO (gI σ 1 a0 0) fun i1 =>
  if i1 ≤ a1 then
    some (some (.int 0), σ)
  else
  some (some (.int 1), σ) := (Ev_blk d mChest_hasPerson 10 _ _ _ _).trans rfl
set_option maxRecDepth 100000 in
theorem q_Chest_hasStick (d : Nat) (a0 : Nat) (a1 : Int32) (σ : Mem) : EC (d + 1) mChest_hasStick [.ref a0, .int a1] σ =
  if a1 < 0 then
    some (some (.int 0), σ)
  else
  hO (gI σ 1 a0 2) fun i1 =>
  if i1 ≤ a1 then
    some (some (.int 0), σ)
  else
  some (some (.int 1), σ) := (Ev_blk d mChest_hasStick 10 _ _ _ _).trans rfl
set_option maxRecDepth 100000 in
theorem q_Chest_hasFoil (d : Nat) (a0 : Nat) (a1 : Int32) (σ : Mem) : EC (d + 1) mChest_hasFoil [.ref a0, .int a1] σ =
  if a1 < 0 then
    some (some (.int 0), σ)
  else
  hO (gI σ 1 a0 10) fun i1 =>
  if i1 ≤ a1 then
    some (some (.int 0), σ)
  else
  some (some (.int 1), σ) := (Ev_blk d mChest_hasFoil 10 _ _ _ _).trans rfl
set_option maxRecDepth 100000 in
theorem q_Chest_addPerson (d : Nat) (a0 : Nat) (a1 : Int32) (σ : Mem) : EC (d + 1) mChest_addPerson [.ref a0, .int a1] σ =
  hO (gI σ 1 a0 0) fun i1 =>
  if i1 < 6 then
    hO (gR σ 1 a0 1) fun r2 =>
    hO (gI σ 1 a0 0) fun i3 =>
    hO (sI σ r2 i3 a1) fun σ4 =>
    hO (gI σ4 1 a0 0) fun i5 =>
    hO (pF σ4 1 a0 0 (.int (i5 + (1 : Int32)))) fun σ6 =>
    some (some (.int i5), σ6)
  else
  some (some (.int (-1)), σ) := (Ev_blk d mChest_addPerson 19 _ _ _ _).trans rfl
set_option maxRecDepth 100000 in
theorem q_Chest_addStick (d : Nat) (a0 : Nat) (a1 : Int32) (a2 : Int32) (a3 : Int32) (a4 : Int32) (a5 : Int32) (a6 : Int32) (σ : Mem) : EC (d + 1) mChest_addStick [.ref a0, .int a1, .int a2, .int a3, .int a4, .int a5, .int a6] σ =
  hO (gI σ 1 a0 2) fun i1 =>
  if i1 < 10 then
    hO (gR σ 1 a0 3) fun r2 =>
    hO (gI σ 1 a0 2) fun i3 =>
    hO (sI σ r2 i3 a1) fun σ4 =>
    hO (gR σ4 1 a0 4) fun r5 =>
    hO (gI σ4 1 a0 2) fun i6 =>
    hO (sI σ4 r5 i6 a2) fun σ7 =>
    hO (gR σ7 1 a0 5) fun r8 =>
    hO (gI σ7 1 a0 2) fun i9 =>
    hO (sI σ7 r8 i9 a3) fun σ10 =>
    hO (gR σ10 1 a0 6) fun r11 =>
    hO (gI σ10 1 a0 2) fun i12 =>
    hO (sI σ10 r11 i12 a4) fun σ13 =>
    hO (gR σ13 1 a0 7) fun r14 =>
    hO (gI σ13 1 a0 2) fun i15 =>
    hO (sI σ13 r14 i15 a5) fun σ16 =>
    hO (gR σ16 1 a0 8) fun r17 =>
    hO (gI σ16 1 a0 2) fun i18 =>
    hO (sI σ16 r17 i18 a6) fun σ19 =>
    hO (gR σ19 1 a0 9) fun r20 =>
    hO (gI σ19 1 a0 2) fun i21 =>
    hO (sI σ19 r20 i21 0) fun σ22 =>
    hO (gI σ22 1 a0 2) fun i23 =>
    hO (pF σ22 1 a0 2 (.int (i23 + (1 : Int32)))) fun σ24 =>
    some (some (.int i23), σ24)
  else
  some (some (.int (-1)), σ) := (Ev_blk d mChest_addStick 55 _ _ _ _).trans rfl
set_option maxRecDepth 100000 in
theorem q_Chest_addFoil (d : Nat) (a0 : Nat) (a1 : Int32) (a2 : Int32) (σ : Mem) : EC (d + 1) mChest_addFoil [.ref a0, .int a1, .int a2] σ =
  hO (gI σ 1 a0 10) fun i1 =>
  if i1 < 10 then
    hO (gR σ 1 a0 11) fun r2 =>
    hO (gI σ 1 a0 10) fun i3 =>
    hO (sI σ r2 i3 a1) fun σ4 =>
    hO (gR σ4 1 a0 12) fun r5 =>
    hO (gI σ4 1 a0 10) fun i6 =>
    hO (sI σ4 r5 i6 a2) fun σ7 =>
    hO (gI σ7 1 a0 10) fun i8 =>
    hO (pF σ7 1 a0 10 (.int (i8 + (1 : Int32)))) fun σ9 =>
    some (some (.int i8), σ9)
  else
  some (some (.int (-1)), σ) := (Ev_blk d mChest_addFoil 25 _ _ _ _).trans rfl
set_option maxRecDepth 100000 in
theorem q_Chest_addLaw (d : Nat) (a0 : Nat) (a1 : Nat) (σ : Mem) : EC (d + 1) mChest_addLaw [.ref a0, .ref a1] σ =
  hO (gI σ 1 a0 14) fun i1 =>
  if i1 < 6 then
    hO (gR σ 1 a0 15) fun r2 =>
    hO (gI σ 1 a0 14) fun i3 =>
    hO (sQ σ r2 i3 (some a1)) fun σ4 =>
    hO (gI σ4 1 a0 14) fun i5 =>
    hO (pF σ4 1 a0 14 (.int (i5 + (1 : Int32)))) fun σ6 =>
    some (some (.int i5), σ6)
  else
  some (some (.int (-1)), σ) := (Ev_blk d mChest_addLaw 19 _ _ _ _).trans rfl
set_option maxRecDepth 100000 in
theorem q_Chest_lawInForce (d : Nat) (a0 : Nat) (σ : Mem) : EC (d + 1) mChest_lawInForce [.ref a0] σ =
  hO (gI σ 1 a0 16) fun i1 =>
  if i1 < 0 then
    some (some (.null), σ)
  else
  hO (gI σ 1 a0 16) fun i2 =>
  hO (gI σ 1 a0 14) fun i3 =>
  if i3 ≤ i2 then
    some (some (.null), σ)
  else
  hO (gR σ 1 a0 15) fun r4 =>
  hO (gI σ 1 a0 16) fun i5 =>
  hO (lQ σ r4 i5) fun q6 =>
  hN q6 (
    some (some (.null), σ)) fun r7 =>
  some (some (.ref r7), σ) := (Ev_blk d mChest_lawInForce 16 _ _ _ _).trans rfl
set_option maxRecDepth 100000 in
theorem q_Chest_isOpen (d : Nat) (a0 : Nat) (a1 : Int32) (σ : Mem) : EC (d + 1) mChest_isOpen [.ref a0, .int a1] σ =
  bif isC σ 1 a0 then hI (EC d mChest_hasStick [.ref a0, .int a1] σ) fun i2 σ1 =>
  if i2 = 0 then
    some (some (.int 0), σ1)
  else
  hO (gR σ1 1 a0 9) fun r3 =>
  hO (lI σ1 r3 a1) fun i4 =>
  if i4 = 0 then
    some (some (.int 1), σ1)
  else
  some (some (.int 0), σ1)
  else none := (Ev_blk d mChest_isOpen 13 _ _ _ _).trans rfl
set_option maxRecDepth 100000 in
theorem q_Chest_isCallable (d : Nat) (a0 : Nat) (a1 : Int32) (σ : Mem) : EC (d + 1) mChest_isCallable [.ref a0, .int a1] σ =
  bif isC σ 1 a0 then hI (EC d mChest_isOpen [.ref a0, .int a1] σ) fun i2 σ1 =>
  if i2 = 0 then
    some (some (.int 0), σ1)
  else
  hO (gR σ1 1 a0 8) fun r3 =>
  hO (lI σ1 r3 a1) fun i4 =>
  hO (gR σ1 1 a0 13) fun r5 =>
  hO (lI σ1 r5 0) fun i6 =>
  if i6 < i4 then
    some (some (.int 0), σ1)
  else
  some (some (.int 1), σ1)
  else none := (Ev_blk d mChest_isCallable 17 _ _ _ _).trans rfl
set_option maxRecDepth 100000 in
theorem q_Chest_netOf (d : Nat) (a0 : Nat) (a1 : Int32) (σ : Mem) : EC (d + 1) mChest_netOf [.ref a0, .int a1] σ =
  Ev (d + 1) mChest_netOf 4 [(0, .ref a0), (1, .int a1), (2, .int 0), (3, .int 0)] [] σ := (Ev_blk d mChest_netOf 5 _ _ _ _).trans rfl
set_option maxRecDepth 100000 in
theorem q_Chest_netOf_4 (d : Nat) (x0 : Nat) (x1 : Int32) (x2 : Int32) (x3 : Int32) (σ : Mem) : Ev (d + 1) mChest_netOf 4 [(0, .ref x0), (1, .int x1), (2, .int x2), (3, .int x3)] [] σ =
  hO (gI σ 1 x0 2) fun i1 =>
  if i1 ≤ x3 then
    some (some (.int x2), σ)
  else
  hO (gR σ 1 x0 9) fun r2 =>
  hO (lI σ r2 x3) fun i3 =>
  if i3 = 0 then
    hO (gR σ 1 x0 4) fun r4 =>
    hO (lI σ r4 x3) fun i5 =>
    if i5 = x1 then
      hO (gR σ 1 x0 5) fun r6 =>
      hO (lI σ r6 x3) fun i7 =>
      hO (gR σ 1 x0 3) fun r8 =>
      hO (lI σ r8 x3) fun i9 =>
      if i9 = x1 then
        hO (gR σ 1 x0 5) fun r10 =>
        hO (lI σ r10 x3) fun i11 =>
        Ev (d + 1) mChest_netOf 4 [(0, .ref x0), (1, .int x1), (2, .int ((x2 + i7) - i11)), (3, .int (x3 + 1))] [] σ
      else
      Ev (d + 1) mChest_netOf 4 [(0, .ref x0), (1, .int x1), (2, .int ((x2 + i7) - (0 : Int32))), (3, .int (x3 + 1))] [] σ
    else
    hO (gR σ 1 x0 3) fun r12 =>
    hO (lI σ r12 x3) fun i13 =>
    if i13 = x1 then
      hO (gR σ 1 x0 5) fun r14 =>
      hO (lI σ r14 x3) fun i15 =>
      Ev (d + 1) mChest_netOf 4 [(0, .ref x0), (1, .int x1), (2, .int ((x2 + (0 : Int32)) - i15)), (3, .int (x3 + 1))] [] σ
    else
    Ev (d + 1) mChest_netOf 4 [(0, .ref x0), (1, .int x1), (2, .int ((x2 + (0 : Int32)) - (0 : Int32))), (3, .int (x3 + 1))] [] σ
  else
  Ev (d + 1) mChest_netOf 4 [(0, .ref x0), (1, .int x1), (2, .int x2), (3, .int (x3 + 1))] [] σ := (Ev_blk d mChest_netOf 40 _ _ _ _).trans rfl
set_option maxRecDepth 100000 in
theorem q_Chest_openSticks (d : Nat) (a0 : Nat) (a1 : Nat) (a2 : Int32) (σ : Mem) : EC (d + 1) mChest_openSticks [.ref a0, .ref a1, .int a2] σ =
  Ev (d + 1) mChest_openSticks 5 [(0, .ref a0), (1, .ref a1), (2, .int a2), (3, .int 0), (4, .int 0)] [] σ := (Ev_blk d mChest_openSticks 5 _ _ _ _).trans rfl
set_option maxRecDepth 100000 in
theorem q_Chest_openSticks_5 (d : Nat) (x0 : Nat) (x1 : Nat) (x2 : Int32) (x3 : Int32) (x4 : Int32) (σ : Mem) : Ev (d + 1) mChest_openSticks 5 [(0, .ref x0), (1, .ref x1), (2, .int x2), (3, .int x3), (4, .int x4)] [] σ =
  hO (gI σ 1 x0 2) fun i1 =>
  if i1 ≤ x4 then
    some (some (.int x3), σ)
  else
  hO (aln σ x1) fun i2 =>
  if i2 ≤ x4 then
    some (some (.int x3), σ)
  else
  hO (gR σ 1 x0 9) fun r3 =>
  hO (lI σ r3 x4) fun i4 =>
  if i4 = 0 then
    hO (lI σ x1 x4) fun i5 =>
    if i5 = x2 then
      Ev (d + 1) mChest_openSticks 5 [(0, .ref x0), (1, .ref x1), (2, .int x2), (3, .int (x3 + 1)), (4, .int (x4 + 1))] [] σ
    else
    Ev (d + 1) mChest_openSticks 5 [(0, .ref x0), (1, .ref x1), (2, .int x2), (3, .int x3), (4, .int (x4 + 1))] [] σ
  else
  Ev (d + 1) mChest_openSticks 5 [(0, .ref x0), (1, .ref x1), (2, .int x2), (3, .int x3), (4, .int (x4 + 1))] [] σ := (Ev_blk d mChest_openSticks 22 _ _ _ _).trans rfl
set_option maxRecDepth 100000 in
theorem q_Chest_paidSticks (d : Nat) (a0 : Nat) (σ : Mem) : EC (d + 1) mChest_paidSticks [.ref a0] σ =
  Ev (d + 1) mChest_paidSticks 4 [(0, .ref a0), (1, .int 0), (2, .int 0)] [] σ := (Ev_blk d mChest_paidSticks 5 _ _ _ _).trans rfl
set_option maxRecDepth 100000 in
theorem q_Chest_paidSticks_4 (d : Nat) (x0 : Nat) (x1 : Int32) (x2 : Int32) (σ : Mem) : Ev (d + 1) mChest_paidSticks 4 [(0, .ref x0), (1, .int x1), (2, .int x2)] [] σ =
  hO (gI σ 1 x0 2) fun i1 =>
  if i1 ≤ x2 then
    some (some (.int x1), σ)
  else
  hO (gR σ 1 x0 9) fun r2 =>
  hO (lI σ r2 x2) fun i3 =>
  Ev (d + 1) mChest_paidSticks 4 [(0, .ref x0), (1, .int (x1 + i3)), (2, .int (x2 + 1))] [] σ := (Ev_blk d mChest_paidSticks 14 _ _ _ _).trans rfl
set_option maxRecDepth 100000 in
theorem q_Chest_fits (d : Nat) (a0 : Nat) (a1 : Int32) (a2 : Int32) (a3 : Int32) (σ : Mem) : EC (d + 1) mChest_fits [.ref a0, .int a1, .int a2, .int a3] σ =
  hO (gR σ 1 a0 6) fun r1 =>
  hO (lI σ r1 a1) fun i2 =>
  hO (gR σ 1 a0 11) fun r3 =>
  hO (lI σ r3 a2) fun i4 =>
  hI (EC d mJ_bitCount [.int (i2 ^^^ i4)] σ) fun i6 σ5 =>
  if a3 < i6 then
    some (some (.int 0), σ5)
  else
  hO (gR σ5 1 a0 5) fun r7 =>
  hO (lI σ5 r7 a1) fun i8 =>
  hO (gR σ5 1 a0 12) fun r9 =>
  hO (lI σ5 r9 a2) fun i10 =>
  if i10 < i8 then
    some (some (.int 0), σ5)
  else
  some (some (.int 1), σ5) := (Ev_blk d mChest_fits 25 _ _ _ _).trans rfl
set_option maxRecDepth 100000 in
theorem q_Chest_payOver (d : Nat) (a0 : Nat) (a1 : Int32) (a2 : Int32) (σ : Mem) : EC (d + 1) mChest_payOver [.ref a0, .int a1, .int a2] σ =
  hO (gR σ 1 a0 3) fun r1 =>
  hO (lI σ r1 a1) fun i2 =>
  hO (gR σ 1 a0 4) fun r3 =>
  hO (lI σ r3 a1) fun i4 =>
  hO (gR σ 1 a0 1) fun r5 =>
  hO (lI σ r5 i2) fun i6 =>
  if a2 ≤ i6 then
    hO (gR σ 1 a0 1) fun r7 =>
    hO (lI σ r7 i2) fun i8 =>
    hO (sI σ r7 i2 (i8 - a2)) fun σ9 =>
    hO (gR σ9 1 a0 1) fun r10 =>
    hO (gR σ9 1 a0 1) fun r11 =>
    hO (lI σ9 r11 i4) fun i12 =>
    hO (sI σ9 r10 i4 (mnI 9999 (i12 + a2))) fun σ13 =>
    some (some (.int 1), σ13)
  else
  some (some (.int 0), σ) := (Ev_blk d mChest_payOver 39 _ _ _ _).trans rfl
set_option maxRecDepth 100000 in
theorem q_Debts_init (d : Nat) (a0 : Nat) (σ : Mem) : EC (d + 1) mDebts_init [.ref a0] σ =
  hO (newA σ 0 6) fun q1 =>
  hO (pF q1.2 2 a0 0 (.ref q1.1)) fun σ2 =>
  hO (newA σ2 0 6) fun q3 =>
  hO (pF q3.2 2 a0 1 (.ref q3.1)) fun σ4 =>
  hO (newA σ4 0 6) fun q5 =>
  hO (pF q5.2 2 a0 2 (.ref q5.1)) fun σ6 =>
  hO (newA σ6 0 6) fun q7 =>
  hO (pF q7.2 2 a0 3 (.ref q7.1)) fun σ8 =>
  hO (newA σ8 0 6) fun q9 =>
  hO (pF q9.2 2 a0 4 (.ref q9.1)) fun σ10 =>
  some (none, σ10) := (Ev_blk d mDebts_init 24 _ _ _ _).trans rfl
set_option maxRecDepth 100000 in
theorem q_Debts_settleAll (d : Nat) (a0 : Nat) (a1 : Nat) (σ : Mem) : EC (d + 1) mDebts_settleAll [.ref a0, .ref a1] σ =
  Ev (d + 1) mDebts_settleAll 4 [(0, .ref a0), (1, .ref a1), (2, .int 0), (3, .int 0)] [] σ := (Ev_blk d mDebts_settleAll 5 _ _ _ _).trans rfl
set_option maxRecDepth 100000 in
theorem q_Debts_settleAll_4 (d : Nat) (x0 : Nat) (x1 : Nat) (x2 : Int32) (x3 : Int32) (σ : Mem) : Ev (d + 1) mDebts_settleAll 4 [(0, .ref x0), (1, .ref x1), (2, .int x2), (3, .int x3)] [] σ =
  hO (gI σ 1 x1 0) fun i1 =>
  if i1 ≤ x3 then
    hO (pF σ 2 x0 5 (.int 0)) fun σ2 =>
    hO (gI σ2 1 x1 0) fun i3 =>
    bif isC σ2 2 x0 then hV (EC d mDebts_partFrom [.ref x0, .int 0, .int i3, .int 0] σ2) fun σ4 =>
    hO (gI σ4 2 x0 5) fun i5 =>
    some (some (.int (x2 - i5)), σ4)
    else none
  else
  hO (gR σ 2 x0 0) fun r6 =>
  bif isC σ 1 x1 then hI (EC d mChest_netOf [.ref x1, .int x3] σ) fun i8 σ7 =>
  hO (sI σ7 r6 x3 i8) fun σ9 =>
  hO (gR σ9 2 x0 2) fun r10 =>
  hO (sI σ9 r10 x3 0) fun σ11 =>
  hO (gR σ11 2 x0 3) fun r12 =>
  hO (sI σ11 r12 x3 100) fun σ13 =>
  hO (gR σ13 2 x0 0) fun r14 =>
  hO (lI σ13 r14 x3) fun i15 =>
  if i15 = 0 then
    Ev (d + 1) mDebts_settleAll 4 [(0, .ref x0), (1, .ref x1), (2, .int (x2 + (0 : Int32))), (3, .int (x3 + 1))] [] σ13
  else
  Ev (d + 1) mDebts_settleAll 4 [(0, .ref x0), (1, .ref x1), (2, .int (x2 + (1 : Int32))), (3, .int (x3 + 1))] [] σ13
  else none := (Ev_blk d mDebts_settleAll 34 _ _ _ _).trans rfl
set_option maxRecDepth 100000 in
theorem q_Debts_partFrom (d : Nat) (a0 : Nat) (a1 : Int32) (a2 : Int32) (a3 : Int32) (σ : Mem) : EC (d + 1) mDebts_partFrom [.ref a0, .int a1, .int a2, .int a3] σ =
  if a2 ≤ a1 then
    bif isC σ 2 a0 then hV (EC d mDebts_keepParting [.ref a0, .int a2, .int a3] σ) fun σ1 =>
    some (none, σ1)
    else none
  else
  if a1 < 6 then
    hO (gR σ 2 a0 0) fun r2 =>
    hO (lI σ r2 a1) fun i3 =>
    if i3 = 0 then
      hO (gR σ 2 a0 1) fun r4 =>
      hO (sI σ r4 a1 100) fun σ5 =>
      bif isC σ5 2 a0 then hV (EC d mDebts_partFrom [.ref a0, .int (a1 + (1 : Int32)), .int a2, .int a3] σ5) fun σ6 =>
      some (none, σ6)
      else none
    else
    Ev (d + 1) mDebts_partFrom 48 [(0, .ref a0), (1, .int a1), (2, .int a2), (3, .int a3), (4, .int 0)] [] σ
  else
  bif isC σ 2 a0 then hV (EC d mDebts_keepParting [.ref a0, .int a2, .int a3] σ) fun σ7 =>
  some (none, σ7)
  else none := (Ev_blk d mDebts_partFrom 25 _ _ _ _).trans rfl
set_option maxRecDepth 100000 in
theorem q_Debts_partFrom_48 (d : Nat) (x0 : Nat) (x1 : Int32) (x2 : Int32) (x3 : Int32) (x4 : Int32) (σ : Mem) : Ev (d + 1) mDebts_partFrom 48 [(0, .ref x0), (1, .int x1), (2, .int x2), (3, .int x3), (4, .int x4)] [] σ =
  if x3 < x4 then
    some (none, σ)
  else
  if 6 ≤ x4 then
    some (none, σ)
  else
  hO (gR σ 2 x0 1) fun r1 =>
  hO (sI σ r1 x1 x4) fun σ2 =>
  hO (gR σ2 2 x0 2) fun r3 =>
  hO (lI σ2 r3 x4) fun i4 =>
  hO (gR σ2 2 x0 0) fun r5 =>
  hO (lI σ2 r5 x1) fun i6 =>
  hO (sI σ2 r3 x4 (i4 + i6)) fun σ7 =>
  if x4 = x3 then
    bif isC σ7 2 x0 then hV (EC d mDebts_partFrom [.ref x0, .int (x1 + (1 : Int32)), .int x2, .int (x3 + (1 : Int32))] σ7) fun σ8 =>
    hO (gR σ8 2 x0 2) fun r9 =>
    hO (lI σ8 r9 x4) fun i10 =>
    hO (gR σ8 2 x0 0) fun r11 =>
    hO (lI σ8 r11 x1) fun i12 =>
    hO (sI σ8 r9 x4 (i10 - i12)) fun σ13 =>
    Ev (d + 1) mDebts_partFrom 48 [(0, .ref x0), (1, .int x1), (2, .int x2), (3, .int x3), (4, .int (x4 + 1))] [] σ13
    else none
  else
  bif isC σ7 2 x0 then hV (EC d mDebts_partFrom [.ref x0, .int (x1 + (1 : Int32)), .int x2, .int x3] σ7) fun σ14 =>
  hO (gR σ14 2 x0 2) fun r15 =>
  hO (lI σ14 r15 x4) fun i16 =>
  hO (gR σ14 2 x0 0) fun r17 =>
  hO (lI σ14 r17 x1) fun i18 =>
  hO (sI σ14 r15 x4 (i16 - i18)) fun σ19 =>
  Ev (d + 1) mDebts_partFrom 48 [(0, .ref x0), (1, .int x1), (2, .int x2), (3, .int x3), (4, .int (x4 + 1))] [] σ19
  else none := (Ev_blk d mDebts_partFrom 49 _ _ _ _).trans rfl
set_option maxRecDepth 100000 in
theorem q_Debts_keepParting (d : Nat) (a0 : Nat) (a1 : Int32) (a2 : Int32) (σ : Mem) : EC (d + 1) mDebts_keepParting [.ref a0, .int a1, .int a2] σ =
  hO (gI σ 2 a0 5) fun i1 =>
  if i1 < a2 then
    Ev (d + 1) mDebts_keepParting 11 [(0, .ref a0), (1, .int a1), (2, .int a2), (3, .int 0)] [] σ
  else
  some (none, σ) := (Ev_blk d mDebts_keepParting 7 _ _ _ _).trans rfl
set_option maxRecDepth 100000 in
theorem q_Debts_keepParting_11 (d : Nat) (x0 : Nat) (x1 : Int32) (x2 : Int32) (x3 : Int32) (σ : Mem) : Ev (d + 1) mDebts_keepParting 11 [(0, .ref x0), (1, .int x1), (2, .int x2), (3, .int x3)] [] σ =
  if x2 ≤ x3 then
    hO (pF σ 2 x0 5 (.int x2)) fun σ1 =>
    hO (gR σ1 2 x0 1) fun r2 =>
    hO (gR σ1 2 x0 3) fun r3 =>
    hO (cpI σ1 r2 0 r3 0 (mnI x1 6)) fun σ4 =>
    some (none, σ4)
  else
  if 6 ≤ x3 then
    hO (pF σ 2 x0 5 (.int x2)) fun σ5 =>
    hO (gR σ5 2 x0 1) fun r6 =>
    hO (gR σ5 2 x0 3) fun r7 =>
    hO (cpI σ5 r6 0 r7 0 (mnI x1 6)) fun σ8 =>
    some (none, σ8)
  else
  hO (gR σ 2 x0 2) fun r9 =>
  hO (lI σ r9 x3) fun i10 =>
  if i10 = 0 then
    Ev (d + 1) mDebts_keepParting 11 [(0, .ref x0), (1, .int x1), (2, .int x2), (3, .int (x3 + 1))] [] σ
  else
  some (none, σ) := (Ev_blk d mDebts_keepParting 21 _ _ _ _).trans rfl
set_option maxRecDepth 100000 in
theorem q_Debts_shortestRing (d : Nat) (a0 : Nat) (a1 : Nat) (σ : Mem) : EC (d + 1) mDebts_shortestRing [.ref a0, .ref a1] σ =
  Ev (d + 1) mDebts_shortestRing 2 [(0, .ref a0), (1, .ref a1), (2, .int 2)] [] σ := (Ev_blk d mDebts_shortestRing 3 _ _ _ _).trans rfl
set_option maxRecDepth 100000 in
theorem q_Debts_shortestRing_2 (d : Nat) (x0 : Nat) (x1 : Nat) (x2 : Int32) (σ : Mem) : Ev (d + 1) mDebts_shortestRing 2 [(0, .ref x0), (1, .ref x1), (2, .int x2)] [] σ =
  hO (gI σ 1 x1 0) fun i1 =>
  if i1 < x2 then
    some (some (.int (-1)), σ)
  else
  Ev (d + 1) mDebts_shortestRing 12 [(0, .ref x0), (1, .ref x1), (2, .int x2), (3, .int 0)] [] σ := (Ev_blk d mDebts_shortestRing 7 _ _ _ _).trans rfl
set_option maxRecDepth 100000 in
theorem q_Debts_shortestRing_12 (d : Nat) (x0 : Nat) (x1 : Nat) (x2 : Int32) (x3 : Int32) (σ : Mem) : Ev (d + 1) mDebts_shortestRing 12 [(0, .ref x0), (1, .ref x1), (2, .int x2), (3, .int x3)] [] σ =
  hO (gI σ 1 x1 2) fun i1 =>
  if i1 ≤ x3 then
    Ev (d + 1) mDebts_shortestRing 2 [(0, .ref x0), (1, .ref x1), (2, .int (x2 + 1))] [] σ
  else
  hO (gR σ 2 x0 4) fun r2 =>
  hO (sI σ r2 0 x3) fun σ3 =>
  bif isC σ3 1 x1 then hI (EC d mChest_isOpen [.ref x1, .int x3] σ3) fun i5 σ4 =>
  if i5 = 0 then
    Ev (d + 1) mDebts_shortestRing 12 [(0, .ref x0), (1, .ref x1), (2, .int x2), (3, .int (x3 + 1))] [] σ4
  else
  hO (gR σ4 1 x1 3) fun r6 =>
  hO (lI σ4 r6 x3) fun i7 =>
  bif isC σ4 2 x0 then hI (EC d mDebts_closesRing [.ref x0, .ref x1, .int 1, .int x2, .int ((1 : Int32) <<< (i7 &&& 31))] σ4) fun i9 σ8 =>
  if i9 = 0 then
    Ev (d + 1) mDebts_shortestRing 12 [(0, .ref x0), (1, .ref x1), (2, .int x2), (3, .int (x3 + 1))] [] σ8
  else
  some (some (.int x2), σ8)
  else none
  else none := (Ev_blk d mDebts_shortestRing 28 _ _ _ _).trans rfl
set_option maxRecDepth 100000 in
theorem q_Debts_closesRing (d : Nat) (a0 : Nat) (a1 : Nat) (a2 : Int32) (a3 : Int32) (a4 : Int32) (σ : Mem) : EC (d + 1) mDebts_closesRing [.ref a0, .ref a1, .int a2, .int a3, .int a4] σ =
  if a2 < 1 then
    some (some (.int 0), σ)
  else
  if a2 ≤ 6 then
    hO (gR σ 1 a1 4) fun r1 =>
    hO (gR σ 2 a0 4) fun r2 =>
    hO (lI σ r2 (a2 - (1 : Int32))) fun i3 =>
    hO (lI σ r1 i3) fun i4 =>
    if a2 < a3 then
      if ((a4 &&& ((1 : Int32) <<< (i4 &&& 31))) : Int32) = 0 then
        hO (gR σ 2 a0 4) fun r5 =>
        hO (lI σ r5 0) fun i6 =>
        Ev (d + 1) mDebts_closesRing 77 [(0, .ref a0), (1, .ref a1), (2, .int a2), (3, .int a3), (4, .int a4), (5, .int i4), (6, .int (i6 + (1 : Int32)))] [] σ
      else
      some (some (.int 0), σ)
    else
    hO (gR σ 1 a1 3) fun r7 =>
    hO (gR σ 2 a0 4) fun r8 =>
    hO (lI σ r8 0) fun i9 =>
    hO (lI σ r7 i9) fun i10 =>
    if i4 = i10 then
      some (some (.int 1), σ)
    else
    some (some (.int 0), σ)
  else
  some (some (.int 0), σ) := (Ev_blk d mDebts_closesRing 33 _ _ _ _).trans rfl
set_option maxRecDepth 100000 in
theorem q_Debts_closesRing_77 (d : Nat) (x0 : Nat) (x1 : Nat) (x2 : Int32) (x3 : Int32) (x4 : Int32) (x5 : Int32) (x6 : Int32) (σ : Mem) : Ev (d + 1) mDebts_closesRing 77 [(0, .ref x0), (1, .ref x1), (2, .int x2), (3, .int x3), (4, .int x4), (5, .int x5), (6, .int x6)] [] σ =
  hO (gI σ 1 x1 2) fun i1 =>
  if i1 ≤ x6 then
    some (some (.int 0), σ)
  else
  bif isC σ 1 x1 then hI (EC d mChest_isOpen [.ref x1, .int x6] σ) fun i3 σ2 =>
  if i3 = 0 then
    Ev (d + 1) mDebts_closesRing 77 [(0, .ref x0), (1, .ref x1), (2, .int x2), (3, .int x3), (4, .int x4), (5, .int x5), (6, .int (x6 + 1))] [] σ2
  else
  hO (gR σ2 1 x1 3) fun r4 =>
  hO (lI σ2 r4 x6) fun i5 =>
  if i5 = x5 then
    hO (gR σ2 2 x0 4) fun r6 =>
    hO (sI σ2 r6 x2 x6) fun σ7 =>
    bif isC σ7 2 x0 then hI (EC d mDebts_closesRing [.ref x0, .ref x1, .int (x2 + (1 : Int32)), .int x3, .int (x4 ||| ((1 : Int32) <<< (x5 &&& 31)))] σ7) fun i9 σ8 =>
    if i9 = 0 then
      Ev (d + 1) mDebts_closesRing 77 [(0, .ref x0), (1, .ref x1), (2, .int x2), (3, .int x3), (4, .int x4), (5, .int x5), (6, .int (x6 + 1))] [] σ8
    else
    some (some (.int 1), σ8)
    else none
  else
  Ev (d + 1) mDebts_closesRing 77 [(0, .ref x0), (1, .ref x1), (2, .int x2), (3, .int x3), (4, .int x4), (5, .int x5), (6, .int (x6 + 1))] [] σ2
  else none := (Ev_blk d mDebts_closesRing 35 _ _ _ _).trans rfl
set_option maxRecDepth 100000 in
theorem q_Debts_shortestChain (d : Nat) (a0 : Nat) (a1 : Nat) (a2 : Int32) (a3 : Int32) (σ : Mem) : EC (d + 1) mDebts_shortestChain [.ref a0, .ref a1, .int a2, .int a3] σ =
  Ev (d + 1) mDebts_shortestChain 8 [(1, .ref a1), (3, .int a3), (4, .int ((1 : Int32) <<< (a2 &&& 31))), (5, .int 1)] [] σ := (Ev_blk d mDebts_shortestChain 7 _ _ _ _).trans rfl
set_option maxRecDepth 100000 in
theorem q_Debts_shortestChain_8 (d : Nat) (x1 : Nat) (x3 : Int32) (x4 : Int32) (x5 : Int32) (σ : Mem) : Ev (d + 1) mDebts_shortestChain 8 [(1, .ref x1), (3, .int x3), (4, .int x4), (5, .int x5)] [] σ =
  hO (gI σ 1 x1 0) fun i1 =>
  if i1 ≤ x5 then
    some (some (.int (-1)), σ)
  else
  Ev (d + 1) mDebts_shortestChain 24 [(1, .ref x1), (3, .int x3), (4, .int x4), (5, .int x5), (6, .int x4), (7, .int 0)] [] σ := (Ev_blk d mDebts_shortestChain 9 _ _ _ _).trans rfl
set_option maxRecDepth 100000 in
theorem q_Debts_shortestChain_24 (d : Nat) (x1 : Nat) (x3 : Int32) (x4 : Int32) (x5 : Int32) (x6 : Int32) (x7 : Int32) (σ : Mem) : Ev (d + 1) mDebts_shortestChain 24 [(1, .ref x1), (3, .int x3), (4, .int x4), (5, .int x5), (6, .int x6), (7, .int x7)] [] σ =
  hO (gI σ 1 x1 2) fun i1 =>
  if i1 ≤ x7 then
    if ((x6 &&& ((1 : Int32) <<< (x3 &&& 31))) : Int32) = 0 then
      Ev (d + 1) mDebts_shortestChain 8 [(1, .ref x1), (3, .int x3), (4, .int x6), (5, .int (x5 + 1))] [] σ
    else
    some (some (.int x5), σ)
  else
  bif isC σ 1 x1 then hI (EC d mChest_isOpen [.ref x1, .int x7] σ) fun i3 σ2 =>
  if i3 = 0 then
    Ev (d + 1) mDebts_shortestChain 24 [(1, .ref x1), (3, .int x3), (4, .int x4), (5, .int x5), (6, .int x6), (7, .int (x7 + 1))] [] σ2
  else
  hO (gR σ2 1 x1 3) fun r4 =>
  hO (lI σ2 r4 x7) fun i5 =>
  if ((x4 &&& ((1 : Int32) <<< (i5 &&& 31))) : Int32) = 0 then
    Ev (d + 1) mDebts_shortestChain 24 [(1, .ref x1), (3, .int x3), (4, .int x4), (5, .int x5), (6, .int x6), (7, .int (x7 + 1))] [] σ2
  else
  hO (gR σ2 1 x1 4) fun r6 =>
  hO (lI σ2 r6 x7) fun i7 =>
  Ev (d + 1) mDebts_shortestChain 24 [(1, .ref x1), (3, .int x3), (4, .int x4), (5, .int x5), (6, .int (x6 ||| ((1 : Int32) <<< (i7 &&& 31)))), (7, .int (x7 + 1))] [] σ2
  else none := (Ev_blk d mDebts_shortestChain 29 _ _ _ _).trans rfl
set_option maxRecDepth 100000 in
theorem q_Deeds_init (d : Nat) (a0 : Nat) (σ : Mem) : EC (d + 1) mDeeds_init [.ref a0] σ =
  hO (newA σ 0 119) fun q1 =>
  hO (pF q1.2 3 a0 0 (.ref q1.1)) fun σ2 =>
  some (none, σ2) := (Ev_blk d mDeeds_init 8 _ _ _ _).trans rfl
set_option maxRecDepth 100000 in
theorem q_Deeds_forget (d : Nat) (a0 : Nat) (σ : Mem) : EC (d + 1) mDeeds_forget [.ref a0] σ =
  hO (pF σ 3 a0 2 (.int 0)) fun σ1 =>
  some (none, σ1) := (Ev_blk d mDeeds_forget 5 _ _ _ _).trans rfl
set_option maxRecDepth 100000 in
theorem q_Deeds_copyFrom (d : Nat) (a0 : Nat) (a1 : Nat) (σ : Mem) : EC (d + 1) mDeeds_copyFrom [.ref a0, .ref a1] σ =
  hO (gR σ 3 a1 0) fun r1 =>
  hO (gR σ 3 a0 0) fun r2 =>
  hO (cpI σ r1 0 r2 0 119) fun σ3 =>
  hO (gI σ3 3 a1 1) fun i4 =>
  hO (pF σ3 3 a0 1 (.int i4)) fun σ5 =>
  hO (gI σ5 3 a1 2) fun i6 =>
  hO (pF σ5 3 a0 2 (.int i6)) fun σ7 =>
  some (none, σ7) := (Ev_blk d mDeeds_copyFrom 18 _ _ _ _).trans rfl
set_option maxRecDepth 100000 in
theorem q_Deeds_prepare (d : Nat) (a0 : Nat) (a1 : Int32) (a2 : Nat) (a3 : Int32) (σ : Mem) : EC (d + 1) mDeeds_prepare [.ref a0, .int a1, .ref a2, .int a3] σ =
  hO (gI σ 3 a0 1) fun i1 =>
  hO (gI σ 3 a0 2) fun i2 =>
  if (17 : Int32) = 0 then none else
  hO (gR σ 3 a0 0) fun r3 =>
  hO (sI σ r3 (((i1 + i2) - (i1 + i2) / (17 : Int32) * (17 : Int32)) * (7 : Int32)) a1) fun σ4 =>
  if a1 = 3 then
    some (none, σ4)
  else
  bif isC σ4 1 a2 then hI (EC d mChest_hasStick [.ref a2, .int a3] σ4) fun i6 σ5 =>
  if i6 = 0 then
    some (none, σ5)
  else
  hO (gR σ5 1 a2 4) fun r7 =>
  hO (lI σ5 r7 a3) fun i8 =>
  hO (gR σ5 3 a0 0) fun r9 =>
  hO (sI σ5 r9 ((((i1 + i2) - (i1 + i2) / (17 : Int32) * (17 : Int32)) * (7 : Int32)) + (1 : Int32)) a3) fun σ10 =>
  hO (gR σ10 3 a0 0) fun r11 =>
  hO (sI σ10 r11 ((((i1 + i2) - (i1 + i2) / (17 : Int32) * (17 : Int32)) * (7 : Int32)) + (2 : Int32)) i8) fun σ12 =>
  hO (gR σ12 3 a0 0) fun r13 =>
  hO (gR σ12 1 a2 9) fun r14 =>
  hO (lI σ12 r14 a3) fun i15 =>
  hO (sI σ12 r13 ((((i1 + i2) - (i1 + i2) / (17 : Int32) * (17 : Int32)) * (7 : Int32)) + (3 : Int32)) i15) fun σ16 =>
  hO (gR σ16 3 a0 0) fun r17 =>
  hO (gR σ16 1 a2 5) fun r18 =>
  hO (lI σ16 r18 a3) fun i19 =>
  hO (sI σ16 r17 ((((i1 + i2) - (i1 + i2) / (17 : Int32) * (17 : Int32)) * (7 : Int32)) + (4 : Int32)) i19) fun σ20 =>
  hO (gR σ20 3 a0 0) fun r21 =>
  hO (gR σ20 1 a2 1) fun r22 =>
  hO (gR σ20 1 a2 3) fun r23 =>
  hO (lI σ20 r23 a3) fun i24 =>
  hO (lI σ20 r22 i24) fun i25 =>
  hO (sI σ20 r21 ((((i1 + i2) - (i1 + i2) / (17 : Int32) * (17 : Int32)) * (7 : Int32)) + (5 : Int32)) i25) fun σ26 =>
  hO (gR σ26 3 a0 0) fun r27 =>
  hO (gR σ26 1 a2 1) fun r28 =>
  hO (lI σ26 r28 i8) fun i29 =>
  hO (sI σ26 r27 ((((i1 + i2) - (i1 + i2) / (17 : Int32) * (17 : Int32)) * (7 : Int32)) + (6 : Int32)) i29) fun σ30 =>
  some (none, σ30)
  else none := (Ev_blk d mDeeds_prepare 86 _ _ _ _).trans rfl
set_option maxRecDepth 100000 in
theorem q_Deeds_keep (d : Nat) (a0 : Nat) (σ : Mem) : EC (d + 1) mDeeds_keep [.ref a0] σ =
  hO (gI σ 3 a0 2) fun i1 =>
  if 16 ≤ i1 then
    hO (gI σ 3 a0 1) fun i2 =>
    if (17 : Int32) = 0 then none else
    hO (pF σ 3 a0 1 (.int ((i2 + (1 : Int32)) - (i2 + (1 : Int32)) / (17 : Int32) * (17 : Int32)))) fun σ3 =>
    some (none, σ3)
  else
  hO (gI σ 3 a0 2) fun i4 =>
  hO (pF σ 3 a0 2 (.int (i4 + (1 : Int32)))) fun σ5 =>
  some (none, σ5) := (Ev_blk d mDeeds_keep 14 _ _ _ _).trans rfl
set_option maxRecDepth 100000 in
theorem q_Deeds_takeBack (d : Nat) (a0 : Nat) (a1 : Nat) (σ : Mem) : EC (d + 1) mDeeds_takeBack [.ref a0, .ref a1] σ =
  hO (gI σ 3 a0 2) fun i1 =>
  if 1 ≤ i1 then
    hO (gI σ 3 a0 2) fun i2 =>
    hO (pF σ 3 a0 2 (.int (i2 - (1 : Int32)))) fun σ3 =>
    hO (gI σ3 3 a0 1) fun i4 =>
    hO (gI σ3 3 a0 2) fun i5 =>
    if (17 : Int32) = 0 then none else
    hO (gR σ3 3 a0 0) fun r6 =>
    hO (lI σ3 r6 (((i4 + i5) - (i4 + i5) / (17 : Int32) * (17 : Int32)) * (7 : Int32))) fun i7 =>
    if i7 = 3 then
      hO (gR σ3 1 a1 13) fun r8 =>
      hO (lI σ3 r8 0) fun i9 =>
      hO (sI σ3 r8 0 (i9 - (1 : Int32))) fun σ10 =>
      some (some (.int i7), σ10)
    else
    hO (gR σ3 3 a0 0) fun r11 =>
    hO (lI σ3 r11 ((((i4 + i5) - (i4 + i5) / (17 : Int32) * (17 : Int32)) * (7 : Int32)) + (1 : Int32))) fun i12 =>
    hO (gR σ3 3 a0 0) fun r13 =>
    hO (lI σ3 r13 ((((i4 + i5) - (i4 + i5) / (17 : Int32) * (17 : Int32)) * (7 : Int32)) + (2 : Int32))) fun i14 =>
    hO (gR σ3 1 a1 4) fun r15 =>
    hO (sI σ3 r15 i12 i14) fun σ16 =>
    hO (gR σ16 1 a1 9) fun r17 =>
    hO (gR σ16 3 a0 0) fun r18 =>
    hO (lI σ16 r18 ((((i4 + i5) - (i4 + i5) / (17 : Int32) * (17 : Int32)) * (7 : Int32)) + (3 : Int32))) fun i19 =>
    hO (sI σ16 r17 i12 i19) fun σ20 =>
    hO (gR σ20 1 a1 5) fun r21 =>
    hO (gR σ20 3 a0 0) fun r22 =>
    hO (lI σ20 r22 ((((i4 + i5) - (i4 + i5) / (17 : Int32) * (17 : Int32)) * (7 : Int32)) + (4 : Int32))) fun i23 =>
    hO (sI σ20 r21 i12 i23) fun σ24 =>
    hO (gR σ24 1 a1 1) fun r25 =>
    hO (gR σ24 1 a1 3) fun r26 =>
    hO (lI σ24 r26 i12) fun i27 =>
    hO (gR σ24 3 a0 0) fun r28 =>
    hO (lI σ24 r28 ((((i4 + i5) - (i4 + i5) / (17 : Int32) * (17 : Int32)) * (7 : Int32)) + (5 : Int32))) fun i29 =>
    hO (sI σ24 r25 i27 i29) fun σ30 =>
    hO (gR σ30 1 a1 1) fun r31 =>
    hO (gR σ30 3 a0 0) fun r32 =>
    hO (lI σ30 r32 ((((i4 + i5) - (i4 + i5) / (17 : Int32) * (17 : Int32)) * (7 : Int32)) + (6 : Int32))) fun i33 =>
    hO (sI σ30 r31 i14 i33) fun σ34 =>
    some (some (.int i7), σ34)
  else
  some (some (.int (-1)), σ) := (Ev_blk d mDeeds_takeBack 93 _ _ _ _).trans rfl
set_option maxRecDepth 100000 in
theorem q_Halves_init (d : Nat) (a0 : Nat) (σ : Mem) : EC (d + 1) mHalves_init [.ref a0] σ =
  hO (newA σ 0 10) fun q1 =>
  hO (pF q1.2 4 a0 0 (.ref q1.1)) fun σ2 =>
  hO (newA σ2 0 10) fun q3 =>
  hO (pF q3.2 4 a0 1 (.ref q3.1)) fun σ4 =>
  hO (newA σ4 0 10) fun q5 =>
  hO (pF q5.2 4 a0 2 (.ref q5.1)) fun σ6 =>
  hO (newA σ6 0 45) fun q7 =>
  hO (pF q7.2 4 a0 3 (.ref q7.1)) fun σ8 =>
  some (none, σ8) := (Ev_blk d mHalves_init 20 _ _ _ _).trans rfl
set_option maxRecDepth 100000 in
theorem q_Halves_seeFitting (d : Nat) (a0 : Nat) (a1 : Nat) (a2 : Nat) (σ : Mem) : EC (d + 1) mHalves_seeFitting [.ref a0, .ref a1, .ref a2] σ =
  Ev (d + 1) mHalves_seeFitting 2 [(0, .ref a0), (1, .ref a1), (2, .ref a2), (3, .int 0)] [] σ := (Ev_blk d mHalves_seeFitting 3 _ _ _ _).trans rfl
set_option maxRecDepth 100000 in
theorem q_Halves_seeFitting_2 (d : Nat) (x0 : Nat) (x1 : Nat) (x2 : Nat) (x3 : Int32) (σ : Mem) : Ev (d + 1) mHalves_seeFitting 2 [(0, .ref x0), (1, .ref x1), (2, .ref x2), (3, .int x3)] [] σ =
  hO (gI σ 1 x1 2) fun i1 =>
  if i1 ≤ x3 then
    some (none, σ)
  else
  bif isC σ 7 x2 then hI (EC d mRules_wearOf [.ref x2, .ref x1, .int x3] σ) fun i3 σ2 =>
  hO (gR σ2 4 x0 0) fun r4 =>
  hO (sI σ2 r4 x3 0) fun σ5 =>
  Ev (d + 1) mHalves_seeFitting 28 [(0, .ref x0), (1, .ref x1), (2, .ref x2), (3, .int x3), (4, .int i3), (5, .int 0)] [] σ5
  else none := (Ev_blk d mHalves_seeFitting 17 _ _ _ _).trans rfl
set_option maxRecDepth 100000 in
theorem q_Halves_seeFitting_28 (d : Nat) (x0 : Nat) (x1 : Nat) (x2 : Nat) (x3 : Int32) (x4 : Int32) (x5 : Int32) (σ : Mem) : Ev (d + 1) mHalves_seeFitting 28 [(0, .ref x0), (1, .ref x1), (2, .ref x2), (3, .int x3), (4, .int x4), (5, .int x5)] [] σ =
  hO (gI σ 1 x1 10) fun i1 =>
  if i1 ≤ x5 then
    Ev (d + 1) mHalves_seeFitting 2 [(0, .ref x0), (1, .ref x1), (2, .ref x2), (3, .int (x3 + 1))] [] σ
  else
  bif isC σ 1 x1 then hI (EC d mChest_fits [.ref x1, .int x3, .int x5, .int x4] σ) fun i3 σ2 =>
  if i3 = 0 then
    Ev (d + 1) mHalves_seeFitting 28 [(0, .ref x0), (1, .ref x1), (2, .ref x2), (3, .int x3), (4, .int x4), (5, .int (x5 + 1))] [] σ2
  else
  hO (gR σ2 4 x0 0) fun r4 =>
  hO (lI σ2 r4 x3) fun i5 =>
  hO (sI σ2 r4 x3 (i5 ||| ((1 : Int32) <<< (x5 &&& 31)))) fun σ6 =>
  Ev (d + 1) mHalves_seeFitting 28 [(0, .ref x0), (1, .ref x1), (2, .ref x2), (3, .int x3), (4, .int x4), (5, .int (x5 + 1))] [] σ6
  else none := (Ev_blk d mHalves_seeFitting 23 _ _ _ _).trans rfl
set_option maxRecDepth 100000 in
theorem q_Halves_oddFoils (d : Nat) (a0 : Nat) (a1 : Nat) (a2 : Nat) (σ : Mem) : EC (d + 1) mHalves_oddFoils [.ref a0, .ref a1, .ref a2] σ =
  bif isC σ 4 a0 then hV (EC d mHalves_seeFitting [.ref a0, .ref a1, .ref a2] σ) fun σ1 =>
  hO (gI σ1 1 a1 10) fun i2 =>
  Ev (d + 1) mHalves_oddFoils 18 [(0, .ref a0), (1, .ref a1), (3, .int (((1 : Int32) <<< (i2 &&& 31)) - (1 : Int32))), (4, .int 0)] [] σ1
  else none := (Ev_blk d mHalves_oddFoils 14 _ _ _ _).trans rfl
set_option maxRecDepth 100000 in
theorem q_Halves_oddFoils_18 (d : Nat) (x0 : Nat) (x1 : Nat) (x3 : Int32) (x4 : Int32) (σ : Mem) : Ev (d + 1) mHalves_oddFoils 18 [(0, .ref x0), (1, .ref x1), (3, .int x3), (4, .int x4)] [] σ =
  hO (gI σ 1 x1 2) fun i1 =>
  if i1 ≤ x4 then
    some (some (.int x3), σ)
  else
  hO (gR σ 4 x0 0) fun r2 =>
  hO (lI σ r2 x4) fun i3 =>
  Ev (d + 1) mHalves_oddFoils 18 [(0, .ref x0), (1, .ref x1), (3, .int (x3 &&& (i3 ^^^ (-1 : Int32)))), (4, .int (x4 + 1))] [] σ := (Ev_blk d mHalves_oddFoils 16 _ _ _ _).trans rfl
set_option maxRecDepth 100000 in
theorem q_Halves_matchMost (d : Nat) (a0 : Nat) (a1 : Nat) (a2 : Nat) (σ : Mem) : EC (d + 1) mHalves_matchMost [.ref a0, .ref a1, .ref a2] σ =
  bif isC σ 4 a0 then hV (EC d mHalves_seeFitting [.ref a0, .ref a1, .ref a2] σ) fun σ1 =>
  hO (gI σ1 1 a1 2) fun i2 =>
  bif isC σ1 4 a0 then hI (EC d mHalves_matchFrom [.ref a0, .int 0, .int i2, .int 0] σ1) fun i4 σ3 =>
  Ev (d + 1) mHalves_matchMost 26 [(0, .ref a0), (1, .ref a1), (3, .int i4), (4, .int i4), (5, .int 0), (6, .int 0)] [] σ3
  else none
  else none := (Ev_blk d mHalves_matchMost 18 _ _ _ _).trans rfl
set_option maxRecDepth 100000 in
theorem q_Halves_matchMost_26 (d : Nat) (x0 : Nat) (x1 : Nat) (x3 : Int32) (x4 : Int32) (x5 : Int32) (x6 : Int32) (σ : Mem) : Ev (d + 1) mHalves_matchMost 26 [(0, .ref x0), (1, .ref x1), (3, .int x3), (4, .int x4), (5, .int x5), (6, .int x6)] [] σ =
  hO (gI σ 1 x1 2) fun i1 =>
  if i1 ≤ x6 then
    some (some (.int x3), σ)
  else
  hO (gR σ 4 x0 1) fun r2 =>
  hO (sI σ r2 x6 100) fun σ3 =>
  Ev (d + 1) mHalves_matchMost 47 [(0, .ref x0), (1, .ref x1), (3, .int x3), (4, .int x4), (5, .int x5), (6, .int x6), (7, .int 0)] [] σ3 := (Ev_blk d mHalves_matchMost 12 _ _ _ _).trans rfl
set_option maxRecDepth 100000 in
theorem q_Halves_matchMost_47 (d : Nat) (x0 : Nat) (x1 : Nat) (x3 : Int32) (x4 : Int32) (x5 : Int32) (x6 : Int32) (x7 : Int32) (σ : Mem) : Ev (d + 1) mHalves_matchMost 47 [(0, .ref x0), (1, .ref x1), (3, .int x3), (4, .int x4), (5, .int x5), (6, .int x6), (7, .int x7)] [] σ =
  hO (gI σ 1 x1 10) fun i1 =>
  if i1 ≤ x7 then
    Ev (d + 1) mHalves_matchMost 26 [(0, .ref x0), (1, .ref x1), (3, .int x3), (4, .int x4), (5, .int x5), (6, .int (x6 + 1))] [] σ
  else
  hO (gR σ 4 x0 1) fun r2 =>
  hO (lI σ r2 x6) fun i3 =>
  if i3 = 100 then
    hO (gR σ 4 x0 0) fun r4 =>
    hO (lI σ r4 x6) fun i5 =>
    if (((i5 &&& (x5 ^^^ (-1 : Int32))) &&& ((1 : Int32) <<< (x7 &&& 31))) : Int32) = 0 then
      Ev (d + 1) mHalves_matchMost 47 [(0, .ref x0), (1, .ref x1), (3, .int x3), (4, .int x4), (5, .int x5), (6, .int x6), (7, .int (x7 + 1))] [] σ
    else
    hO (gI σ 1 x1 2) fun i6 =>
    bif isC σ 4 x0 then hI (EC d mHalves_matchFrom [.ref x0, .int (x6 + (1 : Int32)), .int i6, .int (x5 ||| ((1 : Int32) <<< (x7 &&& 31)))] σ) fun i8 σ7 =>
    if i8 = (x4 - (1 : Int32)) then
      hO (gR σ7 4 x0 1) fun r9 =>
      hO (sI σ7 r9 x6 x7) fun σ10 =>
      Ev (d + 1) mHalves_matchMost 47 [(0, .ref x0), (1, .ref x1), (3, .int x3), (4, .int (x4 + (-1))), (5, .int (x5 ||| ((1 : Int32) <<< (x7 &&& 31)))), (6, .int x6), (7, .int (x7 + 1))] [] σ10
    else
    Ev (d + 1) mHalves_matchMost 47 [(0, .ref x0), (1, .ref x1), (3, .int x3), (4, .int x4), (5, .int x5), (6, .int x6), (7, .int (x7 + 1))] [] σ7
    else none
  else
  Ev (d + 1) mHalves_matchMost 26 [(0, .ref x0), (1, .ref x1), (3, .int x3), (4, .int x4), (5, .int x5), (6, .int (x6 + 1))] [] σ := (Ev_blk d mHalves_matchMost 52 _ _ _ _).trans rfl
set_option maxRecDepth 100000 in
theorem q_Halves_matchFrom (d : Nat) (a0 : Nat) (a1 : Int32) (a2 : Int32) (a3 : Int32) (σ : Mem) : EC (d + 1) mHalves_matchFrom [.ref a0, .int a1, .int a2, .int a3] σ =
  Ev (d + 1) mHalves_matchFrom 3 [(0, .ref a0), (1, .int a1), (2, .int a2), (3, .int a3), (4, .int 0)] [] σ := (Ev_blk d mHalves_matchFrom 3 _ _ _ _).trans rfl
set_option maxRecDepth 100000 in
theorem q_Halves_matchFrom_3 (d : Nat) (x0 : Nat) (x1 : Int32) (x2 : Int32) (x3 : Int32) (x4 : Int32) (σ : Mem) : Ev (d + 1) mHalves_matchFrom 3 [(0, .ref x0), (1, .int x1), (2, .int x2), (3, .int x3), (4, .int x4)] [] σ =
  if 10 ≤ x4 then
    Ev (d + 1) mHalves_matchFrom 30 [(0, .ref x0), (2, .int x2), (3, .int x3), (4, .int 0), (5, .int x1)] [] σ
  else
  hO (gR σ 4 x0 2) fun r1 =>
  hO (sI σ r1 x4 (-1)) fun σ2 =>
  Ev (d + 1) mHalves_matchFrom 3 [(0, .ref x0), (1, .int x1), (2, .int x2), (3, .int x3), (4, .int (x4 + 1))] [] σ2 := (Ev_blk d mHalves_matchFrom 11 _ _ _ _).trans rfl
set_option maxRecDepth 100000 in
theorem q_Halves_matchFrom_30 (d : Nat) (x0 : Nat) (x2 : Int32) (x3 : Int32) (x4 : Int32) (x5 : Int32) (σ : Mem) : Ev (d + 1) mHalves_matchFrom 30 [(0, .ref x0), (2, .int x2), (3, .int x3), (4, .int x4), (5, .int x5)] [] σ =
  if x2 ≤ x5 then
    some (some (.int x4), σ)
  else
  hO (pF σ 4 x0 4 (.int x3)) fun σ1 =>
  bif isC σ1 4 x0 then hI (EC d mHalves_findFoil [.ref x0, .int x5, .int 0] σ1) fun i3 σ2 =>
  if i3 = 0 then
    Ev (d + 1) mHalves_matchFrom 30 [(0, .ref x0), (2, .int x2), (3, .int x3), (4, .int x4), (5, .int (x5 + 1))] [] σ2
  else
  Ev (d + 1) mHalves_matchFrom 30 [(0, .ref x0), (2, .int x2), (3, .int x3), (4, .int (x4 + 1)), (5, .int (x5 + 1))] [] σ2
  else none := (Ev_blk d mHalves_matchFrom 15 _ _ _ _).trans rfl
set_option maxRecDepth 100000 in
theorem q_Halves_findFoil (d : Nat) (a0 : Nat) (a1 : Int32) (a2 : Int32) (σ : Mem) : EC (d + 1) mHalves_findFoil [.ref a0, .int a1, .int a2] σ =
  if a1 < 0 then
    some (some (.int 0), σ)
  else
  if 10 ≤ a1 then
    some (some (.int 0), σ)
  else
  if a2 ≤ 10 then
    Ev (d + 1) mHalves_findFoil 20 [(0, .ref a0), (1, .int a1), (2, .int a2), (3, .int 0)] [] σ
  else
  some (some (.int 0), σ) := (Ev_blk d mHalves_findFoil 11 _ _ _ _).trans rfl
set_option maxRecDepth 100000 in
theorem q_Halves_findFoil_20 (d : Nat) (x0 : Nat) (x1 : Int32) (x2 : Int32) (x3 : Int32) (σ : Mem) : Ev (d + 1) mHalves_findFoil 20 [(0, .ref x0), (1, .int x1), (2, .int x2), (3, .int x3)] [] σ =
  if 10 ≤ x3 then
    some (some (.int 0), σ)
  else
  hO (gR σ 4 x0 0) fun r1 =>
  hO (lI σ r1 x1) fun i2 =>
  hO (gI σ 4 x0 4) fun i3 =>
  if (((i2 &&& (i3 ^^^ (-1 : Int32))) &&& ((1 : Int32) <<< (x3 &&& 31))) : Int32) = 0 then
    Ev (d + 1) mHalves_findFoil 20 [(0, .ref x0), (1, .int x1), (2, .int x2), (3, .int (x3 + 1))] [] σ
  else
  hO (gI σ 4 x0 4) fun i4 =>
  hO (pF σ 4 x0 4 (.int (i4 ||| ((1 : Int32) <<< (x3 &&& 31))))) fun σ5 =>
  hO (gR σ5 4 x0 2) fun r6 =>
  hO (lI σ5 r6 x3) fun i7 =>
  if i7 = (-1) then
    hO (gR σ5 4 x0 2) fun r8 =>
    hO (sI σ5 r8 x3 x1) fun σ9 =>
    some (some (.int 1), σ9)
  else
  hO (gR σ5 4 x0 2) fun r10 =>
  hO (lI σ5 r10 x3) fun i11 =>
  bif isC σ5 4 x0 then hI (EC d mHalves_findFoil [.ref x0, .int i11, .int (x2 + (1 : Int32))] σ5) fun i13 σ12 =>
  if i13 = 0 then
    Ev (d + 1) mHalves_findFoil 20 [(0, .ref x0), (1, .int x1), (2, .int x2), (3, .int (x3 + 1))] [] σ12
  else
  hO (gR σ12 4 x0 2) fun r14 =>
  hO (sI σ12 r14 x3 x1) fun σ15 =>
  some (some (.int 1), σ15)
  else none := (Ev_blk d mHalves_findFoil 49 _ _ _ _).trans rfl
set_option maxRecDepth 100000 in
theorem q_Halves_fewestFibres (d : Nat) (a0 : Nat) (a1 : Nat) (σ : Mem) : EC (d + 1) mHalves_fewestFibres [.ref a0, .ref a1] σ =
  Ev (d + 1) mHalves_fewestFibres 4 [(0, .ref a0), (1, .ref a1), (2, .int 0), (3, .int 1)] [] σ := (Ev_blk d mHalves_fewestFibres 5 _ _ _ _).trans rfl
set_option maxRecDepth 100000 in
theorem q_Halves_fewestFibres_4 (d : Nat) (x0 : Nat) (x1 : Nat) (x2 : Int32) (x3 : Int32) (σ : Mem) : Ev (d + 1) mHalves_fewestFibres 4 [(0, .ref x0), (1, .ref x1), (2, .int x2), (3, .int x3)] [] σ =
  hO (gI σ 1 x1 2) fun i1 =>
  if i1 ≤ x3 then
    Ev (d + 1) mHalves_fewestFibres 84 [(0, .ref x0), (2, .int x2), (3, .int 4095), (4, .int 12), (5, .int 0)] [] σ
  else
  Ev (d + 1) mHalves_fewestFibres 15 [(0, .ref x0), (1, .ref x1), (2, .int x2), (3, .int x3), (4, .int 0)] [] σ := (Ev_blk d mHalves_fewestFibres 11 _ _ _ _).trans rfl
set_option maxRecDepth 100000 in
theorem q_Halves_fewestFibres_15 (d : Nat) (x0 : Nat) (x1 : Nat) (x2 : Int32) (x3 : Int32) (x4 : Int32) (σ : Mem) : Ev (d + 1) mHalves_fewestFibres 15 [(0, .ref x0), (1, .ref x1), (2, .int x2), (3, .int x3), (4, .int x4)] [] σ =
  if x3 ≤ x4 then
    Ev (d + 1) mHalves_fewestFibres 4 [(0, .ref x0), (1, .ref x1), (2, .int x2), (3, .int (x3 + 1))] [] σ
  else
  if 45 ≤ x2 then
    Ev (d + 1) mHalves_fewestFibres 4 [(0, .ref x0), (1, .ref x1), (2, .int x2), (3, .int (x3 + 1))] [] σ
  else
  hO (gR σ 4 x0 3) fun r1 =>
  hO (gR σ 1 x1 6) fun r2 =>
  hO (lI σ r2 x3) fun i3 =>
  hO (gR σ 1 x1 6) fun r4 =>
  hO (lI σ r4 x4) fun i5 =>
  hO (sI σ r1 x2 (i3 ^^^ i5)) fun σ6 =>
  hO (gR σ6 4 x0 3) fun r7 =>
  hO (lI σ6 r7 x2) fun i8 =>
  if i8 = 0 then
    some (some (.int (-1)), σ6)
  else
  Ev (d + 1) mHalves_fewestFibres 15 [(0, .ref x0), (1, .ref x1), (2, .int (x2 + 1)), (3, .int x3), (4, .int (x4 + 1))] [] σ6 := (Ev_blk d mHalves_fewestFibres 28 _ _ _ _).trans rfl
set_option maxRecDepth 100000 in
theorem q_Halves_fewestFibres_84 (d : Nat) (x0 : Nat) (x2 : Int32) (x3 : Int32) (x4 : Int32) (x5 : Int32) (σ : Mem) : Ev (d + 1) mHalves_fewestFibres 84 [(0, .ref x0), (2, .int x2), (3, .int x3), (4, .int x4), (5, .int x5)] [] σ =
  if 4095 ≤ x5 then
    some (some (.int x3), σ)
  else
  hI (EC d mJ_bitCount [.int x5] σ) fun i2 σ1 =>
  if x4 ≤ i2 then
    Ev (d + 1) mHalves_fewestFibres 84 [(0, .ref x0), (2, .int x2), (3, .int x3), (4, .int x4), (5, .int (x5 + 1))] [] σ1
  else
  bif isC σ1 4 x0 then hI (EC d mHalves_tellApart [.ref x0, .int x5, .int x2] σ1) fun i4 σ3 =>
  if i4 = 0 then
    Ev (d + 1) mHalves_fewestFibres 84 [(0, .ref x0), (2, .int x2), (3, .int x3), (4, .int x4), (5, .int (x5 + 1))] [] σ3
  else
  hI (EC d mJ_bitCount [.int x5] σ3) fun i6 σ5 =>
  Ev (d + 1) mHalves_fewestFibres 84 [(0, .ref x0), (2, .int x2), (3, .int x5), (4, .int i6), (5, .int (x5 + 1))] [] σ5
  else none := (Ev_blk d mHalves_fewestFibres 20 _ _ _ _).trans rfl
set_option maxRecDepth 100000 in
theorem q_Halves_tellApart (d : Nat) (a0 : Nat) (a1 : Int32) (a2 : Int32) (σ : Mem) : EC (d + 1) mHalves_tellApart [.ref a0, .int a1, .int a2] σ =
  Ev (d + 1) mHalves_tellApart 2 [(0, .ref a0), (1, .int a1), (2, .int a2), (3, .int 0)] [] σ := (Ev_blk d mHalves_tellApart 3 _ _ _ _).trans rfl
set_option maxRecDepth 100000 in
theorem q_Halves_tellApart_2 (d : Nat) (x0 : Nat) (x1 : Int32) (x2 : Int32) (x3 : Int32) (σ : Mem) : Ev (d + 1) mHalves_tellApart 2 [(0, .ref x0), (1, .int x1), (2, .int x2), (3, .int x3)] [] σ =
  if x2 ≤ x3 then
    some (some (.int 1), σ)
  else
  hO (gR σ 4 x0 3) fun r1 =>
  hO (lI σ r1 x3) fun i2 =>
  if ((i2 &&& x1) : Int32) = 0 then
    some (some (.int 0), σ)
  else
  Ev (d + 1) mHalves_tellApart 2 [(0, .ref x0), (1, .int x1), (2, .int x2), (3, .int (x3 + 1))] [] σ := (Ev_blk d mHalves_tellApart 13 _ _ _ _).trans rfl
set_option maxRecDepth 100000 in
theorem q_Halves_toldCount (d : Nat) (a0 : Nat) (a1 : Int32) (a2 : Int32) (σ : Mem) : EC (d + 1) mHalves_toldCount [.ref a0, .int a1, .int a2] σ =
  Ev (d + 1) mHalves_toldCount 5 [(1, .int a1), (2, .int a2), (3, .int 0), (4, .int a1)] [] σ := (Ev_blk d mHalves_toldCount 5 _ _ _ _).trans rfl
set_option maxRecDepth 100000 in
theorem q_Halves_toldCount_5 (d : Nat) (x1 : Int32) (x2 : Int32) (x3 : Int32) (x4 : Int32) (σ : Mem) : Ev (d + 1) mHalves_toldCount 5 [(1, .int x1), (2, .int x2), (3, .int x3), (4, .int x4)] [] σ =
  if 999 < x4 then
    some (some (.int x3), σ)
  else
  hI (EC d mHalves_canHaveTold [.int x4, .int x1, .int x2] σ) fun i2 σ1 =>
  if i2 = 0 then
    Ev (d + 1) mHalves_toldCount 5 [(1, .int x1), (2, .int x2), (3, .int x3), (4, .int (x4 + 1))] [] σ1
  else
  Ev (d + 1) mHalves_toldCount 5 [(1, .int x1), (2, .int x2), (3, .int (x3 + 1)), (4, .int (x4 + 1))] [] σ1 := (Ev_blk d mHalves_toldCount 12 _ _ _ _).trans rfl
set_option maxRecDepth 100000 in
theorem q_Halves_toldMost (d : Nat) (a0 : Nat) (a1 : Int32) (a2 : Int32) (σ : Mem) : EC (d + 1) mHalves_toldMost [.ref a0, .int a1, .int a2] σ =
  Ev (d + 1) mHalves_toldMost 4 [(1, .int a1), (2, .int a2), (3, .int 999)] [] σ := (Ev_blk d mHalves_toldMost 3 _ _ _ _).trans rfl
set_option maxRecDepth 100000 in
theorem q_Halves_toldMost_4 (d : Nat) (x1 : Int32) (x2 : Int32) (x3 : Int32) (σ : Mem) : Ev (d + 1) mHalves_toldMost 4 [(1, .int x1), (2, .int x2), (3, .int x3)] [] σ =
  if x3 ≤ x1 then
    some (some (.int x1), σ)
  else
  hI (EC d mHalves_canHaveTold [.int x3, .int x1, .int x2] σ) fun i2 σ1 =>
  if i2 = 0 then
    Ev (d + 1) mHalves_toldMost 4 [(1, .int x1), (2, .int x2), (3, .int (x3 + (-1)))] [] σ1
  else
  some (some (.int x3), σ1) := (Ev_blk d mHalves_toldMost 11 _ _ _ _).trans rfl
set_option maxRecDepth 100000 in
theorem q_Halves_canHaveTold (d : Nat) (a0 : Int32) (a1 : Int32) (a2 : Int32) (σ : Mem) : EC (d + 1) mHalves_canHaveTold [.int a0, .int a1, .int a2] σ =
  if (100 : Int32) = 0 then none else
  if (100 : Int32) = 0 then none else
  if (10 : Int32) = 0 then none else
  if (10 : Int32) = 0 then none else
  if (10 : Int32) = 0 then none else
  if (10 : Int32) = 0 then none else
  if (10 : Int32) = 0 then none else
  if (10 : Int32) = 0 then none else
  if (((a0 / (100 : Int32)) - (a1 / (100 : Int32))) : Int32) < 0 then
    some (some (.int 0), σ)
  else
  if ((((a0 / (10 : Int32)) - (a0 / (10 : Int32)) / (10 : Int32) * (10 : Int32)) - ((a1 / (10 : Int32)) - (a1 / (10 : Int32)) / (10 : Int32) * (10 : Int32))) : Int32) < 0 then
    some (some (.int 0), σ)
  else
  if (((a0 - a0 / (10 : Int32) * (10 : Int32)) - (a1 - a1 / (10 : Int32) * (10 : Int32))) : Int32) < 0 then
    some (some (.int 0), σ)
  else
  if a2 < (((((a0 / (100 : Int32)) - (a1 / (100 : Int32))) + (((a0 / (10 : Int32)) - (a0 / (10 : Int32)) / (10 : Int32) * (10 : Int32)) - ((a1 / (10 : Int32)) - (a1 / (10 : Int32)) / (10 : Int32) * (10 : Int32)))) + ((a0 - a0 / (10 : Int32) * (10 : Int32)) - (a1 - a1 / (10 : Int32) * (10 : Int32)))) : Int32) then
    some (some (.int 0), σ)
  else
  some (some (.int 1), σ) := (Ev_blk d mHalves_canHaveTold 45 _ _ _ _).trans rfl
set_option maxRecDepth 100000 in
theorem q_Program_init (d : Nat) (a0 : Nat) (a1 : Int32) (a2 : Int32) (σ : Mem) : EC (d + 1) mProgram_init [.ref a0, .int a1, .int a2] σ =
  hO (newA σ 0 ((mxI 0 a1) * (6 : Int32))) fun q1 =>
  hO (pF q1.2 5 a0 2 (.ref q1.1)) fun σ2 =>
  hO (newA σ2 0 (mxI 0 a2)) fun q3 =>
  hO (pF q3.2 5 a0 3 (.ref q3.1)) fun σ4 =>
  some (none, σ4) := (Ev_blk d mProgram_init 18 _ _ _ _).trans rfl
set_option maxRecDepth 100000 in
theorem q_Program_trimmed (d : Nat) (a0 : Nat) (σ : Mem) : EC (d + 1) mProgram_trimmed [.ref a0] σ =
  hO (gI (addC σ 4 (.inr (5, dfl 5))) 5 a0 0) fun i1 =>
  hO (gI (addC σ 4 (.inr (5, dfl 5))) 5 a0 1) fun i2 =>
  bif isC (addC σ 4 (.inr (5, dfl 5))) 5 σ.1 then hV (EC d mProgram_init [.ref σ.1, .int i1, .int i2] (addC σ 4 (.inr (5, dfl 5)))) fun σ3 =>
  hO (gI σ3 5 a0 0) fun i4 =>
  hO (pF σ3 5 σ.1 0 (.int i4)) fun σ5 =>
  hO (gI σ5 5 a0 1) fun i6 =>
  hO (pF σ5 5 σ.1 1 (.int i6)) fun σ7 =>
  hO (gR σ7 5 a0 2) fun r8 =>
  hO (gR σ7 5 σ.1 2) fun r9 =>
  hO (gR σ7 5 σ.1 2) fun r10 =>
  hO (aln σ7 r10) fun i11 =>
  hO (cpI σ7 r8 0 r9 0 i11) fun σ12 =>
  hO (gR σ12 5 a0 3) fun r13 =>
  hO (gR σ12 5 σ.1 3) fun r14 =>
  hO (gR σ12 5 σ.1 3) fun r15 =>
  hO (aln σ12 r15) fun i16 =>
  hO (cpI σ12 r13 0 r14 0 i16) fun σ17 =>
  some (some (.ref σ.1), σ17)
  else none := (Ev_blk d mProgram_trimmed 39 _ _ _ _).trans rfl
set_option maxRecDepth 100000 in
theorem q_Program_headOf (d : Nat) (a0 : Nat) (a1 : Int32) (a2 : Int32) (σ : Mem) : EC (d + 1) mProgram_headOf [.ref a0, .int a1, .int a2] σ =
  if (((a1 * (6 : Int32)) + a2) : Int32) < 0 then
    some (some (.int 0), σ)
  else
  hO (gR σ 5 a0 2) fun r1 =>
  hO (aln σ r1) fun i2 =>
  if i2 ≤ (((a1 * (6 : Int32)) + a2) : Int32) then
    some (some (.int 0), σ)
  else
  hO (gR σ 5 a0 2) fun r3 =>
  hO (lI σ r3 ((a1 * (6 : Int32)) + a2)) fun i4 =>
  some (some (.int i4), σ) := (Ev_blk d mProgram_headOf 20 _ _ _ _).trans rfl
set_option maxRecDepth 100000 in
theorem q_Program_clear (d : Nat) (a0 : Nat) (σ : Mem) : EC (d + 1) mProgram_clear [.ref a0] σ =
  hO (pF σ 5 a0 0 (.int 0)) fun σ1 =>
  hO (pF σ1 5 a0 1 (.int 0)) fun σ2 =>
  some (none, σ2) := (Ev_blk d mProgram_clear 8 _ _ _ _).trans rfl
set_option maxRecDepth 100000 in
theorem q_Program_openClause (d : Nat) (a0 : Nat) (a1 : Int32) (σ : Mem) : EC (d + 1) mProgram_openClause [.ref a0, .int a1] σ =
  hO (gI σ 5 a0 0) fun i1 =>
  if i1 < 12 then
    hO (gI σ 5 a0 0) fun i2 =>
    hO (pF σ 5 a0 0 (.int (i2 + (1 : Int32)))) fun σ3 =>
    bif isC σ3 5 a0 then hV (EC d mProgram_setHead [.ref a0, .int 0, .int a1] σ3) fun σ4 =>
    bif isC σ4 5 a0 then hV (EC d mProgram_setHead [.ref a0, .int 1, .int 1] σ4) fun σ5 =>
    bif isC σ5 5 a0 then hV (EC d mProgram_markFrom [.ref a0, .int 2] σ5) fun σ6 =>
    some (none, σ6)
    else none
    else none
    else none
  else
  some (none, σ) := (Ev_blk d mProgram_openClause 23 _ _ _ _).trans rfl
set_option maxRecDepth 100000 in
theorem q_Program_markFrom (d : Nat) (a0 : Nat) (a1 : Int32) (σ : Mem) : EC (d + 1) mProgram_markFrom [.ref a0, .int a1] σ =
  Ev (d + 1) mProgram_markFrom 2 [(0, .ref a0), (2, .int a1)] [] σ := (Ev_blk d mProgram_markFrom 3 _ _ _ _).trans rfl
set_option maxRecDepth 100000 in
theorem q_Program_markFrom_2 (d : Nat) (x0 : Nat) (x2 : Int32) (σ : Mem) : Ev (d + 1) mProgram_markFrom 2 [(0, .ref x0), (2, .int x2)] [] σ =
  if 5 < x2 then
    some (none, σ)
  else
  hO (gI σ 5 x0 1) fun i1 =>
  bif isC σ 5 x0 then hV (EC d mProgram_setHead [.ref x0, .int x2, .int i1] σ) fun σ2 =>
  Ev (d + 1) mProgram_markFrom 2 [(0, .ref x0), (2, .int (x2 + 1))] [] σ2
  else none := (Ev_blk d mProgram_markFrom 11 _ _ _ _).trans rfl
set_option maxRecDepth 100000 in
theorem q_Program_setHead (d : Nat) (a0 : Nat) (a1 : Int32) (a2 : Int32) (σ : Mem) : EC (d + 1) mProgram_setHead [.ref a0, .int a1, .int a2] σ =
  hO (gI σ 5 a0 0) fun i1 =>
  if ((((i1 - (1 : Int32)) * (6 : Int32)) + a1) : Int32) < 0 then
    some (none, σ)
  else
  hO (gR σ 5 a0 2) fun r2 =>
  hO (aln σ r2) fun i3 =>
  if i3 ≤ ((((i1 - (1 : Int32)) * (6 : Int32)) + a1) : Int32) then
    some (none, σ)
  else
  hO (gR σ 5 a0 2) fun r4 =>
  hO (sI σ r4 (((i1 - (1 : Int32)) * (6 : Int32)) + a1) a2) fun σ5 =>
  some (none, σ5) := (Ev_blk d mProgram_setHead 23 _ _ _ _).trans rfl
set_option maxRecDepth 100000 in
theorem q_Program_addStep (d : Nat) (a0 : Nat) (a1 : Int32) (a2 : Int32) (σ : Mem) : EC (d + 1) mProgram_addStep [.ref a0, .int a1, .int a2] σ =
  hO (gI σ 5 a0 1) fun i1 =>
  hO (gR σ 5 a0 3) fun r2 =>
  hO (aln σ r2) fun i3 =>
  if i3 ≤ i1 then
    some (none, σ)
  else
  hO (gR σ 5 a0 3) fun r4 =>
  hO (gI σ 5 a0 1) fun i5 =>
  hO (sI σ r4 i5 ((a1 * (1024 : Int32)) + a2)) fun σ6 =>
  hO (gI σ6 5 a0 1) fun i7 =>
  hO (pF σ6 5 a0 1 (.int (i7 + (1 : Int32)))) fun σ8 =>
  some (none, σ8) := (Ev_blk d mProgram_addStep 24 _ _ _ _).trans rfl
set_option maxRecDepth 100000 in
theorem q_Program_aimStep (d : Nat) (a0 : Nat) (a1 : Int32) (σ : Mem) : EC (d + 1) mProgram_aimStep [.ref a0, .int a1] σ =
  if a1 < 0 then
    some (none, σ)
  else
  hO (gI σ 5 a0 1) fun i1 =>
  if i1 ≤ a1 then
    some (none, σ)
  else
  hO (gR σ 5 a0 3) fun r2 =>
  hO (lI σ r2 a1) fun i3 =>
  hO (gI σ 5 a0 1) fun i4 =>
  hO (sI σ r2 a1 (i3 + i4)) fun σ5 =>
  some (none, σ5) := (Ev_blk d mProgram_aimStep 17 _ _ _ _).trans rfl
set_option maxRecDepth 100000 in
theorem q_J_bitCount (d : Nat) (a0 : Int32) (σ : Mem) : EC (d + 1) mJ_bitCount [.int a0] σ =
  some (some (.int ((((((((a0 - ((Int32.toUInt32 a0 >>> (Int32.toUInt32 1 &&& Int32.toUInt32 31)).toInt32 &&& (1431655765 : Int32))) &&& (858993459 : Int32)) + ((Int32.toUInt32 (a0 - ((Int32.toUInt32 a0 >>> (Int32.toUInt32 1 &&& Int32.toUInt32 31)).toInt32 &&& (1431655765 : Int32))) >>> (Int32.toUInt32 2 &&& Int32.toUInt32 31)).toInt32 &&& (858993459 : Int32))) + (Int32.toUInt32 (((a0 - ((Int32.toUInt32 a0 >>> (Int32.toUInt32 1 &&& Int32.toUInt32 31)).toInt32 &&& (1431655765 : Int32))) &&& (858993459 : Int32)) + ((Int32.toUInt32 (a0 - ((Int32.toUInt32 a0 >>> (Int32.toUInt32 1 &&& Int32.toUInt32 31)).toInt32 &&& (1431655765 : Int32))) >>> (Int32.toUInt32 2 &&& Int32.toUInt32 31)).toInt32 &&& (858993459 : Int32))) >>> (Int32.toUInt32 4 &&& Int32.toUInt32 31)).toInt32) &&& (252645135 : Int32)) + (Int32.toUInt32 (((((a0 - ((Int32.toUInt32 a0 >>> (Int32.toUInt32 1 &&& Int32.toUInt32 31)).toInt32 &&& (1431655765 : Int32))) &&& (858993459 : Int32)) + ((Int32.toUInt32 (a0 - ((Int32.toUInt32 a0 >>> (Int32.toUInt32 1 &&& Int32.toUInt32 31)).toInt32 &&& (1431655765 : Int32))) >>> (Int32.toUInt32 2 &&& Int32.toUInt32 31)).toInt32 &&& (858993459 : Int32))) + (Int32.toUInt32 (((a0 - ((Int32.toUInt32 a0 >>> (Int32.toUInt32 1 &&& Int32.toUInt32 31)).toInt32 &&& (1431655765 : Int32))) &&& (858993459 : Int32)) + ((Int32.toUInt32 (a0 - ((Int32.toUInt32 a0 >>> (Int32.toUInt32 1 &&& Int32.toUInt32 31)).toInt32 &&& (1431655765 : Int32))) >>> (Int32.toUInt32 2 &&& Int32.toUInt32 31)).toInt32 &&& (858993459 : Int32))) >>> (Int32.toUInt32 4 &&& Int32.toUInt32 31)).toInt32) &&& (252645135 : Int32)) >>> (Int32.toUInt32 8 &&& Int32.toUInt32 31)).toInt32) + (Int32.toUInt32 ((((((a0 - ((Int32.toUInt32 a0 >>> (Int32.toUInt32 1 &&& Int32.toUInt32 31)).toInt32 &&& (1431655765 : Int32))) &&& (858993459 : Int32)) + ((Int32.toUInt32 (a0 - ((Int32.toUInt32 a0 >>> (Int32.toUInt32 1 &&& Int32.toUInt32 31)).toInt32 &&& (1431655765 : Int32))) >>> (Int32.toUInt32 2 &&& Int32.toUInt32 31)).toInt32 &&& (858993459 : Int32))) + (Int32.toUInt32 (((a0 - ((Int32.toUInt32 a0 >>> (Int32.toUInt32 1 &&& Int32.toUInt32 31)).toInt32 &&& (1431655765 : Int32))) &&& (858993459 : Int32)) + ((Int32.toUInt32 (a0 - ((Int32.toUInt32 a0 >>> (Int32.toUInt32 1 &&& Int32.toUInt32 31)).toInt32 &&& (1431655765 : Int32))) >>> (Int32.toUInt32 2 &&& Int32.toUInt32 31)).toInt32 &&& (858993459 : Int32))) >>> (Int32.toUInt32 4 &&& Int32.toUInt32 31)).toInt32) &&& (252645135 : Int32)) + (Int32.toUInt32 (((((a0 - ((Int32.toUInt32 a0 >>> (Int32.toUInt32 1 &&& Int32.toUInt32 31)).toInt32 &&& (1431655765 : Int32))) &&& (858993459 : Int32)) + ((Int32.toUInt32 (a0 - ((Int32.toUInt32 a0 >>> (Int32.toUInt32 1 &&& Int32.toUInt32 31)).toInt32 &&& (1431655765 : Int32))) >>> (Int32.toUInt32 2 &&& Int32.toUInt32 31)).toInt32 &&& (858993459 : Int32))) + (Int32.toUInt32 (((a0 - ((Int32.toUInt32 a0 >>> (Int32.toUInt32 1 &&& Int32.toUInt32 31)).toInt32 &&& (1431655765 : Int32))) &&& (858993459 : Int32)) + ((Int32.toUInt32 (a0 - ((Int32.toUInt32 a0 >>> (Int32.toUInt32 1 &&& Int32.toUInt32 31)).toInt32 &&& (1431655765 : Int32))) >>> (Int32.toUInt32 2 &&& Int32.toUInt32 31)).toInt32 &&& (858993459 : Int32))) >>> (Int32.toUInt32 4 &&& Int32.toUInt32 31)).toInt32) &&& (252645135 : Int32)) >>> (Int32.toUInt32 8 &&& Int32.toUInt32 31)).toInt32) >>> (Int32.toUInt32 16 &&& Int32.toUInt32 31)).toInt32) &&& (63 : Int32))), σ) := (Ev_blk d mJ_bitCount 43 _ _ _ _).trans rfl
set_option maxRecDepth 100000 in
theorem q_J_max (d : Nat) (a0 : Int32) (a1 : Int32) (σ : Mem) : EC (d + 1) mJ_max [.int a0, .int a1] σ =
  if a0 < a1 then
    some (some (.int a1), σ)
  else
  some (some (.int a0), σ) := (Ev_blk d mJ_max 7 _ _ _ _).trans rfl
set_option maxRecDepth 100000 in
theorem q_J_min (d : Nat) (a0 : Int32) (a1 : Int32) (σ : Mem) : EC (d + 1) mJ_min [.int a0, .int a1] σ =
  if a1 < a0 then
    some (some (.int a1), σ)
  else
  some (some (.int a0), σ) := (Ev_blk d mJ_min 7 _ _ _ _).trans rfl
