/-! ===== what each method does, a stretch at a time (printed by wip/whole/mkeqs.py) ===== -/
set_option maxRecDepth 100000 in
theorem q_Reader_init (d : Nat) (a0 : Nat) (σ : Mem) : EC (d + 1) mReader_init [.ref a0] σ =
  bif isC (addC σ 4 (.inr (5, dfl 5))) 5 σ.1 then hV (EC d mProgram_init [.ref σ.1, .int 12, .int 400] (addC σ 4 (.inr (5, dfl 5)))) fun σ1 =>
  hO (pF σ1 6 a0 0 (.ref σ.1)) fun σ2 =>
  hO (newA σ2 0 0) fun q3 =>
  hO (pF q3.2 6 a0 1 (.ref q3.1)) fun σ4 =>
  some (none, σ4)
  else none := (Ev_blk d mReader_init 15 _ _ _ _).trans rfl
set_option maxRecDepth 100000 in
theorem q_Reader_readText (d : Nat) (a0 : Nat) (a1 : Nat) (a2 : Int32) (a3 : Int32) (σ : Mem) : EC (d + 1) mReader_readText [.ref a0, .ref a1, .int a2, .int a3] σ =
  hO (pF σ 6 a0 1 (.ref a1)) fun σ1 =>
  hO (aln σ1 a1) fun i2 =>
  hO (pF σ1 6 a0 2 (.int (mnI a2 i2))) fun σ3 =>
  bif okZ a3 then hO (pF σ3 6 a0 3 (.int a3)) fun σ4 =>
  hO (pF σ4 6 a0 6 (.int 0)) fun σ5 =>
  hO (pF σ5 6 a0 8 (.int 0)) fun σ6 =>
  hO (pF σ6 6 a0 9 (.int (-1))) fun σ7 =>
  hO (gR σ7 6 a0 0) fun r8 =>
  bif isC σ7 5 r8 then hV (EC d mProgram_clear [.ref r8] σ7) fun σ9 =>
  bif isC σ9 6 a0 then hV (EC d mReader_advance [.ref a0] σ9) fun σ10 =>
  Ev (d + 1) mReader_readText 49 [(0, .ref a0), (4, .int 0)] [] σ10
  else none
  else none
  else none := (Ev_blk d mReader_readText 29 _ _ _ _).trans rfl
set_option maxRecDepth 100000 in
theorem q_Reader_readText_49 (d : Nat) (x0 : Nat) (x4 : Int32) (σ : Mem) : Ev (d + 1) mReader_readText 49 [(0, .ref x0), (4, .int x4)] [] σ =
  if 12 ≤ x4 then
    bif isC σ 6 x0 then hV (EC d mReader_fail [.ref x0] σ) fun σ1 =>
    hO (gI σ1 6 x0 9) fun i2 =>
    some (some (.int i2), σ1)
    else none
  else
  hO (gI σ 6 x0 3) fun i3 =>
  if i3 = 0 then
    bif isC σ 6 x0 then hV (EC d mReader_readOrderHead [.ref x0] σ) fun σ4 =>
    bif isC σ4 6 x0 then hV (EC d mReader_readCondition [.ref x0] σ4) fun σ5 =>
    hO (gI σ5 6 x0 9) fun i6 =>
    if i6 = (-1) then
      hO (gI σ5 6 x0 4) fun i7 =>
      if i7 = 0 then
        hO (gI σ5 6 x0 9) fun i8 =>
        some (some (.int i8), σ5)
      else
      bif isC σ5 6 x0 then hI (EC d mReader_takeSign [.ref x0, .int 59] σ5) fun i10 σ9 =>
      if i10 = 0 then
        bif isC σ9 6 x0 then hV (EC d mReader_fail [.ref x0] σ9) fun σ11 =>
        hO (gI σ11 6 x0 9) fun i12 =>
        some (some (.int i12), σ11)
        else none
      else
      Ev (d + 1) mReader_readText 49 [(0, .ref x0), (4, .int (x4 + 1))] [] σ9
      else none
    else
    hO (gI σ5 6 x0 9) fun i13 =>
    some (some (.int i13), σ5)
    else none
    else none
  else
  bif isC σ 6 x0 then hV (EC d mReader_readLawHead [.ref x0] σ) fun σ14 =>
  bif isC σ14 6 x0 then hV (EC d mReader_readCondition [.ref x0] σ14) fun σ15 =>
  hO (gI σ15 6 x0 9) fun i16 =>
  if i16 = (-1) then
    hO (gI σ15 6 x0 4) fun i17 =>
    if i17 = 0 then
      hO (gI σ15 6 x0 9) fun i18 =>
      some (some (.int i18), σ15)
    else
    bif isC σ15 6 x0 then hI (EC d mReader_takeSign [.ref x0, .int 59] σ15) fun i20 σ19 =>
    if i20 = 0 then
      bif isC σ19 6 x0 then hV (EC d mReader_fail [.ref x0] σ19) fun σ21 =>
      hO (gI σ21 6 x0 9) fun i22 =>
      some (some (.int i22), σ21)
      else none
    else
    Ev (d + 1) mReader_readText 49 [(0, .ref x0), (4, .int (x4 + 1))] [] σ19
    else none
  else
  hO (gI σ15 6 x0 9) fun i23 =>
  some (some (.int i23), σ15)
  else none
  else none := (Ev_blk d mReader_readText 28 _ _ _ _).trans rfl
set_option maxRecDepth 100000 in
theorem q_Reader_readLawHead (d : Nat) (a0 : Nat) (σ : Mem) : EC (d + 1) mReader_readLawHead [.ref a0] σ =
  bif isC σ 6 a0 then hI (EC d mReader_takeWord [.ref a0, .ref 1000000] σ) fun i2 σ1 =>
  if i2 = 0 then
    bif isC σ1 6 a0 then hI (EC d mReader_takeWord [.ref a0, .ref 1000013] σ1) fun i4 σ3 =>
    if i4 = 0 then
      bif isC σ3 6 a0 then hI (EC d mReader_takeWord [.ref a0, .ref 1000014] σ3) fun i6 σ5 =>
      if i6 = 0 then
        bif isC σ5 6 a0 then hV (EC d mReader_fail [.ref a0] σ5) fun σ7 =>
        some (none, σ7)
        else none
      else
      hO (gR σ5 6 a0 0) fun r8 =>
      bif isC σ5 5 r8 then hV (EC d mProgram_openClause [.ref r8, .int 6] σ5) fun σ9 =>
      some (none, σ9)
      else none
      else none
    else
    bif isC σ3 6 a0 then hV (EC d mReader_readOneSum [.ref a0, .int 5] σ3) fun σ10 =>
    some (none, σ10)
    else none
    else none
  else
  bif isC σ1 6 a0 then hV (EC d mReader_readOneSum [.ref a0, .int 4] σ1) fun σ11 =>
  some (none, σ11)
  else none
  else none := (Ev_blk d mReader_readLawHead 19 _ _ _ _).trans rfl
set_option maxRecDepth 100000 in
theorem q_Reader_readOrderHead (d : Nat) (a0 : Nat) (σ : Mem) : EC (d + 1) mReader_readOrderHead [.ref a0] σ =
  bif isC σ 6 a0 then hI (EC d mReader_takeWord [.ref a0, .ref 1000015] σ) fun i2 σ1 =>
  if i2 = 0 then
    bif isC σ1 6 a0 then hI (EC d mReader_takeWord [.ref a0, .ref 1000016] σ1) fun i4 σ3 =>
    if i4 = 0 then
      bif isC σ3 6 a0 then hI (EC d mReader_takeWord [.ref a0, .ref 1000017] σ3) fun i6 σ5 =>
      if i6 = 0 then
        bif isC σ5 6 a0 then hI (EC d mReader_takeWord [.ref a0, .ref 1000019] σ5) fun i8 σ7 =>
        if i8 = 0 then
          bif isC σ7 6 a0 then hV (EC d mReader_fail [.ref a0] σ7) fun σ9 =>
          Ev (d + 1) mReader_readOrderHead 79 [(0, .ref a0)] [] σ9
          else none
        else
        hO (gR σ7 6 a0 0) fun r10 =>
        bif isC σ7 5 r10 then hV (EC d mProgram_openClause [.ref r10, .int 3] σ7) fun σ11 =>
        Ev (d + 1) mReader_readOrderHead 79 [(0, .ref a0)] [] σ11
        else none
        else none
      else
      bif isC σ5 6 a0 then hV (EC d mReader_readTwoSums [.ref a0, .int 2, .ref 1000018] σ5) fun σ12 =>
      Ev (d + 1) mReader_readOrderHead 79 [(0, .ref a0)] [] σ12
      else none
      else none
    else
    bif isC σ3 6 a0 then hV (EC d mReader_readOneSum [.ref a0, .int 1] σ3) fun σ13 =>
    Ev (d + 1) mReader_readOrderHead 79 [(0, .ref a0)] [] σ13
    else none
    else none
  else
  bif isC σ1 6 a0 then hV (EC d mReader_readTwoSums [.ref a0, .int 0, .ref 1000007] σ1) fun σ14 =>
  Ev (d + 1) mReader_readOrderHead 79 [(0, .ref a0)] [] σ14
  else none
  else none := (Ev_blk d mReader_readOrderHead 22 _ _ _ _).trans rfl
set_option maxRecDepth 100000 in
theorem q_Reader_readOrderHead_79 (d : Nat) (x0 : Nat) (σ : Mem) : Ev (d + 1) mReader_readOrderHead 79 [(0, .ref x0)] [] σ =
  hO (gI σ 6 x0 9) fun i1 =>
  if i1 = (-1) then
    bif isC σ 6 x0 then hI (EC d mReader_takeWord [.ref x0, .ref 1000020] σ) fun i3 σ2 =>
    if i3 = 0 then
      some (none, σ2)
    else
    hO (gR σ2 6 x0 0) fun r4 =>
    bif isC σ2 6 x0 then hI (EC d mReader_readNumber [.ref x0, .int 1, .int 20] σ2) fun i6 σ5 =>
    bif isC σ5 5 r4 then hV (EC d mProgram_setHead [.ref r4, .int 1, .int i6] σ5) fun σ7 =>
    some (none, σ7)
    else none
    else none
    else none
  else
  some (none, σ) := (Ev_blk d mReader_readOrderHead 18 _ _ _ _).trans rfl
set_option maxRecDepth 100000 in
theorem q_Reader_readOneSum (d : Nat) (a0 : Nat) (a1 : Int32) (σ : Mem) : EC (d + 1) mReader_readOneSum [.ref a0, .int a1] σ =
  hO (gR σ 6 a0 0) fun r1 =>
  bif isC σ 5 r1 then hV (EC d mProgram_openClause [.ref r1, .int a1] σ) fun σ2 =>
  bif isC σ2 6 a0 then hV (EC d mReader_readSum [.ref a0, .int 0] σ2) fun σ3 =>
  hO (gR σ3 6 a0 0) fun r4 =>
  bif isC σ3 5 r4 then hV (EC d mProgram_markFrom [.ref r4, .int 3] σ3) fun σ5 =>
  some (none, σ5)
  else none
  else none
  else none := (Ev_blk d mReader_readOneSum 13 _ _ _ _).trans rfl
set_option maxRecDepth 100000 in
theorem q_Reader_readTwoSums (d : Nat) (a0 : Nat) (a1 : Int32) (a2 : Nat) (σ : Mem) : EC (d + 1) mReader_readTwoSums [.ref a0, .int a1, .ref a2] σ =
  hO (gR σ 6 a0 0) fun r1 =>
  bif isC σ 5 r1 then hV (EC d mProgram_openClause [.ref r1, .int a1] σ) fun σ2 =>
  bif isC σ2 6 a0 then hV (EC d mReader_readSum [.ref a0, .int 0] σ2) fun σ3 =>
  hO (gR σ3 6 a0 0) fun r4 =>
  bif isC σ3 5 r4 then hV (EC d mProgram_markFrom [.ref r4, .int 3] σ3) fun σ5 =>
  hO (gI σ5 6 a0 9) fun i6 =>
  if i6 = (-1) then
    bif isC σ5 6 a0 then hI (EC d mReader_takeWord [.ref a0, .ref a2] σ5) fun i8 σ7 =>
    if i8 = 0 then
      bif isC σ7 6 a0 then hV (EC d mReader_fail [.ref a0] σ7) fun σ9 =>
      bif isC σ9 6 a0 then hV (EC d mReader_readSum [.ref a0, .int 0] σ9) fun σ10 =>
      hO (gR σ10 6 a0 0) fun r11 =>
      bif isC σ10 5 r11 then hV (EC d mProgram_markFrom [.ref r11, .int 4] σ10) fun σ12 =>
      some (none, σ12)
      else none
      else none
      else none
    else
    bif isC σ7 6 a0 then hV (EC d mReader_readSum [.ref a0, .int 0] σ7) fun σ13 =>
    hO (gR σ13 6 a0 0) fun r14 =>
    bif isC σ13 5 r14 then hV (EC d mProgram_markFrom [.ref r14, .int 4] σ13) fun σ15 =>
    some (none, σ15)
    else none
    else none
    else none
  else
  bif isC σ5 6 a0 then hV (EC d mReader_readSum [.ref a0, .int 0] σ5) fun σ16 =>
  hO (gR σ16 6 a0 0) fun r17 =>
  bif isC σ16 5 r17 then hV (EC d mProgram_markFrom [.ref r17, .int 4] σ16) fun σ18 =>
  some (none, σ18)
  else none
  else none
  else none
  else none
  else none := (Ev_blk d mReader_readTwoSums 30 _ _ _ _).trans rfl
set_option maxRecDepth 100000 in
theorem q_Reader_readCondition (d : Nat) (a0 : Nat) (σ : Mem) : EC (d + 1) mReader_readCondition [.ref a0] σ =
  hO (gI σ 6 a0 9) fun i1 =>
  if i1 = (-1) then
    bif isC σ 6 a0 then hI (EC d mReader_takeWord [.ref a0, .ref 1000021] σ) fun i3 σ2 =>
    if i3 = 0 then
      some (none, σ2)
    else
    bif isC σ2 6 a0 then hV (EC d mReader_readTest [.ref a0, .int 0] σ2) fun σ4 =>
    hO (gR σ4 6 a0 0) fun r5 =>
    bif isC σ4 5 r5 then hV (EC d mProgram_markFrom [.ref r5, .int 5] σ4) fun σ6 =>
    some (none, σ6)
    else none
    else none
    else none
  else
  some (none, σ) := (Ev_blk d mReader_readCondition 17 _ _ _ _).trans rfl
set_option maxRecDepth 100000 in
theorem q_Reader_readTest (d : Nat) (a0 : Nat) (a1 : Int32) (σ : Mem) : EC (d + 1) mReader_readTest [.ref a0, .int a1] σ =
  bif isC σ 6 a0 then hV (EC d mReader_readBoth [.ref a0, .int a1] σ) fun σ1 =>
  Ev (d + 1) mReader_readTest 7 [(0, .ref a0), (1, .int a1), (2, .int 0)] [] σ1
  else none := (Ev_blk d mReader_readTest 6 _ _ _ _).trans rfl
set_option maxRecDepth 100000 in
theorem q_Reader_readTest_7 (d : Nat) (x0 : Nat) (x1 : Int32) (x2 : Int32) (σ : Mem) : Ev (d + 1) mReader_readTest 7 [(0, .ref x0), (1, .int x1), (2, .int x2)] [] σ =
  hO (gI σ 6 x0 2) fun i1 =>
  if i1 ≤ x2 then
    some (none, σ)
  else
  hO (gI σ 6 x0 9) fun i2 =>
  if i2 = (-1) then
    bif isC σ 6 x0 then hI (EC d mReader_takeWord [.ref x0, .ref 1000024] σ) fun i4 σ3 =>
    if i4 = 0 then
      some (none, σ3)
    else
    hO (gR σ3 6 x0 0) fun r5 =>
    hO (gI σ3 5 r5 1) fun i6 =>
    hO (gR σ3 6 x0 0) fun r7 =>
    bif isC σ3 5 r7 then hV (EC d mProgram_addStep [.ref r7, .int 10, .int 0] σ3) fun σ8 =>
    bif isC σ8 6 x0 then hV (EC d mReader_readBoth [.ref x0, .int x1] σ8) fun σ9 =>
    hO (gR σ9 6 x0 0) fun r10 =>
    bif isC σ9 5 r10 then hV (EC d mProgram_aimStep [.ref r10, .int i6] σ9) fun σ11 =>
    Ev (d + 1) mReader_readTest 7 [(0, .ref x0), (1, .int x1), (2, .int (x2 + 1))] [] σ11
    else none
    else none
    else none
    else none
  else
  some (none, σ) := (Ev_blk d mReader_readTest 31 _ _ _ _).trans rfl
set_option maxRecDepth 100000 in
theorem q_Reader_readBoth (d : Nat) (a0 : Nat) (a1 : Int32) (σ : Mem) : EC (d + 1) mReader_readBoth [.ref a0, .int a1] σ =
  bif isC σ 6 a0 then hV (EC d mReader_readPlain [.ref a0, .int a1] σ) fun σ1 =>
  Ev (d + 1) mReader_readBoth 7 [(0, .ref a0), (1, .int a1), (2, .int 0)] [] σ1
  else none := (Ev_blk d mReader_readBoth 6 _ _ _ _).trans rfl
set_option maxRecDepth 100000 in
theorem q_Reader_readBoth_7 (d : Nat) (x0 : Nat) (x1 : Int32) (x2 : Int32) (σ : Mem) : Ev (d + 1) mReader_readBoth 7 [(0, .ref x0), (1, .int x1), (2, .int x2)] [] σ =
  hO (gI σ 6 x0 2) fun i1 =>
  if i1 ≤ x2 then
    some (none, σ)
  else
  hO (gI σ 6 x0 9) fun i2 =>
  if i2 = (-1) then
    bif isC σ 6 x0 then hI (EC d mReader_takeWord [.ref x0, .ref 1000023] σ) fun i4 σ3 =>
    if i4 = 0 then
      some (none, σ3)
    else
    hO (gR σ3 6 x0 0) fun r5 =>
    hO (gI σ3 5 r5 1) fun i6 =>
    hO (gR σ3 6 x0 0) fun r7 =>
    bif isC σ3 5 r7 then hV (EC d mProgram_addStep [.ref r7, .int 11, .int 0] σ3) fun σ8 =>
    bif isC σ8 6 x0 then hV (EC d mReader_readPlain [.ref x0, .int x1] σ8) fun σ9 =>
    hO (gR σ9 6 x0 0) fun r10 =>
    bif isC σ9 5 r10 then hV (EC d mProgram_aimStep [.ref r10, .int i6] σ9) fun σ11 =>
    Ev (d + 1) mReader_readBoth 7 [(0, .ref x0), (1, .int x1), (2, .int (x2 + 1))] [] σ11
    else none
    else none
    else none
    else none
  else
  some (none, σ) := (Ev_blk d mReader_readBoth 31 _ _ _ _).trans rfl
set_option maxRecDepth 100000 in
theorem q_Reader_readPlain (d : Nat) (a0 : Nat) (a1 : Int32) (σ : Mem) : EC (d + 1) mReader_readPlain [.ref a0, .int a1] σ =
  Ev (d + 1) mReader_readPlain 4 [(0, .ref a0), (1, .int a1), (2, .int 0), (3, .int 0)] [] σ := (Ev_blk d mReader_readPlain 5 _ _ _ _).trans rfl
set_option maxRecDepth 100000 in
theorem q_Reader_readPlain_4 (d : Nat) (x0 : Nat) (x1 : Int32) (x2 : Int32) (x3 : Int32) (σ : Mem) : Ev (d + 1) mReader_readPlain 4 [(0, .ref x0), (1, .int x1), (2, .int x2), (3, .int x3)] [] σ =
  hO (gI σ 6 x0 2) fun i1 =>
  if i1 ≤ x3 then
    Ev (d + 1) mReader_readPlain 45 [(0, .ref x0), (1, .int x1), (2, .int x2)] [] σ
  else
  hO (gI σ 6 x0 9) fun i2 =>
  if i2 = (-1) then
    bif isC σ 6 x0 then hI (EC d mReader_takeWord [.ref x0, .ref 1000022] σ) fun i4 σ3 =>
    if i4 = 0 then
      Ev (d + 1) mReader_readPlain 45 [(0, .ref x0), (1, .int x1), (2, .int x2)] [] σ3
    else
    if x2 = 0 then
      Ev (d + 1) mReader_readPlain 4 [(0, .ref x0), (1, .int x1), (2, .int 1), (3, .int (x3 + 1))] [] σ3
    else
    Ev (d + 1) mReader_readPlain 4 [(0, .ref x0), (1, .int x1), (2, .int 0), (3, .int (x3 + 1))] [] σ3
    else none
  else
  Ev (d + 1) mReader_readPlain 45 [(0, .ref x0), (1, .int x1), (2, .int x2)] [] σ := (Ev_blk d mReader_readPlain 20 _ _ _ _).trans rfl
set_option maxRecDepth 100000 in
theorem q_Reader_readPlain_45 (d : Nat) (x0 : Nat) (x1 : Int32) (x2 : Int32) (σ : Mem) : Ev (d + 1) mReader_readPlain 45 [(0, .ref x0), (1, .int x1), (2, .int x2)] [] σ =
  bif isC σ 6 x0 then hI (EC d mReader_opensBracket [.ref x0, .int 40, .int x1] σ) fun i2 σ1 =>
  if i2 = 0 then
    bif isC σ1 6 x0 then hV (EC d mReader_readSum [.ref x0, .int x1] σ1) fun σ3 =>
    bif isC σ3 6 x0 then hI (EC d mReader_takeComparison [.ref x0] σ3) fun i5 σ4 =>
    bif isC σ4 6 x0 then hV (EC d mReader_readSum [.ref x0, .int x1] σ4) fun σ6 =>
    hO (gR σ6 6 x0 0) fun r7 =>
    bif isC σ6 5 r7 then hV (EC d mProgram_addStep [.ref r7, .int i5, .int 0] σ6) fun σ8 =>
    if x2 = 0 then
      some (none, σ8)
    else
    hO (gR σ8 6 x0 0) fun r9 =>
    bif isC σ8 5 r9 then hV (EC d mProgram_addStep [.ref r9, .int 9, .int 0] σ8) fun σ10 =>
    some (none, σ10)
    else none
    else none
    else none
    else none
    else none
  else
  bif isC σ1 6 x0 then hV (EC d mReader_readTest [.ref x0, .int (x1 + (1 : Int32))] σ1) fun σ11 =>
  bif isC σ11 6 x0 then hV (EC d mReader_closeBracket [.ref x0, .int 41] σ11) fun σ12 =>
  if x2 = 0 then
    some (none, σ12)
  else
  hO (gR σ12 6 x0 0) fun r13 =>
  bif isC σ12 5 r13 then hV (EC d mProgram_addStep [.ref r13, .int 9, .int 0] σ12) fun σ14 =>
  some (none, σ14)
  else none
  else none
  else none
  else none := (Ev_blk d mReader_readPlain 28 _ _ _ _).trans rfl
set_option maxRecDepth 100000 in
theorem q_Reader_readSum (d : Nat) (a0 : Nat) (a1 : Int32) (σ : Mem) : EC (d + 1) mReader_readSum [.ref a0, .int a1] σ =
  bif isC σ 6 a0 then hV (EC d mReader_readTerm [.ref a0, .int a1] σ) fun σ1 =>
  Ev (d + 1) mReader_readSum 7 [(0, .ref a0), (1, .int a1), (2, .int 0)] [] σ1
  else none := (Ev_blk d mReader_readSum 6 _ _ _ _).trans rfl
set_option maxRecDepth 100000 in
theorem q_Reader_readSum_7 (d : Nat) (x0 : Nat) (x1 : Int32) (x2 : Int32) (σ : Mem) : Ev (d + 1) mReader_readSum 7 [(0, .ref x0), (1, .int x1), (2, .int x2)] [] σ =
  hO (gI σ 6 x0 2) fun i1 =>
  if i1 ≤ x2 then
    some (none, σ)
  else
  hO (gI σ 6 x0 9) fun i2 =>
  if i2 = (-1) then
    bif isC σ 6 x0 then hI (EC d mReader_isSign [.ref x0, .int 43] σ) fun i4 σ3 =>
    if i4 = 0 then
      bif isC σ3 6 x0 then hI (EC d mReader_takeSign [.ref x0, .int 43] σ3) fun i6 σ5 =>
      if i6 = 0 then
        bif isC σ5 6 x0 then hI (EC d mReader_takeSign [.ref x0, .int 45] σ5) fun i8 σ7 =>
        if i8 = 0 then
          some (none, σ7)
        else
        bif isC σ7 6 x0 then hV (EC d mReader_readTerm [.ref x0, .int x1] σ7) fun σ9 =>
        hO (gR σ9 6 x0 0) fun r10 =>
        bif isC σ9 5 r10 then hV (EC d mProgram_addStep [.ref r10, .int 2, .int 0] σ9) fun σ11 =>
        Ev (d + 1) mReader_readSum 7 [(0, .ref x0), (1, .int x1), (2, .int (x2 + 1))] [] σ11
        else none
        else none
        else none
      else
      bif isC σ5 6 x0 then hV (EC d mReader_readTerm [.ref x0, .int x1] σ5) fun σ12 =>
      hO (gR σ12 6 x0 0) fun r13 =>
      bif isC σ12 5 r13 then hV (EC d mProgram_addStep [.ref r13, .int 2, .int 0] σ12) fun σ14 =>
      Ev (d + 1) mReader_readSum 7 [(0, .ref x0), (1, .int x1), (2, .int (x2 + 1))] [] σ14
      else none
      else none
      else none
    else
    bif isC σ3 6 x0 then hI (EC d mReader_takeSign [.ref x0, .int 43] σ3) fun i16 σ15 =>
    if i16 = 0 then
      bif isC σ15 6 x0 then hI (EC d mReader_takeSign [.ref x0, .int 45] σ15) fun i18 σ17 =>
      if i18 = 0 then
        some (none, σ17)
      else
      bif isC σ17 6 x0 then hV (EC d mReader_readTerm [.ref x0, .int x1] σ17) fun σ19 =>
      hO (gR σ19 6 x0 0) fun r20 =>
      bif isC σ19 5 r20 then hV (EC d mProgram_addStep [.ref r20, .int 1, .int 0] σ19) fun σ21 =>
      Ev (d + 1) mReader_readSum 7 [(0, .ref x0), (1, .int x1), (2, .int (x2 + 1))] [] σ21
      else none
      else none
      else none
    else
    bif isC σ15 6 x0 then hV (EC d mReader_readTerm [.ref x0, .int x1] σ15) fun σ22 =>
    hO (gR σ22 6 x0 0) fun r23 =>
    bif isC σ22 5 r23 then hV (EC d mProgram_addStep [.ref r23, .int 1, .int 0] σ22) fun σ24 =>
    Ev (d + 1) mReader_readSum 7 [(0, .ref x0), (1, .int x1), (2, .int (x2 + 1))] [] σ24
    else none
    else none
    else none
    else none
  else
  some (none, σ) := (Ev_blk d mReader_readSum 34 _ _ _ _).trans rfl
set_option maxRecDepth 100000 in
theorem q_Reader_readTerm (d : Nat) (a0 : Nat) (a1 : Int32) (σ : Mem) : EC (d + 1) mReader_readTerm [.ref a0, .int a1] σ =
  bif isC σ 6 a0 then hV (EC d mReader_readPart [.ref a0, .int a1] σ) fun σ1 =>
  Ev (d + 1) mReader_readTerm 7 [(0, .ref a0), (1, .int a1), (2, .int 0)] [] σ1
  else none := (Ev_blk d mReader_readTerm 6 _ _ _ _).trans rfl
set_option maxRecDepth 100000 in
theorem q_Reader_readTerm_7 (d : Nat) (x0 : Nat) (x1 : Int32) (x2 : Int32) (σ : Mem) : Ev (d + 1) mReader_readTerm 7 [(0, .ref x0), (1, .int x1), (2, .int x2)] [] σ =
  hO (gI σ 6 x0 2) fun i1 =>
  if i1 ≤ x2 then
    some (none, σ)
  else
  hO (gI σ 6 x0 9) fun i2 =>
  if i2 = (-1) then
    bif isC σ 6 x0 then hI (EC d mReader_isSign [.ref x0, .int 42] σ) fun i4 σ3 =>
    if i4 = 0 then
      bif isC σ3 6 x0 then hI (EC d mReader_isSign [.ref x0, .int 47] σ3) fun i6 σ5 =>
      if i6 = 0 then
        Ev (d + 1) mReader_readTerm 50 [(0, .ref x0), (1, .int x1), (2, .int x2)] [.int 5] σ5
      else
      Ev (d + 1) mReader_readTerm 50 [(0, .ref x0), (1, .int x1), (2, .int x2)] [.int 4] σ5
      else none
    else
    Ev (d + 1) mReader_readTerm 50 [(0, .ref x0), (1, .int x1), (2, .int x2)] [.int 3] σ3
    else none
  else
  some (none, σ) := (Ev_blk d mReader_readTerm 19 _ _ _ _).trans rfl
set_option maxRecDepth 100000 in
theorem q_Reader_readTerm_50 (d : Nat) (x0 : Nat) (x1 : Int32) (x2 : Int32) (y0 : Int32) (σ : Mem) : Ev (d + 1) mReader_readTerm 50 [(0, .ref x0), (1, .int x1), (2, .int x2)] [.int y0] σ =
  bif isC σ 6 x0 then hI (EC d mReader_takeSign [.ref x0, .int 42] σ) fun i2 σ1 =>
  if i2 = 0 then
    bif isC σ1 6 x0 then hI (EC d mReader_takeSign [.ref x0, .int 47] σ1) fun i4 σ3 =>
    if i4 = 0 then
      bif isC σ3 6 x0 then hI (EC d mReader_takeSign [.ref x0, .int 37] σ3) fun i6 σ5 =>
      if i6 = 0 then
        some (none, σ5)
      else
      bif isC σ5 6 x0 then hV (EC d mReader_readPart [.ref x0, .int x1] σ5) fun σ7 =>
      hO (gR σ7 6 x0 0) fun r8 =>
      bif isC σ7 5 r8 then hV (EC d mProgram_addStep [.ref r8, .int y0, .int 0] σ7) fun σ9 =>
      Ev (d + 1) mReader_readTerm 7 [(0, .ref x0), (1, .int x1), (2, .int (x2 + 1))] [] σ9
      else none
      else none
      else none
    else
    bif isC σ3 6 x0 then hV (EC d mReader_readPart [.ref x0, .int x1] σ3) fun σ10 =>
    hO (gR σ10 6 x0 0) fun r11 =>
    bif isC σ10 5 r11 then hV (EC d mProgram_addStep [.ref r11, .int y0, .int 0] σ10) fun σ12 =>
    Ev (d + 1) mReader_readTerm 7 [(0, .ref x0), (1, .int x1), (2, .int (x2 + 1))] [] σ12
    else none
    else none
    else none
  else
  bif isC σ1 6 x0 then hV (EC d mReader_readPart [.ref x0, .int x1] σ1) fun σ13 =>
  hO (gR σ13 6 x0 0) fun r14 =>
  bif isC σ13 5 r14 then hV (EC d mProgram_addStep [.ref r14, .int y0, .int 0] σ13) fun σ15 =>
  Ev (d + 1) mReader_readTerm 7 [(0, .ref x0), (1, .int x1), (2, .int (x2 + 1))] [] σ15
  else none
  else none
  else none := (Ev_blk d mReader_readTerm 24 _ _ _ _).trans rfl
set_option maxRecDepth 100000 in
theorem q_Reader_readPart (d : Nat) (a0 : Nat) (a1 : Int32) (σ : Mem) : EC (d + 1) mReader_readPart [.ref a0, .int a1] σ =
  bif isC σ 6 a0 then hI (EC d mReader_opensBracket [.ref a0, .int 91, .int a1] σ) fun i2 σ1 =>
  if i2 = 0 then
    hO (gI σ1 6 a0 9) fun i3 =>
    if i3 = (-1) then
      hO (gI σ1 6 a0 8) fun i4 =>
      if i4 < 50 then
        hO (gI σ1 6 a0 4) fun i5 =>
        if i5 = 2 then
          hO (gI σ1 6 a0 8) fun i6 =>
          hO (pF σ1 6 a0 8 (.int (i6 + (1 : Int32)))) fun σ7 =>
          hO (gR σ7 6 a0 0) fun r8 =>
          bif isC σ7 6 a0 then hI (EC d mReader_readNumber [.ref a0, .int 0, .int 1000] σ7) fun i10 σ9 =>
          bif isC σ9 5 r8 then hV (EC d mProgram_addStep [.ref r8, .int 0, .int i10] σ9) fun σ11 =>
          some (none, σ11)
          else none
          else none
        else
        hO (gI σ1 6 a0 8) fun i12 =>
        hO (pF σ1 6 a0 8 (.int (i12 + (1 : Int32)))) fun σ13 =>
        hO (gI σ13 6 a0 3) fun i14 =>
        if i14 = 0 then
          bif isC σ13 6 a0 then hI (EC d mReader_orderWord [.ref a0] σ13) fun i16 σ15 =>
          bif isC σ15 6 a0 then hV (EC d mReader_readWord [.ref a0, .int i16] σ15) fun σ17 =>
          some (none, σ17)
          else none
          else none
        else
        bif isC σ13 6 a0 then hI (EC d mReader_lawWord [.ref a0] σ13) fun i19 σ18 =>
        bif isC σ18 6 a0 then hV (EC d mReader_readWord [.ref a0, .int i19] σ18) fun σ20 =>
        some (none, σ20)
        else none
        else none
      else
      bif isC σ1 6 a0 then hV (EC d mReader_fail [.ref a0] σ1) fun σ21 =>
      some (none, σ21)
      else none
    else
    bif isC σ1 6 a0 then hV (EC d mReader_fail [.ref a0] σ1) fun σ22 =>
    some (none, σ22)
    else none
  else
  bif isC σ1 6 a0 then hV (EC d mReader_readSum [.ref a0, .int (a1 + (1 : Int32))] σ1) fun σ23 =>
  bif isC σ23 6 a0 then hV (EC d mReader_closeBracket [.ref a0, .int 93] σ23) fun σ24 =>
  some (none, σ24)
  else none
  else none
  else none := (Ev_blk d mReader_readPart 34 _ _ _ _).trans rfl
set_option maxRecDepth 100000 in
theorem q_Reader_readWord (d : Nat) (a0 : Nat) (a1 : Int32) (σ : Mem) : EC (d + 1) mReader_readWord [.ref a0, .int a1] σ =
  if a1 = (-1) then
    bif isC σ 6 a0 then hV (EC d mReader_fail [.ref a0] σ) fun σ1 =>
    some (none, σ1)
    else none
  else
  bif isC σ 6 a0 then hV (EC d mReader_advance [.ref a0] σ) fun σ2 =>
  if a1 = 23 then
    bif isC σ2 6 a0 then hI (EC d mReader_readNumber [.ref a0, .int 0, .int 5] σ2) fun i4 σ3 =>
    hO (gR σ3 6 a0 0) fun r5 =>
    bif isC σ3 5 r5 then hV (EC d mProgram_addStep [.ref r5, .int a1, .int i4] σ3) fun σ6 =>
    some (none, σ6)
    else none
    else none
  else
  if a1 = 24 then
    bif isC σ2 6 a0 then hI (EC d mReader_readNumber [.ref a0, .int 0, .int 9] σ2) fun i8 σ7 =>
    hO (gR σ7 6 a0 0) fun r9 =>
    bif isC σ7 5 r9 then hV (EC d mProgram_addStep [.ref r9, .int a1, .int i8] σ7) fun σ10 =>
    some (none, σ10)
    else none
    else none
  else
  if a1 = 25 then
    bif isC σ2 6 a0 then hI (EC d mReader_readNumber [.ref a0, .int 0, .int 9] σ2) fun i12 σ11 =>
    hO (gR σ11 6 a0 0) fun r13 =>
    bif isC σ11 5 r13 then hV (EC d mProgram_addStep [.ref r13, .int a1, .int i12] σ11) fun σ14 =>
    some (none, σ14)
    else none
    else none
  else
  hO (gR σ2 6 a0 0) fun r15 =>
  bif isC σ2 5 r15 then hV (EC d mProgram_addStep [.ref r15, .int a1, .int 0] σ2) fun σ16 =>
  some (none, σ16)
  else none
  else none := (Ev_blk d mReader_readWord 28 _ _ _ _).trans rfl
set_option maxRecDepth 100000 in
theorem q_Reader_lawWord (d : Nat) (a0 : Nat) (σ : Mem) : EC (d + 1) mReader_lawWord [.ref a0] σ =
  bif isC σ 6 a0 then hI (EC d mReader_isWord [.ref a0, .ref 1000001] σ) fun i2 σ1 =>
  if i2 = 0 then
    bif isC σ1 6 a0 then hI (EC d mReader_isWord [.ref a0, .ref 1000002] σ1) fun i4 σ3 =>
    if i4 = 0 then
      bif isC σ3 6 a0 then hI (EC d mReader_isWord [.ref a0, .ref 1000003] σ3) fun i6 σ5 =>
      if i6 = 0 then
        bif isC σ5 6 a0 then hI (EC d mReader_isWord [.ref a0, .ref 1000004] σ5) fun i8 σ7 =>
        if i8 = 0 then
          bif isC σ7 6 a0 then hI (EC d mReader_isWord [.ref a0, .ref 1000005] σ7) fun i10 σ9 =>
          if i10 = 0 then
            bif isC σ9 6 a0 then hI (EC d mReader_isWord [.ref a0, .ref 1000006] σ9) fun i12 σ11 =>
            if i12 = 0 then
              bif isC σ11 6 a0 then hI (EC d mReader_isWord [.ref a0, .ref 1000007] σ11) fun i14 σ13 =>
              if i14 = 0 then
                bif isC σ13 6 a0 then hI (EC d mReader_isWord [.ref a0, .ref 1000008] σ13) fun i16 σ15 =>
                if i16 = 0 then
                  bif isC σ15 6 a0 then hI (EC d mReader_isWord [.ref a0, .ref 1000009] σ15) fun i18 σ17 =>
                  if i18 = 0 then
                    some (some (.int (-1)), σ17)
                  else
                  some (some (.int 20), σ17)
                  else none
                else
                some (some (.int 19), σ15)
                else none
              else
              some (some (.int 18), σ13)
              else none
            else
            some (some (.int 17), σ11)
            else none
          else
          some (some (.int 16), σ9)
          else none
        else
        some (some (.int 15), σ7)
        else none
      else
      some (some (.int 14), σ5)
      else none
    else
    some (some (.int 13), σ3)
    else none
  else
  some (some (.int 12), σ1)
  else none := (Ev_blk d mReader_lawWord 40 _ _ _ _).trans rfl
set_option maxRecDepth 100000 in
theorem q_Reader_orderWord (d : Nat) (a0 : Nat) (σ : Mem) : EC (d + 1) mReader_orderWord [.ref a0] σ =
  bif isC σ 6 a0 then hI (EC d mReader_isWord [.ref a0, .ref 1000008] σ) fun i2 σ1 =>
  if i2 = 0 then
    bif isC σ1 6 a0 then hI (EC d mReader_isWord [.ref a0, .ref 1000010] σ1) fun i4 σ3 =>
    if i4 = 0 then
      bif isC σ3 6 a0 then hI (EC d mReader_isWord [.ref a0, .ref 1000011] σ3) fun i6 σ5 =>
      if i6 = 0 then
        bif isC σ5 6 a0 then hI (EC d mReader_isWord [.ref a0, .ref 1000006] σ5) fun i8 σ7 =>
        if i8 = 0 then
          bif isC σ7 6 a0 then hI (EC d mReader_isWord [.ref a0, .ref 1000012] σ7) fun i10 σ9 =>
          if i10 = 0 then
            bif isC σ9 6 a0 then hI (EC d mReader_isWord [.ref a0, .ref 1000003] σ9) fun i12 σ11 =>
            if i12 = 0 then
              some (some (.int (-1)), σ11)
            else
            some (some (.int 25), σ11)
            else none
          else
          some (some (.int 24), σ9)
          else none
        else
        some (some (.int 23), σ7)
        else none
      else
      some (some (.int 22), σ5)
      else none
    else
    some (some (.int 21), σ3)
    else none
  else
  some (some (.int 19), σ1)
  else none := (Ev_blk d mReader_orderWord 28 _ _ _ _).trans rfl
set_option maxRecDepth 100000 in
theorem q_Reader_takeComparison (d : Nat) (a0 : Nat) (σ : Mem) : EC (d + 1) mReader_takeComparison [.ref a0] σ =
  bif isC σ 6 a0 then hI (EC d mReader_isSign [.ref a0, .int 60] σ) fun i2 σ1 =>
  if i2 = 0 then
    bif isC σ1 6 a0 then hI (EC d mReader_isSign [.ref a0, .int 62] σ1) fun i4 σ3 =>
    if i4 = 0 then
      Ev (d + 1) mReader_takeComparison 30 [(0, .ref a0)] [.int 8] σ3
    else
    Ev (d + 1) mReader_takeComparison 30 [(0, .ref a0)] [.int 7] σ3
    else none
  else
  Ev (d + 1) mReader_takeComparison 30 [(0, .ref a0)] [.int 6] σ1
  else none := (Ev_blk d mReader_takeComparison 11 _ _ _ _).trans rfl
set_option maxRecDepth 100000 in
theorem q_Reader_takeComparison_30 (d : Nat) (x0 : Nat) (y0 : Int32) (σ : Mem) : Ev (d + 1) mReader_takeComparison 30 [(0, .ref x0)] [.int y0] σ =
  bif isC σ 6 x0 then hI (EC d mReader_takeSign [.ref x0, .int 60] σ) fun i2 σ1 =>
  if i2 = 0 then
    bif isC σ1 6 x0 then hI (EC d mReader_takeSign [.ref x0, .int 62] σ1) fun i4 σ3 =>
    if i4 = 0 then
      bif isC σ3 6 x0 then hI (EC d mReader_takeSign [.ref x0, .int 61] σ3) fun i6 σ5 =>
      if i6 = 0 then
        bif isC σ5 6 x0 then hV (EC d mReader_fail [.ref x0] σ5) fun σ7 =>
        some (some (.int y0), σ7)
        else none
      else
      some (some (.int y0), σ5)
      else none
    else
    some (some (.int y0), σ3)
    else none
  else
  some (some (.int y0), σ1)
  else none := (Ev_blk d mReader_takeComparison 18 _ _ _ _).trans rfl
set_option maxRecDepth 100000 in
theorem q_Reader_readNumber (d : Nat) (a0 : Nat) (a1 : Int32) (a2 : Int32) (σ : Mem) : EC (d + 1) mReader_readNumber [.ref a0, .int a1, .int a2] σ =
  hO (gI σ 6 a0 4) fun i1 =>
  if i1 = 2 then
    hO (gI σ 6 a0 7) fun i2 =>
    if i2 < a1 then
      bif isC σ 6 a0 then hV (EC d mReader_fail [.ref a0] σ) fun σ3 =>
      some (some (.int a1), σ3)
      else none
    else
    hO (gI σ 6 a0 7) fun i4 =>
    if i4 ≤ a2 then
      hO (gI σ 6 a0 7) fun i5 =>
      bif isC σ 6 a0 then hV (EC d mReader_advance [.ref a0] σ) fun σ6 =>
      some (some (.int i5), σ6)
      else none
    else
    bif isC σ 6 a0 then hV (EC d mReader_fail [.ref a0] σ) fun σ7 =>
    some (some (.int a1), σ7)
    else none
  else
  bif isC σ 6 a0 then hV (EC d mReader_fail [.ref a0] σ) fun σ8 =>
  some (some (.int a1), σ8)
  else none := (Ev_blk d mReader_readNumber 20 _ _ _ _).trans rfl
set_option maxRecDepth 100000 in
theorem q_Reader_opensBracket (d : Nat) (a0 : Nat) (a1 : Int32) (a2 : Int32) (σ : Mem) : EC (d + 1) mReader_opensBracket [.ref a0, .int a1, .int a2] σ =
  hO (gI σ 6 a0 9) fun i1 =>
  if i1 = (-1) then
    bif isC σ 6 a0 then hI (EC d mReader_isSign [.ref a0, .int a1] σ) fun i3 σ2 =>
    if i3 = 0 then
      some (some (.int 0), σ2)
    else
    if a2 < 8 then
      bif isC σ2 6 a0 then hV (EC d mReader_advance [.ref a0] σ2) fun σ4 =>
      some (some (.int 1), σ4)
      else none
    else
    bif isC σ2 6 a0 then hV (EC d mReader_fail [.ref a0] σ2) fun σ5 =>
    some (some (.int 0), σ5)
    else none
    else none
  else
  some (some (.int 0), σ) := (Ev_blk d mReader_opensBracket 16 _ _ _ _).trans rfl
set_option maxRecDepth 100000 in
theorem q_Reader_closeBracket (d : Nat) (a0 : Nat) (a1 : Int32) (σ : Mem) : EC (d + 1) mReader_closeBracket [.ref a0, .int a1] σ =
  bif isC σ 6 a0 then hI (EC d mReader_isSign [.ref a0, .int a1] σ) fun i2 σ1 =>
  if i2 = 0 then
    bif isC σ1 6 a0 then hV (EC d mReader_fail [.ref a0] σ1) fun σ3 =>
    bif isC σ3 6 a0 then hV (EC d mReader_advance [.ref a0] σ3) fun σ4 =>
    some (none, σ4)
    else none
    else none
  else
  bif isC σ1 6 a0 then hV (EC d mReader_advance [.ref a0] σ1) fun σ5 =>
  some (none, σ5)
  else none
  else none := (Ev_blk d mReader_closeBracket 10 _ _ _ _).trans rfl
set_option maxRecDepth 100000 in
theorem q_Reader_fail (d : Nat) (a0 : Nat) (σ : Mem) : EC (d + 1) mReader_fail [.ref a0] σ =
  hO (gI σ 6 a0 9) fun i1 =>
  if i1 = (-1) then
    hO (gI σ 6 a0 5) fun i2 =>
    hO (pF σ 6 a0 9 (.int i2)) fun σ3 =>
    some (none, σ3)
  else
  some (none, σ) := (Ev_blk d mReader_fail 10 _ _ _ _).trans rfl
set_option maxRecDepth 100000 in
theorem q_Reader_isSign (d : Nat) (a0 : Nat) (a1 : Int32) (σ : Mem) : EC (d + 1) mReader_isSign [.ref a0, .int a1] σ =
  hO (gI σ 6 a0 4) fun i1 =>
  if i1 = 3 then
    hO (gI σ 6 a0 7) fun i2 =>
    if i2 = a1 then
      some (some (.int 1), σ)
    else
    some (some (.int 0), σ)
  else
  some (some (.int 0), σ) := (Ev_blk d mReader_isSign 12 _ _ _ _).trans rfl
set_option maxRecDepth 100000 in
theorem q_Reader_takeSign (d : Nat) (a0 : Nat) (a1 : Int32) (σ : Mem) : EC (d + 1) mReader_takeSign [.ref a0, .int a1] σ =
  bif isC σ 6 a0 then hI (EC d mReader_isSign [.ref a0, .int a1] σ) fun i2 σ1 =>
  if i2 = 0 then
    some (some (.int 0), σ1)
  else
  bif isC σ1 6 a0 then hV (EC d mReader_advance [.ref a0] σ1) fun σ3 =>
  some (some (.int 1), σ3)
  else none
  else none := (Ev_blk d mReader_takeSign 9 _ _ _ _).trans rfl
set_option maxRecDepth 100000 in
theorem q_Reader_isWord (d : Nat) (a0 : Nat) (a1 : Nat) (σ : Mem) : EC (d + 1) mReader_isWord [.ref a0, .ref a1] σ =
  hO (gI σ 6 a0 4) fun i1 =>
  if i1 = 1 then
    hO (gI σ 6 a0 6) fun i2 =>
    hO (gI σ 6 a0 5) fun i3 =>
    hO (tLen σ a1) fun i4 =>
    if ((i2 - i3) : Int32) = i4 then
      Ev (d + 1) mReader_isWord 28 [(0, .ref a0), (1, .ref a1), (2, .int 0)] [] σ
    else
    some (some (.int 0), σ)
  else
  some (some (.int 0), σ) := (Ev_blk d mReader_isWord 15 _ _ _ _).trans rfl
set_option maxRecDepth 100000 in
theorem q_Reader_isWord_28 (d : Nat) (x0 : Nat) (x1 : Nat) (x2 : Int32) (σ : Mem) : Ev (d + 1) mReader_isWord 28 [(0, .ref x0), (1, .ref x1), (2, .int x2)] [] σ =
  hO (tLen σ x1) fun i1 =>
  if i1 ≤ x2 then
    some (some (.int 1), σ)
  else
  hO (gR σ 6 x0 1) fun r2 =>
  hO (gI σ 6 x0 5) fun i3 =>
  hO (lI σ r2 (i3 + x2)) fun i4 =>
  hO (tCh σ x1 x2) fun i5 =>
  if i4 = i5 then
    Ev (d + 1) mReader_isWord 28 [(0, .ref x0), (1, .ref x1), (2, .int (x2 + 1))] [] σ
  else
  some (some (.int 0), σ) := (Ev_blk d mReader_isWord 18 _ _ _ _).trans rfl
set_option maxRecDepth 100000 in
theorem q_Reader_takeWord (d : Nat) (a0 : Nat) (a1 : Nat) (σ : Mem) : EC (d + 1) mReader_takeWord [.ref a0, .ref a1] σ =
  bif isC σ 6 a0 then hI (EC d mReader_isWord [.ref a0, .ref a1] σ) fun i2 σ1 =>
  if i2 = 0 then
    some (some (.int 0), σ1)
  else
  bif isC σ1 6 a0 then hV (EC d mReader_advance [.ref a0] σ1) fun σ3 =>
  some (some (.int 1), σ3)
  else none
  else none := (Ev_blk d mReader_takeWord 9 _ _ _ _).trans rfl
set_option maxRecDepth 100000 in
theorem q_Reader_advance (d : Nat) (a0 : Nat) (σ : Mem) : EC (d + 1) mReader_advance [.ref a0] σ =
  hO (gI σ 6 a0 6) fun i1 =>
  hO (gI σ 6 a0 2) fun i2 =>
  if i2 ≤ i1 then
    hO (gI σ 6 a0 6) fun i3 =>
    hO (pF σ 6 a0 5 (.int i3)) fun σ4 =>
    hO (gI σ4 6 a0 5) fun i5 =>
    hO (gI σ4 6 a0 2) fun i6 =>
    if i6 ≤ i5 then
      Ev (d + 1) mReader_advance 70 [(0, .ref a0)] [.int 0] σ4
    else
    hO (gR σ4 6 a0 1) fun r7 =>
    hO (gI σ4 6 a0 5) fun i8 =>
    hO (lI σ4 r7 i8) fun i9 =>
    Ev (d + 1) mReader_advance 70 [(0, .ref a0)] [.int i9] σ4
  else
  hO (gR σ 6 a0 1) fun r10 =>
  hO (gI σ 6 a0 6) fun i11 =>
  hO (lI σ r10 i11) fun i12 =>
  if i12 = 32 then
    hO (gI σ 6 a0 6) fun i13 =>
    hO (pF σ 6 a0 6 (.int (i13 + (1 : Int32)))) fun σ14 =>
    Ev (d + 1) mReader_advance 0 [(0, .ref a0)] [] σ14
  else
  hO (gI σ 6 a0 6) fun i15 =>
  hO (pF σ 6 a0 5 (.int i15)) fun σ16 =>
  hO (gI σ16 6 a0 5) fun i17 =>
  hO (gI σ16 6 a0 2) fun i18 =>
  if i18 ≤ i17 then
    Ev (d + 1) mReader_advance 70 [(0, .ref a0)] [.int 0] σ16
  else
  hO (gR σ16 6 a0 1) fun r19 =>
  hO (gI σ16 6 a0 5) fun i20 =>
  hO (lI σ16 r19 i20) fun i21 =>
  Ev (d + 1) mReader_advance 70 [(0, .ref a0)] [.int i21] σ16 := (Ev_blk d mReader_advance 28 _ _ _ _).trans rfl
set_option maxRecDepth 100000 in
theorem q_Reader_advance_0 (d : Nat) (x0 : Nat) (σ : Mem) : Ev (d + 1) mReader_advance 0 [(0, .ref x0)] [] σ =
  hO (gI σ 6 x0 6) fun i1 =>
  hO (gI σ 6 x0 2) fun i2 =>
  if i2 ≤ i1 then
    hO (gI σ 6 x0 6) fun i3 =>
    hO (pF σ 6 x0 5 (.int i3)) fun σ4 =>
    hO (gI σ4 6 x0 5) fun i5 =>
    hO (gI σ4 6 x0 2) fun i6 =>
    if i6 ≤ i5 then
      Ev (d + 1) mReader_advance 70 [(0, .ref x0)] [.int 0] σ4
    else
    hO (gR σ4 6 x0 1) fun r7 =>
    hO (gI σ4 6 x0 5) fun i8 =>
    hO (lI σ4 r7 i8) fun i9 =>
    Ev (d + 1) mReader_advance 70 [(0, .ref x0)] [.int i9] σ4
  else
  hO (gR σ 6 x0 1) fun r10 =>
  hO (gI σ 6 x0 6) fun i11 =>
  hO (lI σ r10 i11) fun i12 =>
  if i12 = 32 then
    hO (gI σ 6 x0 6) fun i13 =>
    hO (pF σ 6 x0 6 (.int (i13 + (1 : Int32)))) fun σ14 =>
    Ev (d + 1) mReader_advance 0 [(0, .ref x0)] [] σ14
  else
  hO (gI σ 6 x0 6) fun i15 =>
  hO (pF σ 6 x0 5 (.int i15)) fun σ16 =>
  hO (gI σ16 6 x0 5) fun i17 =>
  hO (gI σ16 6 x0 2) fun i18 =>
  if i18 ≤ i17 then
    Ev (d + 1) mReader_advance 70 [(0, .ref x0)] [.int 0] σ16
  else
  hO (gR σ16 6 x0 1) fun r19 =>
  hO (gI σ16 6 x0 5) fun i20 =>
  hO (lI σ16 r19 i20) fun i21 =>
  Ev (d + 1) mReader_advance 70 [(0, .ref x0)] [.int i21] σ16 := (Ev_blk d mReader_advance 28 _ _ _ _).trans rfl
set_option maxRecDepth 100000 in
theorem q_Reader_advance_70 (d : Nat) (x0 : Nat) (y0 : Int32) (σ : Mem) : Ev (d + 1) mReader_advance 70 [(0, .ref x0)] [.int y0] σ =
  hO (gI σ 6 x0 5) fun i1 =>
  hO (gI σ 6 x0 2) fun i2 =>
  if i1 < i2 then
    if y0 < 97 then
      if y0 < 48 then
        hO (pF σ 6 x0 4 (.int 3)) fun σ3 =>
        hO (pF σ3 6 x0 7 (.int y0)) fun σ4 =>
        hO (gI σ4 6 x0 6) fun i5 =>
        hO (pF σ4 6 x0 6 (.int (i5 + (1 : Int32)))) fun σ6 =>
        some (none, σ6)
      else
      if 57 < y0 then
        hO (pF σ 6 x0 4 (.int 3)) fun σ7 =>
        hO (pF σ7 6 x0 7 (.int y0)) fun σ8 =>
        hO (gI σ8 6 x0 6) fun i9 =>
        hO (pF σ8 6 x0 6 (.int (i9 + (1 : Int32)))) fun σ10 =>
        some (none, σ10)
      else
      hO (pF σ 6 x0 4 (.int 2)) fun σ11 =>
      hO (pF σ11 6 x0 7 (.int 0)) fun σ12 =>
      Ev (d + 1) mReader_advance 181 [(0, .ref x0)] [] σ12
    else
    if 122 < y0 then
      if y0 < 48 then
        hO (pF σ 6 x0 4 (.int 3)) fun σ13 =>
        hO (pF σ13 6 x0 7 (.int y0)) fun σ14 =>
        hO (gI σ14 6 x0 6) fun i15 =>
        hO (pF σ14 6 x0 6 (.int (i15 + (1 : Int32)))) fun σ16 =>
        some (none, σ16)
      else
      if 57 < y0 then
        hO (pF σ 6 x0 4 (.int 3)) fun σ17 =>
        hO (pF σ17 6 x0 7 (.int y0)) fun σ18 =>
        hO (gI σ18 6 x0 6) fun i19 =>
        hO (pF σ18 6 x0 6 (.int (i19 + (1 : Int32)))) fun σ20 =>
        some (none, σ20)
      else
      hO (pF σ 6 x0 4 (.int 2)) fun σ21 =>
      hO (pF σ21 6 x0 7 (.int 0)) fun σ22 =>
      Ev (d + 1) mReader_advance 181 [(0, .ref x0)] [] σ22
    else
    hO (pF σ 6 x0 4 (.int 1)) fun σ23 =>
    Ev (d + 1) mReader_advance 107 [(0, .ref x0)] [] σ23
  else
  hO (pF σ 6 x0 4 (.int 0)) fun σ24 =>
  some (none, σ24) := (Ev_blk d mReader_advance 32 _ _ _ _).trans rfl
set_option maxRecDepth 100000 in
theorem q_Reader_advance_107 (d : Nat) (x0 : Nat) (σ : Mem) : Ev (d + 1) mReader_advance 107 [(0, .ref x0)] [] σ =
  hO (gI σ 6 x0 6) fun i1 =>
  hO (gI σ 6 x0 2) fun i2 =>
  if i2 ≤ i1 then
    some (none, σ)
  else
  hO (gR σ 6 x0 1) fun r3 =>
  hO (gI σ 6 x0 6) fun i4 =>
  hO (lI σ r3 i4) fun i5 =>
  if i5 < 97 then
    some (none, σ)
  else
  hO (gR σ 6 x0 1) fun r6 =>
  hO (gI σ 6 x0 6) fun i7 =>
  hO (lI σ r6 i7) fun i8 =>
  if 122 < i8 then
    some (none, σ)
  else
  hO (gI σ 6 x0 6) fun i9 =>
  hO (pF σ 6 x0 6 (.int (i9 + (1 : Int32)))) fun σ10 =>
  Ev (d + 1) mReader_advance 107 [(0, .ref x0)] [] σ10 := (Ev_blk d mReader_advance 27 _ _ _ _).trans rfl
set_option maxRecDepth 100000 in
theorem q_Reader_advance_181 (d : Nat) (x0 : Nat) (σ : Mem) : Ev (d + 1) mReader_advance 181 [(0, .ref x0)] [] σ =
  hO (gI σ 6 x0 6) fun i1 =>
  hO (gI σ 6 x0 2) fun i2 =>
  if i2 ≤ i1 then
    some (none, σ)
  else
  hO (gR σ 6 x0 1) fun r3 =>
  hO (gI σ 6 x0 6) fun i4 =>
  hO (lI σ r3 i4) fun i5 =>
  if i5 < 48 then
    some (none, σ)
  else
  hO (gR σ 6 x0 1) fun r6 =>
  hO (gI σ 6 x0 6) fun i7 =>
  hO (lI σ r6 i7) fun i8 =>
  if 57 < i8 then
    some (none, σ)
  else
  hO (gI σ 6 x0 7) fun i9 =>
  hO (gR σ 6 x0 1) fun r10 =>
  hO (gI σ 6 x0 6) fun i11 =>
  hO (lI σ r10 i11) fun i12 =>
  hO (pF σ 6 x0 7 (.int (mnI 1001 (((i9 * (10 : Int32)) + i12) - (48 : Int32))))) fun σ13 =>
  hO (gI σ13 6 x0 6) fun i14 =>
  hO (pF σ13 6 x0 6 (.int (i14 + (1 : Int32)))) fun σ15 =>
  Ev (d + 1) mReader_advance 181 [(0, .ref x0)] [] σ15 := (Ev_blk d mReader_advance 43 _ _ _ _).trans rfl
