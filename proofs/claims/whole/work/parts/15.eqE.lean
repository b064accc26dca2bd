/-! ===== what each method does, a stretch at a time (printed by wip/whole/mkeqs.py) ===== -/
set_option maxRecDepth 100000 in
theorem q_M_fault (d : Nat) (a0 : Nat) (σ : Mem) : EC (d + 1) mM_fault [.ref a0] σ =
  hO (gI σ 9 a0 14) fun i1 =>
  some (some (.int i1), σ) := (Ev_blk d mM_fault 4 _ _ _ _).trans rfl
set_option maxRecDepth 100000 in
theorem q_M_force (d : Nat) (a0 : Nat) (a1 : Int32) (σ : Mem) : EC (d + 1) mM_force [.ref a0, .int a1] σ =
  hO (gR σ 9 a0 2) fun r1 =>
  hO (lI σ r1 102) fun i2 =>
  hI (EC d mM_lies [.int a1, .int (-1), .int (i2 - (1 : Int32))] σ) fun i4 σ3 =>
  if i4 = 0 then
    bif isC σ3 9 a0 then hI (EC d mM_refuses [.ref a0, .int (-2)] σ3) fun i6 σ5 =>
    some (some (.int i6), σ5)
    else none
  else
  hO (gR σ3 9 a0 2) fun r7 =>
  hO (lI σ3 r7 103) fun i8 =>
  hO (gR σ3 9 a0 2) fun r9 =>
  hO (sI σ3 r9 103 a1) fun σ10 =>
  bif isC σ10 9 a0 then hI (EC d mM_good [.ref a0, .int i8] σ10) fun i12 σ11 =>
  some (some (.int i12), σ11)
  else none := (Ev_blk d mM_force 25 _ _ _ _).trans rfl
set_option maxRecDepth 100000 in
theorem q_M_codeAt (d : Nat) (a0 : Nat) (a1 : Int32) (σ : Mem) : EC (d + 1) mM_codeAt [.ref a0, .int a1] σ =
  hO (gI σ 9 a0 23) fun i1 =>
  if i1 ≤ a1 then
    some (some (.int 0), σ)
  else
  hO (gR σ 9 a0 2) fun r2 =>
  hO (lI σ r2 ((111 : Int32) + a1)) fun i3 =>
  some (some (.int i3), σ) := (Ev_blk d mM_codeAt 13 _ _ _ _).trans rfl
set_option maxRecDepth 100000 in
theorem q_M_passes0 (d : Nat) (a0 : Nat) (a1 : Int32) (σ : Mem) : EC (d + 1) mM_passes0 [.ref a0, .int a1] σ =
  hO (gI σ 9 a0 22) fun i1 =>
  bif isC σ 9 a0 then hI (EC d mM_codeAt [.ref a0, .int i1] σ) fun i3 σ2 =>
  if i3 = a1 then
    if (1 : Int32) = 0 then
      some (some (.int 1), σ2)
    else
    hO (gI σ2 9 a0 22) fun i4 =>
    hO (pF σ2 9 a0 22 (.int (i4 + (1 : Int32)))) fun σ5 =>
    some (some (.int 1), σ5)
  else
  if (0 : Int32) = 0 then
    some (some (.int 0), σ2)
  else
  hO (gI σ2 9 a0 22) fun i6 =>
  hO (pF σ2 9 a0 22 (.int (i6 + (1 : Int32)))) fun σ7 =>
  some (some (.int 0), σ7)
  else none := (Ev_blk d mM_passes0 20 _ _ _ _).trans rfl
set_option maxRecDepth 100000 in
theorem q_M_bounded (d : Nat) (a0 : Nat) (a1 : Int64) (a2 : Int32) (σ : Mem) : EC (d + 1) mM_bounded [.ref a0, .long a1, .int a2] σ =
  if a2 = 0 then
    hO (gI σ 9 a0 24) fun i1 =>
    if i1 = 0 then
      some (some (.long a1), σ)
    else
    some (some (.long 0), σ)
  else
  if 0 < ((lg_cmp a1 1000000000) : Int32) then
    hO (pF σ 9 a0 24 (.int 1)) fun σ2 =>
    hO (gI σ2 9 a0 24) fun i3 =>
    if i3 = 0 then
      some (some (.long a1), σ2)
    else
    some (some (.long 0), σ2)
  else
  if 0 ≤ ((lg_cmp a1 (-1000000000)) : Int32) then
    hO (gI σ 9 a0 24) fun i4 =>
    if i4 = 0 then
      some (some (.long a1), σ)
    else
    some (some (.long 0), σ)
  else
  hO (pF σ 9 a0 24 (.int 1)) fun σ5 =>
  hO (gI σ5 9 a0 24) fun i6 =>
  if i6 = 0 then
    some (some (.long a1), σ5)
  else
  some (some (.long 0), σ5) := (Ev_blk d mM_bounded 20 _ _ _ _).trans rfl
set_option maxRecDepth 100000 in
theorem q_M_sumOf (d : Nat) (a0 : Nat) (a1 : Int32) (σ : Mem) : EC (d + 1) mM_sumOf [.ref a0, .int a1] σ =
  bif isC σ 9 a0 then hL (EC d mM_termOf [.ref a0, .int a1] σ) fun l2 σ1 =>
  Ev (d + 1) mM_sumOf 6 [(0, .ref a0), (1, .int a1), (2, .long l2)] [] σ1
  else none := (Ev_blk d mM_sumOf 5 _ _ _ _).trans rfl
set_option maxRecDepth 100000 in
theorem q_M_sumOf_6 (d : Nat) (x0 : Nat) (x1 : Int32) (x2 : Int64) (σ : Mem) : Ev (d + 1) mM_sumOf 6 [(0, .ref x0), (1, .int x1), (2, .long x2)] [] σ =
  hO (gI σ 9 x0 22) fun i1 =>
  bif isC σ 9 x0 then hI (EC d mM_codeAt [.ref x0, .int i1] σ) fun i3 σ2 =>
  hI (EC d mM_sign [.int 43] σ2) fun i5 σ4 =>
  if i3 = i5 then
    hO (gI σ4 9 x0 22) fun i6 =>
    bif isC σ4 9 x0 then hI (EC d mM_codeAt [.ref x0, .int i6] σ4) fun i8 σ7 =>
    hI (EC d mM_sign [.int 43] σ7) fun i10 σ9 =>
    if i8 = i10 then
      hO (gI σ9 9 x0 22) fun i11 =>
      hO (pF σ9 9 x0 22 (.int (i11 + (1 : Int32)))) fun σ12 =>
      bif isC σ12 9 x0 then hL (EC d mM_termOf [.ref x0, .int x1] σ12) fun l14 σ13 =>
      if (1 : Int32) = 0 then
        bif isC σ13 9 x0 then hL (EC d mM_bounded [.ref x0, .long (x2 - l14), .int x1] σ13) fun l16 σ15 =>
        Ev (d + 1) mM_sumOf 6 [(0, .ref x0), (1, .int x1), (2, .long l16)] [] σ15
        else none
      else
      bif isC σ13 9 x0 then hL (EC d mM_bounded [.ref x0, .long (x2 + l14), .int x1] σ13) fun l18 σ17 =>
      Ev (d + 1) mM_sumOf 6 [(0, .ref x0), (1, .int x1), (2, .long l18)] [] σ17
      else none
      else none
    else
    hO (gI σ9 9 x0 22) fun i19 =>
    hO (pF σ9 9 x0 22 (.int (i19 + (1 : Int32)))) fun σ20 =>
    bif isC σ20 9 x0 then hL (EC d mM_termOf [.ref x0, .int x1] σ20) fun l22 σ21 =>
    if (0 : Int32) = 0 then
      bif isC σ21 9 x0 then hL (EC d mM_bounded [.ref x0, .long (x2 - l22), .int x1] σ21) fun l24 σ23 =>
      Ev (d + 1) mM_sumOf 6 [(0, .ref x0), (1, .int x1), (2, .long l24)] [] σ23
      else none
    else
    bif isC σ21 9 x0 then hL (EC d mM_bounded [.ref x0, .long (x2 + l22), .int x1] σ21) fun l26 σ25 =>
    Ev (d + 1) mM_sumOf 6 [(0, .ref x0), (1, .int x1), (2, .long l26)] [] σ25
    else none
    else none
    else none
  else
  hO (gI σ4 9 x0 22) fun i27 =>
  bif isC σ4 9 x0 then hI (EC d mM_codeAt [.ref x0, .int i27] σ4) fun i29 σ28 =>
  hI (EC d mM_sign [.int 45] σ28) fun i31 σ30 =>
  if i29 = i31 then
    hO (gI σ30 9 x0 22) fun i32 =>
    bif isC σ30 9 x0 then hI (EC d mM_codeAt [.ref x0, .int i32] σ30) fun i34 σ33 =>
    hI (EC d mM_sign [.int 43] σ33) fun i36 σ35 =>
    if i34 = i36 then
      hO (gI σ35 9 x0 22) fun i37 =>
      hO (pF σ35 9 x0 22 (.int (i37 + (1 : Int32)))) fun σ38 =>
      bif isC σ38 9 x0 then hL (EC d mM_termOf [.ref x0, .int x1] σ38) fun l40 σ39 =>
      if (1 : Int32) = 0 then
        bif isC σ39 9 x0 then hL (EC d mM_bounded [.ref x0, .long (x2 - l40), .int x1] σ39) fun l42 σ41 =>
        Ev (d + 1) mM_sumOf 6 [(0, .ref x0), (1, .int x1), (2, .long l42)] [] σ41
        else none
      else
      bif isC σ39 9 x0 then hL (EC d mM_bounded [.ref x0, .long (x2 + l40), .int x1] σ39) fun l44 σ43 =>
      Ev (d + 1) mM_sumOf 6 [(0, .ref x0), (1, .int x1), (2, .long l44)] [] σ43
      else none
      else none
    else
    hO (gI σ35 9 x0 22) fun i45 =>
    hO (pF σ35 9 x0 22 (.int (i45 + (1 : Int32)))) fun σ46 =>
    bif isC σ46 9 x0 then hL (EC d mM_termOf [.ref x0, .int x1] σ46) fun l48 σ47 =>
    if (0 : Int32) = 0 then
      bif isC σ47 9 x0 then hL (EC d mM_bounded [.ref x0, .long (x2 - l48), .int x1] σ47) fun l50 σ49 =>
      Ev (d + 1) mM_sumOf 6 [(0, .ref x0), (1, .int x1), (2, .long l50)] [] σ49
      else none
    else
    bif isC σ47 9 x0 then hL (EC d mM_bounded [.ref x0, .long (x2 + l48), .int x1] σ47) fun l52 σ51 =>
    Ev (d + 1) mM_sumOf 6 [(0, .ref x0), (1, .int x1), (2, .long l52)] [] σ51
    else none
    else none
    else none
  else
  some (some (.long x2), σ30)
  else none
  else none := (Ev_blk d mM_sumOf 46 _ _ _ _).trans rfl
set_option maxRecDepth 100000 in
theorem q_M_termOf (d : Nat) (a0 : Nat) (a1 : Int32) (σ : Mem) : EC (d + 1) mM_termOf [.ref a0, .int a1] σ =
  bif isC σ 9 a0 then hL (EC d mM_partOf [.ref a0, .int a1] σ) fun l2 σ1 =>
  Ev (d + 1) mM_termOf 6 [(0, .ref a0), (1, .int a1), (2, .long l2)] [] σ1
  else none := (Ev_blk d mM_termOf 5 _ _ _ _).trans rfl
set_option maxRecDepth 100000 in
theorem q_M_termOf_6 (d : Nat) (x0 : Nat) (x1 : Int32) (x2 : Int64) (σ : Mem) : Ev (d + 1) mM_termOf 6 [(0, .ref x0), (1, .int x1), (2, .long x2)] [] σ =
  hO (gI σ 9 x0 22) fun i1 =>
  bif isC σ 9 x0 then hI (EC d mM_codeAt [.ref x0, .int i1] σ) fun i3 σ2 =>
  hI (EC d mM_sign [.int 42] σ2) fun i5 σ4 =>
  if i3 = i5 then
    Ev (d + 1) mM_termOf 54 [(0, .ref x0), (1, .int x1), (2, .long x2)] [] σ4
  else
  hO (gI σ4 9 x0 22) fun i6 =>
  bif isC σ4 9 x0 then hI (EC d mM_codeAt [.ref x0, .int i6] σ4) fun i8 σ7 =>
  hI (EC d mM_sign [.int 47] σ7) fun i10 σ9 =>
  if i8 = i10 then
    Ev (d + 1) mM_termOf 54 [(0, .ref x0), (1, .int x1), (2, .long x2)] [] σ9
  else
  hO (gI σ9 9 x0 22) fun i11 =>
  bif isC σ9 9 x0 then hI (EC d mM_codeAt [.ref x0, .int i11] σ9) fun i13 σ12 =>
  hI (EC d mM_sign [.int 37] σ12) fun i15 σ14 =>
  if i13 = i15 then
    Ev (d + 1) mM_termOf 54 [(0, .ref x0), (1, .int x1), (2, .long x2)] [] σ14
  else
  some (some (.long x2), σ14)
  else none
  else none
  else none := (Ev_blk d mM_termOf 24 _ _ _ _).trans rfl
set_option maxRecDepth 100000 in
theorem q_M_termOf_54 (d : Nat) (x0 : Nat) (x1 : Int32) (x2 : Int64) (σ : Mem) : Ev (d + 1) mM_termOf 54 [(0, .ref x0), (1, .int x1), (2, .long x2)] [] σ =
  hO (gI σ 9 x0 22) fun i1 =>
  bif isC σ 9 x0 then hI (EC d mM_codeAt [.ref x0, .int i1] σ) fun i3 σ2 =>
  hO (gI σ2 9 x0 22) fun i4 =>
  hO (pF σ2 9 x0 22 (.int (i4 + (1 : Int32)))) fun σ5 =>
  bif isC σ5 9 x0 then hL (EC d mM_partOf [.ref x0, .int x1] σ5) fun l7 σ6 =>
  hI (EC d mM_sign [.int 42] σ6) fun i9 σ8 =>
  if i3 = i9 then
    Ev (d + 1) mM_termOf 121 [(0, .ref x0), (1, .int x1), (2, .long x2), (4, .int i3), (5, .long l7)] [] σ8
  else
  if ((lg_cmp l7 0) : Int32) = 0 then
    hO (gI σ8 9 x0 24) fun i10 =>
    if i10 = 0 then
      if x1 = 0 then
        hO (pF σ8 9 x0 24 (.int 0)) fun σ11 =>
        Ev (d + 1) mM_termOf 121 [(0, .ref x0), (1, .int x1), (2, .long x2), (4, .int i3), (5, .long 1)] [] σ11
      else
      hO (pF σ8 9 x0 24 (.int 1)) fun σ12 =>
      Ev (d + 1) mM_termOf 121 [(0, .ref x0), (1, .int x1), (2, .long x2), (4, .int i3), (5, .long 1)] [] σ12
    else
    hO (pF σ8 9 x0 24 (.int 1)) fun σ13 =>
    Ev (d + 1) mM_termOf 121 [(0, .ref x0), (1, .int x1), (2, .long x2), (4, .int i3), (5, .long 1)] [] σ13
  else
  Ev (d + 1) mM_termOf 121 [(0, .ref x0), (1, .int x1), (2, .long x2), (4, .int i3), (5, .long l7)] [] σ8
  else none
  else none := (Ev_blk d mM_termOf 35 _ _ _ _).trans rfl
set_option maxRecDepth 100000 in
theorem q_M_termOf_121 (d : Nat) (x0 : Nat) (x1 : Int32) (x2 : Int64) (x4 : Int32) (x5 : Int64) (σ : Mem) : Ev (d + 1) mM_termOf 121 [(0, .ref x0), (1, .int x1), (2, .long x2), (4, .int x4), (5, .long x5)] [] σ =
  hI (EC d mM_sign [.int 42] σ) fun i2 σ1 =>
  if x4 = i2 then
    bif isC σ1 9 x0 then hL (EC d mM_bounded [.ref x0, .long (x2 * x5), .int x1] σ1) fun l4 σ3 =>
    Ev (d + 1) mM_termOf 6 [(0, .ref x0), (1, .int x1), (2, .long l4)] [] σ3
    else none
  else
  hI (EC d mM_sign [.int 47] σ1) fun i6 σ5 =>
  if x4 = i6 then
    if (x5 : Int64) = 0 then none else
    bif isC σ5 9 x0 then hL (EC d mM_bounded [.ref x0, .long (x2 / x5), .int x1] σ5) fun l8 σ7 =>
    Ev (d + 1) mM_termOf 6 [(0, .ref x0), (1, .int x1), (2, .long l8)] [] σ7
    else none
  else
  if (x5 : Int64) = 0 then none else
  bif isC σ5 9 x0 then hL (EC d mM_bounded [.ref x0, .long (x2 - x2 / x5 * x5), .int x1] σ5) fun l10 σ9 =>
  Ev (d + 1) mM_termOf 6 [(0, .ref x0), (1, .int x1), (2, .long l10)] [] σ9
  else none := (Ev_blk d mM_termOf 18 _ _ _ _).trans rfl
set_option maxRecDepth 100000 in
theorem q_M_partOf (d : Nat) (a0 : Nat) (a1 : Int32) (σ : Mem) : EC (d + 1) mM_partOf [.ref a0, .int a1] σ =
  hI (EC d mM_sign [.int 91] σ) fun i2 σ1 =>
  bif isC σ1 9 a0 then hI (EC d mM_passes0 [.ref a0, .int i2] σ1) fun i4 σ3 =>
  if i4 = 0 then
    hO (gI σ3 9 a0 22) fun i5 =>
    bif isC σ3 9 a0 then hI (EC d mM_codeAt [.ref a0, .int i5] σ3) fun i7 σ6 =>
    hO (gI σ6 9 a0 22) fun i8 =>
    hO (pF σ6 9 a0 22 (.int (i8 + (1 : Int32)))) fun σ9 =>
    hO (gI σ9 9 a0 25) fun i10 =>
    if i10 = 0 then
      Ev (d + 1) mM_partOf 100 [(0, .ref a0), (1, .int a1), (2, .int i7), (3, .int 0)] [] σ9
    else
    if i7 = 14 then
      hO (gR σ9 9 a0 2) fun r11 =>
      hO (gI σ9 9 a0 22) fun i12 =>
      hO (lI σ9 r11 ((2911 : Int32) + i12)) fun i13 =>
      hO (gI σ9 9 a0 22) fun i14 =>
      hO (pF σ9 9 a0 22 (.int (i14 + (1 : Int32)))) fun σ15 =>
      Ev (d + 1) mM_partOf 100 [(0, .ref a0), (1, .int a1), (2, .int i7), (3, .int i13)] [] σ15
    else
    if i7 = 15 then
      hO (gR σ9 9 a0 2) fun r16 =>
      hO (gI σ9 9 a0 22) fun i17 =>
      hO (lI σ9 r16 ((2911 : Int32) + i17)) fun i18 =>
      hO (gI σ9 9 a0 22) fun i19 =>
      hO (pF σ9 9 a0 22 (.int (i19 + (1 : Int32)))) fun σ20 =>
      Ev (d + 1) mM_partOf 100 [(0, .ref a0), (1, .int a1), (2, .int i7), (3, .int i18)] [] σ20
    else
    if i7 = 19 then
      hO (gR σ9 9 a0 2) fun r21 =>
      hO (gI σ9 9 a0 22) fun i22 =>
      hO (lI σ9 r21 ((2911 : Int32) + i22)) fun i23 =>
      hO (gI σ9 9 a0 22) fun i24 =>
      hO (pF σ9 9 a0 22 (.int (i24 + (1 : Int32)))) fun σ25 =>
      Ev (d + 1) mM_partOf 100 [(0, .ref a0), (1, .int a1), (2, .int i7), (3, .int i23)] [] σ25
    else
    Ev (d + 1) mM_partOf 100 [(0, .ref a0), (1, .int a1), (2, .int i7), (3, .int 0)] [] σ9
    else none
  else
  bif isC σ3 9 a0 then hL (EC d mM_sumOf [.ref a0, .int a1] σ3) fun l27 σ26 =>
  hO (gI σ26 9 a0 22) fun i28 =>
  hO (pF σ26 9 a0 22 (.int (i28 + (1 : Int32)))) fun σ29 =>
  some (some (.long l27), σ29)
  else none
  else none := (Ev_blk d mM_partOf 45 _ _ _ _).trans rfl
set_option maxRecDepth 100000 in
theorem q_M_partOf_100 (d : Nat) (x0 : Nat) (x1 : Int32) (x2 : Int32) (x3 : Int32) (σ : Mem) : Ev (d + 1) mM_partOf 100 [(0, .ref x0), (1, .int x1), (2, .int x2), (3, .int x3)] [] σ =
  if x1 = 0 then
    some (some (.long 0), σ)
  else
  hO (gI σ 9 x0 24) fun i1 =>
  if i1 = 0 then
    if x2 = 50 then
      hO (gR σ 9 x0 2) fun r2 =>
      hO (gI σ 9 x0 22) fun i3 =>
      hO (lI σ r2 (((2911 : Int32) + i3) - (1 : Int32))) fun i4 =>
      some (some (.long (Int32.toInt64 i4)), σ)
    else
    hO (gI σ 9 x0 25) fun i5 =>
    if i5 = 0 then
      hO (gR σ 9 x0 26) fun r6 =>
      hO (lI σ r6 (x2 - (8 : Int32))) fun i7 =>
      some (some (.long (Int32.toInt64 i7)), σ)
    else
    bif isC σ 9 x0 then hI (EC d mM_orderValue [.ref x0, .int x2, .int x3] σ) fun i9 σ8 =>
    some (some (.long (Int32.toInt64 i9)), σ8)
    else none
  else
  some (some (.long 0), σ) := (Ev_blk d mM_partOf 20 _ _ _ _).trans rfl
set_option maxRecDepth 100000 in
theorem q_M_orderValue (d : Nat) (a0 : Nat) (a1 : Int32) (a2 : Int32) (σ : Mem) : EC (d + 1) mM_orderValue [.ref a0, .int a1, .int a2] σ =
  if a1 = 14 then
    bif isC σ 9 a0 then hI (EC d mM_isStick [.ref a0, .int a2] σ) fun i2 σ1 =>
    if i2 = 0 then
      some (some (.int (-1)), σ1)
    else
    hO (gR σ1 9 a0 2) fun r3 =>
    hO (lI σ1 r3 ((16 : Int32) + a2)) fun i4 =>
    some (some (.int i4), σ1)
    else none
  else if a1 = 15 then
    bif isC σ 9 a0 then hI (EC d mM_isPerson [.ref a0, .int a2] σ) fun i6 σ5 =>
    if i6 = 0 then
      some (some (.int (-1)), σ5)
    else
    hO (gR σ5 9 a0 2) fun r7 =>
    hO (lI σ5 r7 ((0 : Int32) + a2)) fun i8 =>
    some (some (.int i8), σ5)
    else none
  else if a1 = 16 then
    hO (gR σ 9 a0 2) fun r9 =>
    hO (lI σ r9 36) fun i10 =>
    some (some (.int i10), σ)
  else if a1 = 17 then
    hO (gI σ 9 a0 27) fun i11 =>
    some (some (.int i11), σ)
  else if a1 = 18 then
    hO (gI σ 9 a0 28) fun i12 =>
    some (some (.int i12), σ)
  else if a1 = 19 then
    bif isC σ 9 a0 then hI (EC d mM_isStick [.ref a0, .int a2] σ) fun i14 σ13 =>
    if i14 = 0 then
      some (some (.int (-1)), σ13)
    else
    hO (gR σ13 9 a0 2) fun r15 =>
    hO (lI σ13 r15 ((6 : Int32) + a2)) fun i16 =>
    some (some (.int i16), σ13)
    else none
  else 
  hO (gI σ 9 a0 28) fun i17 =>
  some (some (.int i17), σ) := (Ev_blk d mM_orderValue 15 _ _ _ _).trans rfl
set_option maxRecDepth 100000 in
theorem q_M_testOf (d : Nat) (a0 : Nat) (a1 : Int32) (σ : Mem) : EC (d + 1) mM_testOf [.ref a0, .int a1] σ =
  bif isC σ 9 a0 then hI (EC d mM_bothOf [.ref a0, .int a1] σ) fun i2 σ1 =>
  Ev (d + 1) mM_testOf 6 [(0, .ref a0), (1, .int a1), (2, .int i2)] [] σ1
  else none := (Ev_blk d mM_testOf 5 _ _ _ _).trans rfl
set_option maxRecDepth 100000 in
theorem q_M_testOf_6 (d : Nat) (x0 : Nat) (x1 : Int32) (x2 : Int32) (σ : Mem) : Ev (d + 1) mM_testOf 6 [(0, .ref x0), (1, .int x1), (2, .int x2)] [] σ =
  bif isC σ 9 x0 then hI (EC d mM_passes0 [.ref x0, .int 5] σ) fun i2 σ1 =>
  if i2 = 0 then
    bif okZ x2 then some (some (.int x2), σ1) else none
  else
  if x1 = 0 then
    bif isC σ1 9 x0 then hI (EC d mM_bothOf [.ref x0, .int 0] σ1) fun i4 σ3 =>
    if x2 = 0 then
      if i4 = 0 then
        Ev (d + 1) mM_testOf 6 [(0, .ref x0), (1, .int x1), (2, .int 0)] [] σ3
      else
      Ev (d + 1) mM_testOf 6 [(0, .ref x0), (1, .int x1), (2, .int 1)] [] σ3
    else
    Ev (d + 1) mM_testOf 6 [(0, .ref x0), (1, .int x1), (2, .int 1)] [] σ3
    else none
  else
  if x2 = 0 then
    bif isC σ1 9 x0 then hI (EC d mM_bothOf [.ref x0, .int 1] σ1) fun i6 σ5 =>
    if x2 = 0 then
      if i6 = 0 then
        Ev (d + 1) mM_testOf 6 [(0, .ref x0), (1, .int x1), (2, .int 0)] [] σ5
      else
      Ev (d + 1) mM_testOf 6 [(0, .ref x0), (1, .int x1), (2, .int 1)] [] σ5
    else
    Ev (d + 1) mM_testOf 6 [(0, .ref x0), (1, .int x1), (2, .int 1)] [] σ5
    else none
  else
  bif isC σ1 9 x0 then hI (EC d mM_bothOf [.ref x0, .int 0] σ1) fun i8 σ7 =>
  if x2 = 0 then
    if i8 = 0 then
      Ev (d + 1) mM_testOf 6 [(0, .ref x0), (1, .int x1), (2, .int 0)] [] σ7
    else
    Ev (d + 1) mM_testOf 6 [(0, .ref x0), (1, .int x1), (2, .int 1)] [] σ7
  else
  Ev (d + 1) mM_testOf 6 [(0, .ref x0), (1, .int x1), (2, .int 1)] [] σ7
  else none
  else none := (Ev_blk d mM_testOf 22 _ _ _ _).trans rfl
set_option maxRecDepth 100000 in
theorem q_M_bothOf (d : Nat) (a0 : Nat) (a1 : Int32) (σ : Mem) : EC (d + 1) mM_bothOf [.ref a0, .int a1] σ =
  bif isC σ 9 a0 then hI (EC d mM_plainOf [.ref a0, .int a1] σ) fun i2 σ1 =>
  Ev (d + 1) mM_bothOf 6 [(0, .ref a0), (1, .int a1), (2, .int i2)] [] σ1
  else none := (Ev_blk d mM_bothOf 5 _ _ _ _).trans rfl
set_option maxRecDepth 100000 in
theorem q_M_bothOf_6 (d : Nat) (x0 : Nat) (x1 : Int32) (x2 : Int32) (σ : Mem) : Ev (d + 1) mM_bothOf 6 [(0, .ref x0), (1, .int x1), (2, .int x2)] [] σ =
  bif isC σ 9 x0 then hI (EC d mM_passes0 [.ref x0, .int 6] σ) fun i2 σ1 =>
  if i2 = 0 then
    bif okZ x2 then some (some (.int x2), σ1) else none
  else
  if x1 = 0 then
    bif isC σ1 9 x0 then hI (EC d mM_plainOf [.ref x0, .int 0] σ1) fun i4 σ3 =>
    if x2 = 0 then
      Ev (d + 1) mM_bothOf 6 [(0, .ref x0), (1, .int x1), (2, .int 0)] [] σ3
    else
    if i4 = 0 then
      Ev (d + 1) mM_bothOf 6 [(0, .ref x0), (1, .int x1), (2, .int 0)] [] σ3
    else
    Ev (d + 1) mM_bothOf 6 [(0, .ref x0), (1, .int x1), (2, .int 1)] [] σ3
    else none
  else
  if x2 = 0 then
    bif isC σ1 9 x0 then hI (EC d mM_plainOf [.ref x0, .int 0] σ1) fun i6 σ5 =>
    if x2 = 0 then
      Ev (d + 1) mM_bothOf 6 [(0, .ref x0), (1, .int x1), (2, .int 0)] [] σ5
    else
    if i6 = 0 then
      Ev (d + 1) mM_bothOf 6 [(0, .ref x0), (1, .int x1), (2, .int 0)] [] σ5
    else
    Ev (d + 1) mM_bothOf 6 [(0, .ref x0), (1, .int x1), (2, .int 1)] [] σ5
    else none
  else
  bif isC σ1 9 x0 then hI (EC d mM_plainOf [.ref x0, .int 1] σ1) fun i8 σ7 =>
  if x2 = 0 then
    Ev (d + 1) mM_bothOf 6 [(0, .ref x0), (1, .int x1), (2, .int 0)] [] σ7
  else
  if i8 = 0 then
    Ev (d + 1) mM_bothOf 6 [(0, .ref x0), (1, .int x1), (2, .int 0)] [] σ7
  else
  Ev (d + 1) mM_bothOf 6 [(0, .ref x0), (1, .int x1), (2, .int 1)] [] σ7
  else none
  else none := (Ev_blk d mM_bothOf 22 _ _ _ _).trans rfl
set_option maxRecDepth 100000 in
theorem q_M_plainOf (d : Nat) (a0 : Nat) (a1 : Int32) (σ : Mem) : EC (d + 1) mM_plainOf [.ref a0, .int a1] σ =
  Ev (d + 1) mM_plainOf 2 [(0, .ref a0), (1, .int a1), (2, .int 0)] [] σ := (Ev_blk d mM_plainOf 3 _ _ _ _).trans rfl
set_option maxRecDepth 100000 in
theorem q_M_plainOf_2 (d : Nat) (x0 : Nat) (x1 : Int32) (x2 : Int32) (σ : Mem) : Ev (d + 1) mM_plainOf 2 [(0, .ref x0), (1, .int x1), (2, .int x2)] [] σ =
  bif isC σ 9 x0 then hI (EC d mM_passes0 [.ref x0, .int 7] σ) fun i2 σ1 =>
  if i2 = 0 then
    bif isC σ1 9 x0 then hI (EC d mM_positiveOf [.ref x0, .int x1] σ1) fun i4 σ3 =>
    if i4 = x2 then
      some (some (.int 0), σ3)
    else
    some (some (.int 1), σ3)
    else none
  else
  if x2 = 0 then
    Ev (d + 1) mM_plainOf 2 [(0, .ref x0), (1, .int x1), (2, .int 1)] [] σ1
  else
  Ev (d + 1) mM_plainOf 2 [(0, .ref x0), (1, .int x1), (2, .int 0)] [] σ1
  else none := (Ev_blk d mM_plainOf 13 _ _ _ _).trans rfl
set_option maxRecDepth 100000 in
theorem q_M_positiveOf (d : Nat) (a0 : Nat) (a1 : Int32) (σ : Mem) : EC (d + 1) mM_positiveOf [.ref a0, .int a1] σ =
  hI (EC d mM_sign [.int 40] σ) fun i2 σ1 =>
  bif isC σ1 9 a0 then hI (EC d mM_passes0 [.ref a0, .int i2] σ1) fun i4 σ3 =>
  if i4 = 0 then
    bif isC σ3 9 a0 then hL (EC d mM_sumOf [.ref a0, .int a1] σ3) fun l6 σ5 =>
    hO (gI σ5 9 a0 22) fun i7 =>
    bif isC σ5 9 a0 then hI (EC d mM_codeAt [.ref a0, .int i7] σ5) fun i9 σ8 =>
    hO (gI σ8 9 a0 22) fun i10 =>
    hO (pF σ8 9 a0 22 (.int (i10 + (1 : Int32)))) fun σ11 =>
    bif isC σ11 9 a0 then hL (EC d mM_sumOf [.ref a0, .int a1] σ11) fun l13 σ12 =>
    if a1 = 0 then
      some (some (.int 0), σ12)
    else
    hO (gI σ12 9 a0 24) fun i14 =>
    if i14 = 0 then
      hI (EC d mM_sign [.int 60] σ12) fun i16 σ15 =>
      if i9 = i16 then
        if 0 ≤ ((lg_cmp l6 l13) : Int32) then
          some (some (.int 0), σ15)
        else
        some (some (.int 1), σ15)
      else
      hI (EC d mM_sign [.int 62] σ15) fun i18 σ17 =>
      if i9 = i18 then
        if ((lg_cmp l6 l13) : Int32) ≤ 0 then
          some (some (.int 0), σ17)
        else
        some (some (.int 1), σ17)
      else
      if ((lg_cmp l6 l13) : Int32) = 0 then
        some (some (.int 1), σ17)
      else
      some (some (.int 0), σ17)
    else
    some (some (.int 0), σ12)
    else none
    else none
    else none
  else
  bif isC σ3 9 a0 then hI (EC d mM_testOf [.ref a0, .int a1] σ3) fun i20 σ19 =>
  hO (gI σ19 9 a0 22) fun i21 =>
  hO (pF σ19 9 a0 22 (.int (i21 + (1 : Int32)))) fun σ22 =>
  bif okZ i20 then some (some (.int i20), σ22) else none
  else none
  else none := (Ev_blk d mM_positiveOf 46 _ _ _ _).trans rfl
set_option maxRecDepth 100000 in
theorem q_M_tells (d : Nat) (a0 : Nat) (a1 : Int32) (a2 : Int32) (a3 : Int32) (a4 : Int32) (a5 : Int32) (σ : Mem) : EC (d + 1) mM_tells [.ref a0, .int a1, .int a2, .int a3, .int a4, .int a5] σ =
  hO (gR σ 9 a0 2) fun r1 =>
  hO (lI σ r1 103) fun i2 =>
  if i2 = (-1) then
    some (some (.int a5), σ)
  else
  hO (gR σ 9 a0 26) fun r3 =>
  hO (gR σ 9 a0 2) fun r4 =>
  hO (lI σ r4 ((37 : Int32) + a2)) fun i5 =>
  hO (sI σ r3 0 i5) fun σ6 =>
  hO (gR σ6 9 a0 26) fun r7 =>
  hO (gR σ6 9 a0 2) fun r8 =>
  hO (lI σ6 r8 ((6 : Int32) + a2)) fun i9 =>
  hO (sI σ6 r7 1 i9) fun σ10 =>
  hO (gR σ10 9 a0 26) fun r11 =>
  hO (gR σ10 9 a0 2) fun r12 =>
  hO (lI σ10 r12 ((57 : Int32) + a2)) fun i13 =>
  hO (sI σ10 r11 2 i13) fun σ14 =>
  hO (gR σ14 9 a0 26) fun r15 =>
  hO (gR σ14 9 a0 2) fun r16 =>
  hO (lI σ14 r16 36) fun i17 =>
  hO (gR σ14 9 a0 2) fun r18 =>
  hO (lI σ14 r18 ((67 : Int32) + a2)) fun i19 =>
  hO (sI σ14 r15 3 (i17 - i19)) fun σ20 =>
  hO (gR σ20 9 a0 26) fun r21 =>
  hO (sI σ20 r21 4 a3) fun σ22 =>
  hO (gR σ22 9 a0 26) fun r23 =>
  hO (gR σ22 9 a0 2) fun r24 =>
  hO (lI σ22 r24 98) fun i25 =>
  hO (sI σ22 r23 5 i25) fun σ26 =>
  hO (gR σ26 9 a0 26) fun r27 =>
  hO (gR σ26 9 a0 2) fun r28 =>
  hO (lI σ26 r28 ((16 : Int32) + a2)) fun i29 =>
  hO (sI σ26 r27 6 i29) fun σ30 =>
  hO (gR σ30 9 a0 26) fun r31 =>
  hO (gR σ30 9 a0 2) fun r32 =>
  hO (gR σ30 9 a0 2) fun r33 =>
  hO (lI σ30 r33 ((37 : Int32) + a2)) fun i34 =>
  hO (lI σ30 r32 ((0 : Int32) + i34)) fun i35 =>
  hO (sI σ30 r31 7 i35) fun σ36 =>
  hO (gR σ36 9 a0 26) fun r37 =>
  hO (gR σ36 9 a0 2) fun r38 =>
  hO (lI σ36 r38 36) fun i39 =>
  hO (sI σ36 r37 8 i39) fun σ40 =>
  hO (pF σ40 9 a0 25 (.int 0)) fun σ41 =>
  hO (gR σ41 9 a0 2) fun r42 =>
  hO (lI σ41 r42 103) fun i43 =>
  hO (pF σ41 9 a0 22 (.int ((400 : Int32) * i43))) fun σ44 =>
  hO (gI σ44 9 a0 22) fun i45 =>
  hO (gR σ44 9 a0 2) fun r46 =>
  hO (gR σ44 9 a0 2) fun r47 =>
  hO (lI σ44 r47 103) fun i48 =>
  hO (lI σ44 r46 ((104 : Int32) + i48)) fun i49 =>
  hO (pF σ44 9 a0 23 (.int (i45 + i49))) fun σ50 =>
  Ev (d + 1) mM_tells 204 [(0, .ref a0), (1, .int a1), (4, .int a4), (6, .long (Int32.toInt64 a5))] [] σ50 := (Ev_blk d mM_tells 126 _ _ _ _).trans rfl
set_option maxRecDepth 100000 in
theorem q_M_tells_204 (d : Nat) (x0 : Nat) (x1 : Int32) (x4 : Int32) (x6 : Int64) (σ : Mem) : Ev (d + 1) mM_tells 204 [(0, .ref x0), (1, .int x1), (4, .int x4), (6, .long x6)] [] σ =
  hO (gI σ 9 x0 22) fun i1 =>
  hO (gI σ 9 x0 23) fun i2 =>
  if i2 ≤ i1 then
    some (some (.int (Int64.toInt32 x6)), σ)
  else
  hO (gI σ 9 x0 22) fun i3 =>
  bif isC σ 9 x0 then hI (EC d mM_codeAt [.ref x0, .int i3] σ) fun i5 σ4 =>
  hO (pF σ4 9 x0 24 (.int 0)) fun σ6 =>
  hO (gI σ6 9 x0 22) fun i7 =>
  hO (pF σ6 9 x0 22 (.int (i7 + (1 : Int32)))) fun σ8 =>
  if i5 = 3 then
    hO (gI σ8 9 x0 24) fun i9 =>
    hO (pF σ8 9 x0 24 (.int 0)) fun σ10 =>
    bif isC σ10 9 x0 then hI (EC d mM_passes0 [.ref x0, .int 4] σ10) fun i12 σ11 =>
    if i12 = 0 then
      Ev (d + 1) mM_tells 289 [(0, .ref x0), (1, .int x1), (4, .int x4), (6, .long x6), (8, .int i5), (9, .long 1), (11, .int i9)] [.int 1] σ11
    else
    bif isC σ11 9 x0 then hI (EC d mM_testOf [.ref x0, .int 1] σ11) fun i14 σ13 =>
    if i14 = 0 then
      Ev (d + 1) mM_tells 289 [(0, .ref x0), (1, .int x1), (4, .int x4), (6, .long x6), (8, .int i5), (9, .long 1), (11, .int i9)] [.int 0] σ13
    else
    Ev (d + 1) mM_tells 289 [(0, .ref x0), (1, .int x1), (4, .int x4), (6, .long x6), (8, .int i5), (9, .long 1), (11, .int i9)] [.int 1] σ13
    else none
    else none
  else
  bif isC σ8 9 x0 then hL (EC d mM_sumOf [.ref x0, .int 1] σ8) fun l16 σ15 =>
  hO (gI σ15 9 x0 24) fun i17 =>
  hO (pF σ15 9 x0 24 (.int 0)) fun σ18 =>
  bif isC σ18 9 x0 then hI (EC d mM_passes0 [.ref x0, .int 4] σ18) fun i20 σ19 =>
  if i20 = 0 then
    Ev (d + 1) mM_tells 289 [(0, .ref x0), (1, .int x1), (4, .int x4), (6, .long x6), (8, .int i5), (9, .long l16), (11, .int i17)] [.int 1] σ19
  else
  bif isC σ19 9 x0 then hI (EC d mM_testOf [.ref x0, .int 1] σ19) fun i22 σ21 =>
  if i22 = 0 then
    Ev (d + 1) mM_tells 289 [(0, .ref x0), (1, .int x1), (4, .int x4), (6, .long x6), (8, .int i5), (9, .long l16), (11, .int i17)] [.int 0] σ21
  else
  Ev (d + 1) mM_tells 289 [(0, .ref x0), (1, .int x1), (4, .int x4), (6, .long x6), (8, .int i5), (9, .long l16), (11, .int i17)] [.int 1] σ21
  else none
  else none
  else none
  else none := (Ev_blk d mM_tells 43 _ _ _ _).trans rfl
set_option maxRecDepth 100000 in
theorem q_M_tells_289 (d : Nat) (x0 : Nat) (x1 : Int32) (x4 : Int32) (x6 : Int64) (x8 : Int32) (x9 : Int64) (x11 : Int32) (y0 : Int32) (σ : Mem) : Ev (d + 1) mM_tells 289 [(0, .ref x0), (1, .int x1), (4, .int x4), (6, .long x6), (8, .int x8), (9, .long x9), (11, .int x11)] [.int y0] σ =
  if x8 = x1 then
    if y0 = 0 then
      hO (gI σ 9 x0 22) fun i1 =>
      hO (pF σ 9 x0 22 (.int (i1 + (1 : Int32)))) fun σ2 =>
      Ev (d + 1) mM_tells 204 [(0, .ref x0), (1, .int x1), (4, .int x4), (6, .long x6)] [] σ2
    else
    hO (gI σ 9 x0 24) fun i3 =>
    if i3 = 0 then
      if x11 = 0 then
        if 0 ≤ ((lg_cmp x9 0) : Int32) then
          if ((lg_cmp x9 (Int32.toInt64 x4)) : Int32) ≤ 0 then
            hO (gI σ 9 x0 22) fun i4 =>
            hO (pF σ 9 x0 22 (.int (i4 + (1 : Int32)))) fun σ5 =>
            Ev (d + 1) mM_tells 204 [(0, .ref x0), (1, .int x1), (4, .int x4), (6, .long x9)] [] σ5
          else
          hO (gI σ 9 x0 22) fun i6 =>
          hO (pF σ 9 x0 22 (.int (i6 + (1 : Int32)))) fun σ7 =>
          Ev (d + 1) mM_tells 204 [(0, .ref x0), (1, .int x1), (4, .int x4), (6, .long (Int32.toInt64 x4))] [] σ7
        else
        hO (gI σ 9 x0 22) fun i8 =>
        hO (pF σ 9 x0 22 (.int (i8 + (1 : Int32)))) fun σ9 =>
        Ev (d + 1) mM_tells 204 [(0, .ref x0), (1, .int x1), (4, .int x4), (6, .long 0)] [] σ9
      else
      hO (gI σ 9 x0 22) fun i10 =>
      hO (pF σ 9 x0 22 (.int (i10 + (1 : Int32)))) fun σ11 =>
      Ev (d + 1) mM_tells 204 [(0, .ref x0), (1, .int x1), (4, .int x4), (6, .long x6)] [] σ11
    else
    hO (gI σ 9 x0 22) fun i12 =>
    hO (pF σ 9 x0 22 (.int (i12 + (1 : Int32)))) fun σ13 =>
    Ev (d + 1) mM_tells 204 [(0, .ref x0), (1, .int x1), (4, .int x4), (6, .long x6)] [] σ13
  else
  hO (gI σ 9 x0 22) fun i14 =>
  hO (pF σ 9 x0 22 (.int (i14 + (1 : Int32)))) fun σ15 =>
  Ev (d + 1) mM_tells 204 [(0, .ref x0), (1, .int x1), (4, .int x4), (6, .long x6)] [] σ15 := (Ev_blk d mM_tells 32 _ _ _ _).trans rfl
set_option maxRecDepth 100000 in
theorem q_M_paysBy (d : Nat) (a0 : Nat) (a1 : Int32) (σ : Mem) : EC (d + 1) mM_paysBy [.ref a0, .int a1] σ =
  hO (gR σ 9 a0 2) fun r1 =>
  hO (lI σ r1 ((16 : Int32) + a1)) fun i2 =>
  bif isC σ 9 a0 then hI (EC d mM_tells [.ref a0, .int 1, .int a1, .int (-1), .int 9999, .int i2] σ) fun i4 σ3 =>
  some (some (.int i4), σ3)
  else none := (Ev_blk d mM_paysBy 14 _ _ _ _).trans rfl
set_option maxRecDepth 100000 in
theorem q_M_wornIn (d : Nat) (a0 : Nat) (a1 : Int32) (σ : Mem) : EC (d + 1) mM_wornIn [.ref a0, .int a1] σ =
  hO (gR σ 9 a0 2) fun r1 =>
  hO (lI σ r1 97) fun i2 =>
  bif isC σ 9 a0 then hI (EC d mM_tells [.ref a0, .int 2, .int a1, .int (-1), .int 12, .int i2] σ) fun i4 σ3 =>
  some (some (.int i4), σ3)
  else none := (Ev_blk d mM_wornIn 12 _ _ _ _).trans rfl
set_option maxRecDepth 100000 in
theorem q_M_isBarred (d : Nat) (a0 : Nat) (a1 : Int32) (a2 : Int32) (σ : Mem) : EC (d + 1) mM_isBarred [.ref a0, .int a1, .int a2] σ =
  bif isC σ 9 a0 then hI (EC d mM_tells [.ref a0, .int 3, .int a1, .int a2, .int 1, .int 0] σ) fun i2 σ1 =>
  if i2 = 1 then
    some (some (.int 1), σ1)
  else
  some (some (.int 0), σ1)
  else none := (Ev_blk d mM_isBarred 13 _ _ _ _).trans rfl
set_option maxRecDepth 100000 in
theorem q_M_asks (d : Nat) (a0 : Nat) (a1 : Int32) (a2 : Int32) (σ : Mem) : EC (d + 1) mM_asks [.ref a0, .int a1, .int a2] σ =
  bif isC σ 9 a0 then hI (EC d mM_isStick [.ref a0, .int a1] σ) fun i2 σ1 =>
  if i2 = 0 then
    some (some (.int (-1)), σ1)
  else
  bif isC σ1 9 a0 then hI (EC d mM_isPerson [.ref a0, .int a2] σ1) fun i4 σ3 =>
  if i4 = 0 then
    some (some (.int (-1)), σ3)
  else
  bif isC σ3 9 a0 then hI (EC d mM_isBarred [.ref a0, .int a1, .int a2] σ3) fun i6 σ5 =>
  if i6 = 0 then
    some (some (.int 0), σ5)
  else
  some (some (.int 1), σ5)
  else none
  else none
  else none := (Ev_blk d mM_asks 17 _ _ _ _).trans rfl
set_option maxRecDepth 100000 in
theorem q_M_canGive (d : Nat) (a0 : Nat) (a1 : Int32) (a2 : Int32) (σ : Mem) : EC (d + 1) mM_canGive [.ref a0, .int a1, .int a2] σ =
  bif isC σ 9 a0 then hI (EC d mM_isPaid [.ref a0, .int a1] σ) fun i2 σ1 =>
  if i2 = 0 then
    hO (gR σ1 9 a0 2) fun r3 =>
    hO (lI σ1 r3 ((6 : Int32) + a1)) fun i4 =>
    if i4 = a2 then
      some (some (.int 0), σ1)
    else
    bif isC σ1 9 a0 then hI (EC d mM_isBarred [.ref a0, .int a1, .int a2] σ1) fun i6 σ5 =>
    if i6 = 0 then
      some (some (.int 1), σ5)
    else
    some (some (.int 0), σ5)
    else none
  else
  some (some (.int 0), σ1)
  else none := (Ev_blk d mM_canGive 21 _ _ _ _).trans rfl
set_option maxRecDepth 100000 in
theorem q_M_gives (d : Nat) (a0 : Nat) (a1 : Int32) (a2 : Int32) (σ : Mem) : EC (d + 1) mM_gives [.ref a0, .int a1, .int a2] σ =
  hO (gR σ 9 a0 2) fun r1 =>
  hO (lI σ r1 ((6 : Int32) + a1)) fun i2 =>
  hO (gR σ 9 a0 2) fun r3 =>
  hO (lI σ r3 ((37 : Int32) + a1)) fun i4 =>
  if a2 = i4 then
    hO (gR σ 9 a0 2) fun r5 =>
    hO (sI σ r5 ((26 : Int32) + a1) 1) fun σ6 =>
    some (some (.int i2), σ6)
  else
  hO (gR σ 9 a0 2) fun r7 =>
  hO (sI σ r7 ((6 : Int32) + a1) a2) fun σ8 =>
  some (some (.int i2), σ8) := (Ev_blk d mM_gives 26 _ _ _ _).trans rfl
set_option maxRecDepth 100000 in
theorem q_M_moves (d : Nat) (a0 : Nat) (a1 : Int32) (a2 : Int32) (σ : Mem) : EC (d + 1) mM_moves [.ref a0, .int a1, .int a2] σ =
  hO (gR σ 9 a0 2) fun r1 =>
  hO (gR σ 9 a0 2) fun r2 =>
  hO (lI σ r2 ((37 : Int32) + a1)) fun i3 =>
  hO (lI σ r1 ((0 : Int32) + i3)) fun i4 =>
  hO (sI σ r1 ((0 : Int32) + i3) (i4 - a2)) fun σ5 =>
  hO (gR σ5 9 a0 2) fun r6 =>
  hO (gR σ5 9 a0 2) fun r7 =>
  hO (lI σ5 r7 ((6 : Int32) + a1)) fun i8 =>
  hO (gR σ5 9 a0 2) fun r9 =>
  hO (gR σ5 9 a0 2) fun r10 =>
  hO (lI σ5 r10 ((6 : Int32) + a1)) fun i11 =>
  hO (lI σ5 r9 ((0 : Int32) + i11)) fun i12 =>
  hI (EC d mM_lesser [.int 9999, .int (i12 + a2)] σ5) fun i14 σ13 =>
  hO (sI σ13 r6 ((0 : Int32) + i8) i14) fun σ15 =>
  some (none, σ15) := (Ev_blk d mM_moves 43 _ _ _ _).trans rfl
set_option maxRecDepth 100000 in
theorem q_M_isDue (d : Nat) (a0 : Nat) (a1 : Int32) (σ : Mem) : EC (d + 1) mM_isDue [.ref a0, .int a1] σ =
  bif isC σ 9 a0 then hI (EC d mM_isPaid [.ref a0, .int a1] σ) fun i2 σ1 =>
  if i2 = 0 then
    hO (gR σ1 9 a0 2) fun r3 =>
    hO (lI σ1 r3 ((67 : Int32) + a1)) fun i4 =>
    hO (gR σ1 9 a0 2) fun r5 =>
    hO (lI σ1 r5 36) fun i6 =>
    if i6 < i4 then
      some (some (.int 0), σ1)
    else
    some (some (.int 1), σ1)
  else
  some (some (.int 0), σ1)
  else none := (Ev_blk d mM_isDue 19 _ _ _ _).trans rfl
set_option maxRecDepth 100000 in
theorem q_M_canCall (d : Nat) (a0 : Nat) (a1 : Int32) (σ : Mem) : EC (d + 1) mM_canCall [.ref a0, .int a1] σ =
  bif isC σ 9 a0 then hI (EC d mM_isDue [.ref a0, .int a1] σ) fun i2 σ1 =>
  if i2 = 0 then
    some (some (.int 0), σ1)
  else
  hO (gR σ1 9 a0 2) fun r3 =>
  hO (gR σ1 9 a0 2) fun r4 =>
  hO (lI σ1 r4 ((37 : Int32) + a1)) fun i5 =>
  hO (lI σ1 r3 ((0 : Int32) + i5)) fun i6 =>
  bif isC σ1 9 a0 then hI (EC d mM_paysBy [.ref a0, .int a1] σ1) fun i8 σ7 =>
  if i6 < i8 then
    some (some (.int 0), σ7)
  else
  some (some (.int 1), σ7)
  else none
  else none := (Ev_blk d mM_canCall 23 _ _ _ _).trans rfl
set_option maxRecDepth 100000 in
theorem q_M_calls0 (d : Nat) (a0 : Nat) (a1 : Int32) (σ : Mem) : EC (d + 1) mM_calls0 [.ref a0, .int a1] σ =
  bif isC σ 9 a0 then hI (EC d mM_paysBy [.ref a0, .int a1] σ) fun i2 σ1 =>
  bif isC σ1 9 a0 then hV (EC d mM_moves [.ref a0, .int a1, .int i2] σ1) fun σ3 =>
  hO (gR σ3 9 a0 2) fun r4 =>
  hO (sI σ3 r4 ((26 : Int32) + a1) 1) fun σ5 =>
  some (some (.int i2), σ5)
  else none
  else none := (Ev_blk d mM_calls0 18 _ _ _ _).trans rfl
set_option maxRecDepth 100000 in
theorem q_M_keeps (d : Nat) (a0 : Nat) (a1 : Int32) (σ : Mem) : EC (d + 1) mM_keeps [.ref a0, .int a1] σ =
  hO (gI σ 9 a0 31) fun i1 =>
  if i1 = 16 then
    Ev (d + 1) mM_keeps 14 [(0, .ref a0), (1, .int a1), (2, .int 38), (3, .int 0)] [] σ
  else
  Ev (d + 1) mM_keeps 54 [(0, .ref a0), (1, .int a1), (2, .int 38), (3, .int 0)] [] σ := (Ev_blk d mM_keeps 9 _ _ _ _).trans rfl
set_option maxRecDepth 100000 in
theorem q_M_keeps_14 (d : Nat) (x0 : Nat) (x1 : Int32) (x2 : Int32) (x3 : Int32) (σ : Mem) : Ev (d + 1) mM_keeps 14 [(0, .ref x0), (1, .int x1), (2, .int x2), (3, .int x3)] [] σ =
  if ((15 : Int32) * x2) ≤ x3 then
    hO (gI σ 9 x0 31) fun i1 =>
    hO (pF σ 9 x0 31 (.int (i1 - (1 : Int32)))) fun σ2 =>
    Ev (d + 1) mM_keeps 54 [(0, .ref x0), (1, .int x1), (2, .int x2), (3, .int 0)] [] σ2
  else
  hO (gR σ 9 x0 29) fun r3 =>
  hO (gR σ 9 x0 29) fun r4 =>
  hO (lI σ r4 (x3 + x2)) fun i5 =>
  hO (sI σ r3 x3 i5) fun σ6 =>
  Ev (d + 1) mM_keeps 14 [(0, .ref x0), (1, .int x1), (2, .int x2), (3, .int (x3 + 1))] [] σ6 := (Ev_blk d mM_keeps 18 _ _ _ _).trans rfl
set_option maxRecDepth 100000 in
theorem q_M_keeps_54 (d : Nat) (x0 : Nat) (x1 : Int32) (x2 : Int32) (x3 : Int32) (σ : Mem) : Ev (d + 1) mM_keeps 54 [(0, .ref x0), (1, .int x1), (2, .int x2), (3, .int x3)] [] σ =
  if 37 ≤ x3 then
    hO (gR σ 9 x0 29) fun r1 =>
    hO (gI σ 9 x0 31) fun i2 =>
    hO (sI σ r1 ((x2 * i2) + (37 : Int32)) x1) fun σ3 =>
    hO (gI σ3 9 x0 31) fun i4 =>
    hO (pF σ3 9 x0 31 (.int (i4 + (1 : Int32)))) fun σ5 =>
    some (none, σ5)
  else
  hO (gR σ 9 x0 29) fun r6 =>
  hO (gI σ 9 x0 31) fun i7 =>
  hO (gR σ 9 x0 2) fun r8 =>
  hO (lI σ r8 x3) fun i9 =>
  hO (sI σ r6 ((x2 * i7) + x3) i9) fun σ10 =>
  Ev (d + 1) mM_keeps 54 [(0, .ref x0), (1, .int x1), (2, .int x2), (3, .int (x3 + 1))] [] σ10 := (Ev_blk d mM_keeps 21 _ _ _ _).trans rfl
set_option maxRecDepth 100000 in
theorem q_M_undo (d : Nat) (a0 : Nat) (σ : Mem) : EC (d + 1) mM_undo [.ref a0] σ =
  hO (gI σ 9 a0 31) fun i1 =>
  if i1 = 0 then
    bif isC σ 9 a0 then hI (EC d mM_refuses [.ref a0, .int (-3)] σ) fun i3 σ2 =>
    some (some (.int i3), σ2)
    else none
  else
  hO (gI σ 9 a0 31) fun i4 =>
  hO (pF σ 9 a0 31 (.int (i4 - (1 : Int32)))) fun σ5 =>
  hO (gI σ5 9 a0 31) fun i6 =>
  Ev (d + 1) mM_undo 34 [(0, .ref a0), (1, .int ((38 : Int32) * i6)), (2, .int 0)] [] σ5 := (Ev_blk d mM_undo 17 _ _ _ _).trans rfl
set_option maxRecDepth 100000 in
theorem q_M_undo_34 (d : Nat) (x0 : Nat) (x1 : Int32) (x2 : Int32) (σ : Mem) : Ev (d + 1) mM_undo 34 [(0, .ref x0), (1, .int x1), (2, .int x2)] [] σ =
  if 37 ≤ x2 then
    hO (gR σ 9 x0 29) fun r1 =>
    hO (lI σ r1 (x1 + (37 : Int32))) fun i2 =>
    bif isC σ 9 x0 then hI (EC d mM_good [.ref x0, .int i2] σ) fun i4 σ3 =>
    some (some (.int i4), σ3)
    else none
  else
  hO (gR σ 9 x0 2) fun r5 =>
  hO (gR σ 9 x0 29) fun r6 =>
  hO (lI σ r6 (x1 + x2)) fun i7 =>
  hO (sI σ r5 x2 i7) fun σ8 =>
  Ev (d + 1) mM_undo 34 [(0, .ref x0), (1, .int x1), (2, .int (x2 + 1))] [] σ8 := (Ev_blk d mM_undo 16 _ _ _ _).trans rfl
set_option maxRecDepth 100000 in
theorem q_M_goodOr (d : Nat) (a0 : Nat) (a1 : Int32) (σ : Mem) : EC (d + 1) mM_goodOr [.ref a0, .int a1] σ =
  if 0 ≤ a1 then
    bif isC σ 9 a0 then hI (EC d mM_good [.ref a0, .int a1] σ) fun i2 σ1 =>
    some (some (.int i2), σ1)
    else none
  else
  bif isC σ 9 a0 then hI (EC d mM_refuses [.ref a0, .int a1] σ) fun i4 σ3 =>
  some (some (.int i4), σ3)
  else none := (Ev_blk d mM_goodOr 8 _ _ _ _).trans rfl
set_option maxRecDepth 100000 in
theorem q_M_givesKept (d : Nat) (a0 : Nat) (a1 : Int32) (a2 : Int32) (σ : Mem) : EC (d + 1) mM_givesKept [.ref a0, .int a1, .int a2] σ =
  bif isC σ 9 a0 then hI (EC d mM_isStick [.ref a0, .int a1] σ) fun i2 σ1 =>
  if i2 = 0 then
    some (some (.int (-2)), σ1)
  else
  bif isC σ1 9 a0 then hI (EC d mM_isPerson [.ref a0, .int a2] σ1) fun i4 σ3 =>
  if i4 = 0 then
    some (some (.int (-2)), σ3)
  else
  bif isC σ3 9 a0 then hI (EC d mM_canGive [.ref a0, .int a1, .int a2] σ3) fun i6 σ5 =>
  if i6 = 0 then
    some (some (.int (-3)), σ5)
  else
  bif isC σ5 9 a0 then hV (EC d mM_keeps [.ref a0, .int 0] σ5) fun σ7 =>
  bif isC σ7 9 a0 then hI (EC d mM_gives [.ref a0, .int a1, .int a2] σ7) fun i9 σ8 =>
  some (some (.int i9), σ8)
  else none
  else none
  else none
  else none
  else none := (Ev_blk d mM_givesKept 22 _ _ _ _).trans rfl
set_option maxRecDepth 100000 in
theorem q_M_callsKept (d : Nat) (a0 : Nat) (a1 : Int32) (σ : Mem) : EC (d + 1) mM_callsKept [.ref a0, .int a1] σ =
  bif isC σ 9 a0 then hI (EC d mM_isStick [.ref a0, .int a1] σ) fun i2 σ1 =>
  if i2 = 0 then
    some (some (.int (-2)), σ1)
  else
  bif isC σ1 9 a0 then hI (EC d mM_canCall [.ref a0, .int a1] σ1) fun i4 σ3 =>
  if i4 = 0 then
    some (some (.int (-3)), σ3)
  else
  bif isC σ3 9 a0 then hV (EC d mM_keeps [.ref a0, .int 1] σ3) fun σ5 =>
  bif isC σ5 9 a0 then hI (EC d mM_calls0 [.ref a0, .int a1] σ5) fun i7 σ6 =>
  some (some (.int i7), σ6)
  else none
  else none
  else none
  else none := (Ev_blk d mM_callsKept 16 _ _ _ _).trans rfl
set_option maxRecDepth 100000 in
theorem q_M_shavesKept (d : Nat) (a0 : Nat) (a1 : Int32) (a2 : Int32) (σ : Mem) : EC (d + 1) mM_shavesKept [.ref a0, .int a1, .int a2] σ =
  hI (EC d mM_lies [.int a2, .int 1, .int 998] σ) fun i2 σ1 =>
  if i2 = 0 then
    some (some (.int (-1)), σ1)
  else
  bif isC σ1 9 a0 then hI (EC d mM_isStick [.ref a0, .int a1] σ1) fun i4 σ3 =>
  if i4 = 0 then
    some (some (.int (-2)), σ3)
  else
  bif isC σ3 9 a0 then hI (EC d mM_isPaid [.ref a0, .int a1] σ3) fun i6 σ5 =>
  if i6 = 0 then
    hO (gR σ5 9 a0 2) fun r7 =>
    hO (lI σ5 r7 ((16 : Int32) + a1)) fun i8 =>
    if i8 ≤ a2 then
      some (some (.int (-3)), σ5)
    else
    hO (gR σ5 9 a0 2) fun r9 =>
    hO (gR σ5 9 a0 2) fun r10 =>
    hO (lI σ5 r10 ((37 : Int32) + a1)) fun i11 =>
    hO (lI σ5 r9 ((0 : Int32) + i11)) fun i12 =>
    if a2 ≤ i12 then
      bif isC σ5 9 a0 then hV (EC d mM_keeps [.ref a0, .int 2] σ5) fun σ13 =>
      bif isC σ13 9 a0 then hV (EC d mM_moves [.ref a0, .int a1, .int a2] σ13) fun σ14 =>
      hO (gR σ14 9 a0 2) fun r15 =>
      hO (lI σ14 r15 ((16 : Int32) + a1)) fun i16 =>
      hO (sI σ14 r15 ((16 : Int32) + a1) (i16 - a2)) fun σ17 =>
      hO (gR σ17 9 a0 2) fun r18 =>
      hO (lI σ17 r18 ((16 : Int32) + a1)) fun i19 =>
      some (some (.int i19), σ17)
      else none
      else none
    else
    some (some (.int (-3)), σ5)
  else
  some (some (.int (-3)), σ5)
  else none
  else none := (Ev_blk d mM_shavesKept 59 _ _ _ _).trans rfl
set_option maxRecDepth 100000 in
theorem q_M_passesKept (d : Nat) (a0 : Nat) (σ : Mem) : EC (d + 1) mM_passesKept [.ref a0] σ =
  hO (gR σ 9 a0 2) fun r1 =>
  hO (lI σ r1 36) fun i2 =>
  if i2 = 999 then
    some (some (.int (-3)), σ)
  else
  bif isC σ 9 a0 then hV (EC d mM_keeps [.ref a0, .int 3] σ) fun σ3 =>
  hO (gR σ3 9 a0 2) fun r4 =>
  hO (lI σ3 r4 36) fun i5 =>
  hO (sI σ3 r4 36 (i5 + (1 : Int32))) fun σ6 =>
  hO (gR σ6 9 a0 2) fun r7 =>
  hO (lI σ6 r7 36) fun i8 =>
  some (some (.int i8), σ6)
  else none := (Ev_blk d mM_passesKept 23 _ _ _ _).trans rfl
set_option maxRecDepth 100000 in
theorem q_M_give (d : Nat) (a0 : Nat) (a1 : Int32) (a2 : Int32) (σ : Mem) : EC (d + 1) mM_give [.ref a0, .int a1, .int a2] σ =
  bif isC σ 9 a0 then hI (EC d mM_givesKept [.ref a0, .int a1, .int a2] σ) fun i2 σ1 =>
  bif isC σ1 9 a0 then hI (EC d mM_goodOr [.ref a0, .int i2] σ1) fun i4 σ3 =>
  some (some (.int i4), σ3)
  else none
  else none := (Ev_blk d mM_give 8 _ _ _ _).trans rfl
set_option maxRecDepth 100000 in
theorem q_M_call (d : Nat) (a0 : Nat) (a1 : Int32) (σ : Mem) : EC (d + 1) mM_call [.ref a0, .int a1] σ =
  bif isC σ 9 a0 then hI (EC d mM_callsKept [.ref a0, .int a1] σ) fun i2 σ1 =>
  bif isC σ1 9 a0 then hI (EC d mM_goodOr [.ref a0, .int i2] σ1) fun i4 σ3 =>
  some (some (.int i4), σ3)
  else none
  else none := (Ev_blk d mM_call 7 _ _ _ _).trans rfl
set_option maxRecDepth 100000 in
theorem q_M_shave (d : Nat) (a0 : Nat) (a1 : Int32) (a2 : Int32) (σ : Mem) : EC (d + 1) mM_shave [.ref a0, .int a1, .int a2] σ =
  bif isC σ 9 a0 then hI (EC d mM_shavesKept [.ref a0, .int a1, .int a2] σ) fun i2 σ1 =>
  bif isC σ1 9 a0 then hI (EC d mM_goodOr [.ref a0, .int i2] σ1) fun i4 σ3 =>
  some (some (.int i4), σ3)
  else none
  else none := (Ev_blk d mM_shave 8 _ _ _ _).trans rfl
set_option maxRecDepth 100000 in
theorem q_M_pass (d : Nat) (a0 : Nat) (σ : Mem) : EC (d + 1) mM_pass [.ref a0] σ =
  bif isC σ 9 a0 then hI (EC d mM_passesKept [.ref a0] σ) fun i2 σ1 =>
  bif isC σ1 9 a0 then hI (EC d mM_goodOr [.ref a0, .int i2] σ1) fun i4 σ3 =>
  some (some (.int i4), σ3)
  else none
  else none := (Ev_blk d mM_pass 6 _ _ _ _).trans rfl
set_option maxRecDepth 100000 in
theorem q_M_unlike (d : Nat) (a0 : Nat) (a1 : Int32) (a2 : Int32) (σ : Mem) : EC (d + 1) mM_unlike [.ref a0, .int a1, .int a2] σ =
  hO (gR σ 9 a0 2) fun r1 =>
  hO (lI σ r1 ((47 : Int32) + a1)) fun i2 =>
  hO (gR σ 9 a0 2) fun r3 =>
  hO (lI σ r3 ((77 : Int32) + a2)) fun i4 =>
  hI (EC d mM_ones [.int (i2 ^^^ i4)] σ) fun i6 σ5 =>
  some (some (.int i6), σ5) := (Ev_blk d mM_unlike 16 _ _ _ _).trans rfl
set_option maxRecDepth 100000 in
theorem q_M_doesFit (d : Nat) (a0 : Nat) (a1 : Int32) (a2 : Int32) (σ : Mem) : EC (d + 1) mM_doesFit [.ref a0, .int a1, .int a2] σ =
  hO (gR σ 9 a0 2) fun r1 =>
  hO (lI σ r1 ((16 : Int32) + a1)) fun i2 =>
  hO (gR σ 9 a0 2) fun r3 =>
  hO (lI σ r3 ((87 : Int32) + a2)) fun i4 =>
  if i4 < i2 then
    some (some (.int 0), σ)
  else
  bif isC σ 9 a0 then hI (EC d mM_unlike [.ref a0, .int a1, .int a2] σ) fun i6 σ5 =>
  bif isC σ5 9 a0 then hI (EC d mM_wornIn [.ref a0, .int a1] σ5) fun i8 σ7 =>
  if i8 < i6 then
    some (some (.int 0), σ7)
  else
  some (some (.int 1), σ7)
  else none
  else none := (Ev_blk d mM_doesFit 25 _ _ _ _).trans rfl
set_option maxRecDepth 100000 in
theorem q_M_fit (d : Nat) (a0 : Nat) (a1 : Int32) (a2 : Int32) (a3 : Int32) (σ : Mem) : EC (d + 1) mM_fit [.ref a0, .int a1, .int a2, .int a3] σ =
  bif isC σ 9 a0 then hI (EC d mM_isStick [.ref a0, .int a1] σ) fun i2 σ1 =>
  if i2 = 0 then
    some (some (.int (-1)), σ1)
  else
  bif isC σ1 9 a0 then hI (EC d mM_isFoil [.ref a0, .int a2] σ1) fun i4 σ3 =>
  if i4 = 0 then
    some (some (.int (-1)), σ3)
  else
  hI (EC d mM_lies [.int a3, .int 0, .int 1] σ3) fun i6 σ5 =>
  if i6 = 0 then
    some (some (.int (-1)), σ5)
  else
  if a3 = 0 then
    bif isC σ5 9 a0 then hI (EC d mM_unlike [.ref a0, .int a1, .int a2] σ5) fun i8 σ7 =>
    some (some (.int i8), σ7)
    else none
  else
  bif isC σ5 9 a0 then hI (EC d mM_doesFit [.ref a0, .int a1, .int a2] σ5) fun i10 σ9 =>
  if i10 = 0 then
    some (some (.int 0), σ9)
  else
  some (some (.int 1), σ9)
  else none
  else none
  else none := (Ev_blk d mM_fit 24 _ _ _ _).trans rfl
set_option maxRecDepth 100000 in
theorem q_M_laysFits (d : Nat) (a0 : Nat) (σ : Mem) : EC (d + 1) mM_laysFits [.ref a0] σ =
  Ev (d + 1) mM_laysFits 2 [(0, .ref a0), (1, .int 0)] [] σ := (Ev_blk d mM_laysFits 3 _ _ _ _).trans rfl
set_option maxRecDepth 100000 in
theorem q_M_laysFits_2 (d : Nat) (x0 : Nat) (x1 : Int32) (σ : Mem) : Ev (d + 1) mM_laysFits 2 [(0, .ref x0), (1, .int x1)] [] σ =
  hO (gR σ 9 x0 2) fun r1 =>
  hO (lI σ r1 100) fun i2 =>
  if i2 ≤ x1 then
    some (none, σ)
  else
  Ev (d + 1) mM_laysFits 15 [(0, .ref x0), (1, .int x1), (2, .int 0)] [] σ := (Ev_blk d mM_laysFits 9 _ _ _ _).trans rfl
set_option maxRecDepth 100000 in
theorem q_M_laysFits_15 (d : Nat) (x0 : Nat) (x1 : Int32) (x2 : Int32) (σ : Mem) : Ev (d + 1) mM_laysFits 15 [(0, .ref x0), (1, .int x1), (2, .int x2)] [] σ =
  hO (gR σ 9 x0 2) fun r1 =>
  hO (lI σ r1 101) fun i2 =>
  if i2 ≤ x2 then
    Ev (d + 1) mM_laysFits 2 [(0, .ref x0), (1, .int (x1 + 1))] [] σ
  else
  hO (gR σ 9 x0 32) fun r3 =>
  bif isC σ 9 x0 then hI (EC d mM_doesFit [.ref x0, .int x1, .int x2] σ) fun i5 σ4 =>
  hO (sB σ4 r3 (((10 : Int32) * x1) + x2) i5) fun σ6 =>
  Ev (d + 1) mM_laysFits 15 [(0, .ref x0), (1, .int x1), (2, .int (x2 + 1))] [] σ6
  else none := (Ev_blk d mM_laysFits 21 _ _ _ _).trans rfl
set_option maxRecDepth 100000 in
theorem q_M_mostAt (d : Nat) (a0 : Nat) (a1 : Int32) (a2 : Int32) (σ : Mem) : EC (d + 1) mM_mostAt [.ref a0, .int a1, .int a2] σ =
  hO (gR σ 9 a0 33) fun r1 =>
  hO (lB σ r1 ((a1 <<< ((10 : Int32) &&& 31)) + a2)) fun i2 =>
  some (some (.int i2), σ) := (Ev_blk d mM_mostAt 10 _ _ _ _).trans rfl
set_option maxRecDepth 100000 in
theorem q_M_laysMost (d : Nat) (a0 : Nat) (σ : Mem) : EC (d + 1) mM_laysMost [.ref a0] σ =
  bif isC σ 9 a0 then hV (EC d mM_laysFits [.ref a0] σ) fun σ1 =>
  hO (gR σ1 9 a0 2) fun r2 =>
  hO (lI σ1 r2 101) fun i3 =>
  Ev (d + 1) mM_laysMost 16 [(0, .ref a0), (1, .int ((1 : Int32) <<< (i3 &&& 31))), (2, .int 0)] [] σ1
  else none := (Ev_blk d mM_laysMost 12 _ _ _ _).trans rfl
set_option maxRecDepth 100000 in
theorem q_M_laysMost_16 (d : Nat) (x0 : Nat) (x1 : Int32) (x2 : Int32) (σ : Mem) : Ev (d + 1) mM_laysMost 16 [(0, .ref x0), (1, .int x1), (2, .int x2)] [] σ =
  if x1 ≤ x2 then
    hO (gR σ 9 x0 2) fun r1 =>
    hO (lI σ r1 100) fun i2 =>
    Ev (d + 1) mM_laysMost 55 [(0, .ref x0), (1, .int x1), (2, .int (i2 - (1 : Int32)))] [] σ
  else
  hO (gR σ 9 x0 33) fun r3 =>
  hO (gR σ 9 x0 2) fun r4 =>
  hO (lI σ r4 100) fun i5 =>
  hO (sB σ r3 ((i5 <<< ((10 : Int32) &&& 31)) + x2) 0) fun σ6 =>
  Ev (d + 1) mM_laysMost 16 [(0, .ref x0), (1, .int x1), (2, .int (x2 + 1))] [] σ6 := (Ev_blk d mM_laysMost 18 _ _ _ _).trans rfl
set_option maxRecDepth 100000 in
theorem q_M_laysMost_55 (d : Nat) (x0 : Nat) (x1 : Int32) (x2 : Int32) (σ : Mem) : Ev (d + 1) mM_laysMost 55 [(0, .ref x0), (1, .int x1), (2, .int x2)] [] σ =
  if x2 < 0 then
    some (none, σ)
  else
  Ev (d + 1) mM_laysMost 61 [(0, .ref x0), (1, .int x1), (2, .int x2), (3, .int 0)] [] σ := (Ev_blk d mM_laysMost 5 _ _ _ _).trans rfl
set_option maxRecDepth 100000 in
theorem q_M_laysMost_61 (d : Nat) (x0 : Nat) (x1 : Int32) (x2 : Int32) (x3 : Int32) (σ : Mem) : Ev (d + 1) mM_laysMost 61 [(0, .ref x0), (1, .int x1), (2, .int x2), (3, .int x3)] [] σ =
  if x1 ≤ x3 then
    Ev (d + 1) mM_laysMost 55 [(0, .ref x0), (1, .int x1), (2, .int (x2 + (-1)))] [] σ
  else
  bif isC σ 9 x0 then hI (EC d mM_mostAt [.ref x0, .int (x2 + (1 : Int32)), .int x3] σ) fun i2 σ1 =>
  Ev (d + 1) mM_laysMost 79 [(0, .ref x0), (1, .int x1), (2, .int x2), (3, .int x3), (4, .int i2), (5, .int 0)] [] σ1
  else none := (Ev_blk d mM_laysMost 13 _ _ _ _).trans rfl
set_option maxRecDepth 100000 in
theorem q_M_laysMost_79 (d : Nat) (x0 : Nat) (x1 : Int32) (x2 : Int32) (x3 : Int32) (x4 : Int32) (x5 : Int32) (σ : Mem) : Ev (d + 1) mM_laysMost 79 [(0, .ref x0), (1, .int x1), (2, .int x2), (3, .int x3), (4, .int x4), (5, .int x5)] [] σ =
  hO (gR σ 9 x0 2) fun r1 =>
  hO (lI σ r1 101) fun i2 =>
  if i2 ≤ x5 then
    hO (gR σ 9 x0 33) fun r3 =>
    hO (sB σ r3 ((x2 <<< ((10 : Int32) &&& 31)) + x3) (Int32.toInt8 x4).toInt32) fun σ4 =>
    Ev (d + 1) mM_laysMost 61 [(0, .ref x0), (1, .int x1), (2, .int x2), (3, .int (x3 + 1))] [] σ4
  else
  hO (gR σ 9 x0 32) fun r5 =>
  hO (lB σ r5 (((10 : Int32) * x2) + x5)) fun i6 =>
  if i6 = 0 then
    Ev (d + 1) mM_laysMost 79 [(0, .ref x0), (1, .int x1), (2, .int x2), (3, .int x3), (4, .int x4), (5, .int (x5 + 1))] [] σ
  else
  hI (EC d mM_isIn [.int x3, .int x5] σ) fun i8 σ7 =>
  if i8 = 0 then
    bif isC σ7 9 x0 then hI (EC d mM_mostAt [.ref x0, .int (x2 + (1 : Int32)), .int (x3 ||| ((1 : Int32) <<< (x5 &&& 31)))] σ7) fun i10 σ9 =>
    hI (EC d mM_greater [.int x4, .int ((1 : Int32) + i10)] σ9) fun i12 σ11 =>
    Ev (d + 1) mM_laysMost 79 [(0, .ref x0), (1, .int x1), (2, .int x2), (3, .int x3), (4, .int i12), (5, .int (x5 + 1))] [] σ11
    else none
  else
  Ev (d + 1) mM_laysMost 79 [(0, .ref x0), (1, .int x1), (2, .int x2), (3, .int x3), (4, .int x4), (5, .int (x5 + 1))] [] σ7 := (Ev_blk d mM_laysMost 37 _ _ _ _).trans rfl
set_option maxRecDepth 100000 in
theorem q_M_firstFoil (d : Nat) (a0 : Nat) (a1 : Int32) (a2 : Int32) (σ : Mem) : EC (d + 1) mM_firstFoil [.ref a0, .int a1, .int a2] σ =
  Ev (d + 1) mM_firstFoil 2 [(0, .ref a0), (1, .int a1), (2, .int a2), (3, .int 0)] [] σ := (Ev_blk d mM_firstFoil 3 _ _ _ _).trans rfl
set_option maxRecDepth 100000 in
theorem q_M_firstFoil_2 (d : Nat) (x0 : Nat) (x1 : Int32) (x2 : Int32) (x3 : Int32) (σ : Mem) : Ev (d + 1) mM_firstFoil 2 [(0, .ref x0), (1, .int x1), (2, .int x2), (3, .int x3)] [] σ =
  hO (gR σ 9 x0 2) fun r1 =>
  hO (lI σ r1 101) fun i2 =>
  if i2 ≤ x3 then
    some (some (.int 100), σ)
  else
  hO (gR σ 9 x0 32) fun r3 =>
  hO (lB σ r3 (((10 : Int32) * x1) + x3)) fun i4 =>
  if i4 = 0 then
    Ev (d + 1) mM_firstFoil 2 [(0, .ref x0), (1, .int x1), (2, .int x2), (3, .int (x3 + 1))] [] σ
  else
  hI (EC d mM_isIn [.int x2, .int x3] σ) fun i6 σ5 =>
  if i6 = 0 then
    bif isC σ5 9 x0 then hI (EC d mM_mostAt [.ref x0, .int (x1 + (1 : Int32)), .int (x2 ||| ((1 : Int32) <<< (x3 &&& 31)))] σ5) fun i8 σ7 =>
    bif isC σ7 9 x0 then hI (EC d mM_mostAt [.ref x0, .int x1, .int x2] σ7) fun i10 σ9 =>
    if (((1 : Int32) + i8) : Int32) = i10 then
      some (some (.int x3), σ9)
    else
    Ev (d + 1) mM_firstFoil 2 [(0, .ref x0), (1, .int x1), (2, .int x2), (3, .int (x3 + 1))] [] σ9
    else none
    else none
  else
  Ev (d + 1) mM_firstFoil 2 [(0, .ref x0), (1, .int x1), (2, .int x2), (3, .int (x3 + 1))] [] σ5 := (Ev_blk d mM_firstFoil 39 _ _ _ _).trans rfl
set_option maxRecDepth 100000 in
theorem q_M_match (d : Nat) (a0 : Nat) (a1 : Int32) (σ : Mem) : EC (d + 1) mM_match [.ref a0, .int a1] σ =
  hO (gR σ 9 a0 2) fun r1 =>
  hO (lI σ r1 100) fun i2 =>
  hI (EC d mM_lies [.int a1, .int 0, .int i2] σ) fun i4 σ3 =>
  if i4 = 0 then
    some (some (.int (-1)), σ3)
  else
  bif isC σ3 9 a0 then hV (EC d mM_laysMost [.ref a0] σ3) fun σ5 =>
  if a1 = 0 then
    bif isC σ5 9 a0 then hI (EC d mM_mostAt [.ref a0, .int 0, .int 0] σ5) fun i7 σ6 =>
    some (some (.int i7), σ6)
    else none
  else
  Ev (d + 1) mM_match 40 [(0, .ref a0), (1, .int a1), (2, .int 0), (3, .int 100), (4, .int 0)] [] σ5
  else none := (Ev_blk d mM_match 19 _ _ _ _).trans rfl
set_option maxRecDepth 100000 in
theorem q_M_match_40 (d : Nat) (x0 : Nat) (x1 : Int32) (x2 : Int32) (x3 : Int32) (x4 : Int32) (σ : Mem) : Ev (d + 1) mM_match 40 [(0, .ref x0), (1, .int x1), (2, .int x2), (3, .int x3), (4, .int x4)] [] σ =
  if x1 ≤ x4 then
    some (some (.int x3), σ)
  else
  bif isC σ 9 x0 then hI (EC d mM_firstFoil [.ref x0, .int x4, .int x2] σ) fun i2 σ1 =>
  if i2 = 100 then
    Ev (d + 1) mM_match 40 [(0, .ref x0), (1, .int x1), (2, .int (x2 ||| (0 : Int32))), (3, .int i2), (4, .int (x4 + 1))] [] σ1
  else
  Ev (d + 1) mM_match 40 [(0, .ref x0), (1, .int x1), (2, .int (x2 ||| ((1 : Int32) <<< (i2 &&& 31)))), (3, .int i2), (4, .int (x4 + 1))] [] σ1
  else none := (Ev_blk d mM_match 20 _ _ _ _).trans rfl
set_option maxRecDepth 100000 in
theorem q_M_odd (d : Nat) (a0 : Nat) (σ : Mem) : EC (d + 1) mM_odd [.ref a0] σ =
  bif isC σ 9 a0 then hV (EC d mM_laysFits [.ref a0] σ) fun σ1 =>
  Ev (d + 1) mM_odd 8 [(0, .ref a0), (1, .int 0), (2, .int 0)] [] σ1
  else none := (Ev_blk d mM_odd 7 _ _ _ _).trans rfl
set_option maxRecDepth 100000 in
theorem q_M_odd_8 (d : Nat) (x0 : Nat) (x1 : Int32) (x2 : Int32) (σ : Mem) : Ev (d + 1) mM_odd 8 [(0, .ref x0), (1, .int x1), (2, .int x2)] [] σ =
  hO (gR σ 9 x0 2) fun r1 =>
  hO (lI σ r1 101) fun i2 =>
  if i2 ≤ x2 then
    some (some (.int x1), σ)
  else
  Ev (d + 1) mM_odd 24 [(0, .ref x0), (1, .int x1), (2, .int x2), (3, .int 1), (4, .int 0)] [] σ := (Ev_blk d mM_odd 11 _ _ _ _).trans rfl
set_option maxRecDepth 100000 in
theorem q_M_odd_24 (d : Nat) (x0 : Nat) (x1 : Int32) (x2 : Int32) (x3 : Int32) (x4 : Int32) (σ : Mem) : Ev (d + 1) mM_odd 24 [(0, .ref x0), (1, .int x1), (2, .int x2), (3, .int x3), (4, .int x4)] [] σ =
  hO (gR σ 9 x0 2) fun r1 =>
  hO (lI σ r1 100) fun i2 =>
  if i2 ≤ x4 then
    if x3 = 0 then
      Ev (d + 1) mM_odd 8 [(0, .ref x0), (1, .int (x1 ||| (0 : Int32))), (2, .int (x2 + 1))] [] σ
    else
    Ev (d + 1) mM_odd 8 [(0, .ref x0), (1, .int (x1 ||| ((1 : Int32) <<< (x2 &&& 31)))), (2, .int (x2 + 1))] [] σ
  else
  if x3 = 0 then
    Ev (d + 1) mM_odd 24 [(0, .ref x0), (1, .int x1), (2, .int x2), (3, .int 0), (4, .int (x4 + 1))] [] σ
  else
  hO (gR σ 9 x0 32) fun r3 =>
  hO (lB σ r3 (((10 : Int32) * x4) + x2)) fun i4 =>
  if i4 = 0 then
    Ev (d + 1) mM_odd 24 [(0, .ref x0), (1, .int x1), (2, .int x2), (3, .int 1), (4, .int (x4 + 1))] [] σ
  else
  Ev (d + 1) mM_odd 24 [(0, .ref x0), (1, .int x1), (2, .int x2), (3, .int 0), (4, .int (x4 + 1))] [] σ := (Ev_blk d mM_odd 23 _ _ _ _).trans rfl
set_option maxRecDepth 100000 in
theorem q_M_tellsApart (d : Nat) (a0 : Nat) (a1 : Int32) (σ : Mem) : EC (d + 1) mM_tellsApart [.ref a0, .int a1] σ =
  Ev (d + 1) mM_tellsApart 4 [(0, .ref a0), (1, .int a1), (2, .int 1), (3, .int 0)] [] σ := (Ev_blk d mM_tellsApart 5 _ _ _ _).trans rfl
set_option maxRecDepth 100000 in
theorem q_M_tellsApart_4 (d : Nat) (x0 : Nat) (x1 : Int32) (x2 : Int32) (x3 : Int32) (σ : Mem) : Ev (d + 1) mM_tellsApart 4 [(0, .ref x0), (1, .int x1), (2, .int x2), (3, .int x3)] [] σ =
  hO (gR σ 9 x0 2) fun r1 =>
  hO (lI σ r1 100) fun i2 =>
  if i2 ≤ x3 then
    bif okZ x2 then some (some (.int x2), σ) else none
  else
  Ev (d + 1) mM_tellsApart 20 [(0, .ref x0), (1, .int x1), (2, .int x2), (3, .int x3), (4, .int (x3 + (1 : Int32)))] [] σ := (Ev_blk d mM_tellsApart 11 _ _ _ _).trans rfl
set_option maxRecDepth 100000 in
theorem q_M_tellsApart_20 (d : Nat) (x0 : Nat) (x1 : Int32) (x2 : Int32) (x3 : Int32) (x4 : Int32) (σ : Mem) : Ev (d + 1) mM_tellsApart 20 [(0, .ref x0), (1, .int x1), (2, .int x2), (3, .int x3), (4, .int x4)] [] σ =
  hO (gR σ 9 x0 2) fun r1 =>
  hO (lI σ r1 100) fun i2 =>
  if i2 ≤ x4 then
    Ev (d + 1) mM_tellsApart 4 [(0, .ref x0), (1, .int x1), (2, .int x2), (3, .int (x3 + 1))] [] σ
  else
  if x2 = 0 then
    Ev (d + 1) mM_tellsApart 20 [(0, .ref x0), (1, .int x1), (2, .int 0), (3, .int x3), (4, .int (x4 + 1))] [] σ
  else
  hO (gR σ 9 x0 2) fun r3 =>
  hO (lI σ r3 ((47 : Int32) + x3)) fun i4 =>
  hO (gR σ 9 x0 2) fun r5 =>
  hO (lI σ r5 ((47 : Int32) + x4)) fun i6 =>
  if (((i4 ^^^ i6) &&& x1) : Int32) = 0 then
    Ev (d + 1) mM_tellsApart 20 [(0, .ref x0), (1, .int x1), (2, .int 0), (3, .int x3), (4, .int (x4 + 1))] [] σ
  else
  Ev (d + 1) mM_tellsApart 20 [(0, .ref x0), (1, .int x1), (2, .int 1), (3, .int x3), (4, .int (x4 + 1))] [] σ := (Ev_blk d mM_tellsApart 30 _ _ _ _).trans rfl
set_option maxRecDepth 100000 in
theorem q_M_apart (d : Nat) (a0 : Nat) (a1 : Int32) (σ : Mem) : EC (d + 1) mM_apart [.ref a0, .int a1] σ =
  hI (EC d mM_lies [.int a1, .int 0, .int 1] σ) fun i2 σ1 =>
  if i2 = 0 then
    some (some (.int (-1)), σ1)
  else
  Ev (d + 1) mM_apart 15 [(0, .ref a0), (1, .int a1), (2, .int (-1)), (3, .int 0)] [] σ1 := (Ev_blk d mM_apart 10 _ _ _ _).trans rfl
set_option maxRecDepth 100000 in
theorem q_M_apart_15 (d : Nat) (x0 : Nat) (x1 : Int32) (x2 : Int32) (x3 : Int32) (σ : Mem) : Ev (d + 1) mM_apart 15 [(0, .ref x0), (1, .int x1), (2, .int x2), (3, .int x3)] [] σ =
  if 4096 ≤ x3 then
    if x2 = (-1) then
      some (some (.int x2), σ)
    else
    if x1 = 1 then
      some (some (.int x2), σ)
    else
    hI (EC d mM_ones [.int x2] σ) fun i2 σ1 =>
    some (some (.int i2), σ1)
  else
  if x2 = (-1) then
    bif isC σ 9 x0 then hI (EC d mM_tellsApart [.ref x0, .int x3] σ) fun i4 σ3 =>
    if i4 = 0 then
      Ev (d + 1) mM_apart 15 [(0, .ref x0), (1, .int x1), (2, .int x2), (3, .int (x3 + 1))] [] σ3
    else
    Ev (d + 1) mM_apart 15 [(0, .ref x0), (1, .int x1), (2, .int x3), (3, .int (x3 + 1))] [] σ3
    else none
  else
  hI (EC d mM_ones [.int x3] σ) fun i6 σ5 =>
  hI (EC d mM_ones [.int x2] σ5) fun i8 σ7 =>
  if i8 ≤ i6 then
    Ev (d + 1) mM_apart 15 [(0, .ref x0), (1, .int x1), (2, .int x2), (3, .int (x3 + 1))] [] σ7
  else
  bif isC σ7 9 x0 then hI (EC d mM_tellsApart [.ref x0, .int x3] σ7) fun i10 σ9 =>
  if i10 = 0 then
    Ev (d + 1) mM_apart 15 [(0, .ref x0), (1, .int x1), (2, .int x2), (3, .int (x3 + 1))] [] σ9
  else
  Ev (d + 1) mM_apart 15 [(0, .ref x0), (1, .int x1), (2, .int x3), (3, .int (x3 + 1))] [] σ9
  else none := (Ev_blk d mM_apart 20 _ _ _ _).trans rfl
set_option maxRecDepth 100000 in
theorem q_M_notchesAbove (d : Nat) (a0 : Int32) (a1 : Int32) (σ : Mem) : EC (d + 1) mM_notchesAbove [.int a0, .int a1] σ =
  Ev (d + 1) mM_notchesAbove 7 [(2, .int 0), (3, .int a0), (4, .int a1)] [] σ := (Ev_blk d mM_notchesAbove 7 _ _ _ _).trans rfl
set_option maxRecDepth 100000 in
theorem q_M_notchesAbove_7 (d : Nat) (x2 : Int32) (x3 : Int32) (x4 : Int32) (σ : Mem) : Ev (d + 1) mM_notchesAbove 7 [(2, .int x2), (3, .int x3), (4, .int x4)] [] σ =
  if 0 < x3 then
    if (10 : Int32) = 0 then none else
    if (10 : Int32) = 0 then none else
    if (x4 - x4 / (10 : Int32) * (10 : Int32)) ≤ ((x3 - x3 / (10 : Int32) * (10 : Int32)) : Int32) then
      if (10 : Int32) = 0 then none else
      if (10 : Int32) = 0 then none else
      if (10 : Int32) = 0 then none else
      if (10 : Int32) = 0 then none else
      Ev (d + 1) mM_notchesAbove 7 [(2, .int (x2 + ((x3 - x3 / (10 : Int32) * (10 : Int32)) - (x4 - x4 / (10 : Int32) * (10 : Int32))))), (3, .int (x3 / (10 : Int32))), (4, .int (x4 / (10 : Int32)))] [] σ
    else
    some (some (.int (-1)), σ)
  else
  if x4 ≤ 0 then
    some (some (.int x2), σ)
  else
  if (10 : Int32) = 0 then none else
  if (10 : Int32) = 0 then none else
  if (x4 - x4 / (10 : Int32) * (10 : Int32)) ≤ ((x3 - x3 / (10 : Int32) * (10 : Int32)) : Int32) then
    if (10 : Int32) = 0 then none else
    if (10 : Int32) = 0 then none else
    if (10 : Int32) = 0 then none else
    if (10 : Int32) = 0 then none else
    Ev (d + 1) mM_notchesAbove 7 [(2, .int (x2 + ((x3 - x3 / (10 : Int32) * (10 : Int32)) - (x4 - x4 / (10 : Int32) * (10 : Int32))))), (3, .int (x3 / (10 : Int32))), (4, .int (x4 / (10 : Int32)))] [] σ
  else
  some (some (.int (-1)), σ) := (Ev_blk d mM_notchesAbove 31 _ _ _ _).trans rfl
set_option maxRecDepth 100000 in
theorem q_M_told (d : Nat) (a0 : Nat) (a1 : Int32) (a2 : Int32) (a3 : Int32) (σ : Mem) : EC (d + 1) mM_told [.ref a0, .int a1, .int a2, .int a3] σ =
  bif isC σ 9 a0 then hI (EC d mM_isStick [.ref a0, .int a1] σ) fun i2 σ1 =>
  if i2 = 0 then
    some (some (.int (-1)), σ1)
  else
  hI (EC d mM_lies [.int a2, .int 0, .int 27] σ1) fun i4 σ3 =>
  if i4 = 0 then
    some (some (.int (-1)), σ3)
  else
  hI (EC d mM_lies [.int a3, .int 0, .int 1] σ3) fun i6 σ5 =>
  if i6 = 0 then
    some (some (.int (-1)), σ5)
  else
  hO (gR σ5 9 a0 2) fun r7 =>
  hO (lI σ5 r7 ((16 : Int32) + a1)) fun i8 =>
  Ev (d + 1) mM_told 50 [(2, .int a2), (3, .int a3), (4, .int i8), (5, .int 0), (6, .int 0), (7, .int i8)] [] σ5
  else none := (Ev_blk d mM_told 28 _ _ _ _).trans rfl
set_option maxRecDepth 100000 in
theorem q_M_told_50 (d : Nat) (x2 : Int32) (x3 : Int32) (x4 : Int32) (x5 : Int32) (x6 : Int32) (x7 : Int32) (σ : Mem) : Ev (d + 1) mM_told 50 [(2, .int x2), (3, .int x3), (4, .int x4), (5, .int x5), (6, .int x6), (7, .int x7)] [] σ =
  if 999 < x7 then
    if x3 = 0 then
      some (some (.int x5), σ)
    else
    some (some (.int x6), σ)
  else
  hI (EC d mM_notchesAbove [.int x7, .int x4] σ) fun i2 σ1 =>
  if i2 = (-1) then
    Ev (d + 1) mM_told 50 [(2, .int x2), (3, .int x3), (4, .int x4), (5, .int x5), (6, .int x6), (7, .int (x7 + 1))] [] σ1
  else
  if i2 ≤ x2 then
    Ev (d + 1) mM_told 50 [(2, .int x2), (3, .int x3), (4, .int x4), (5, .int (x5 + 1)), (6, .int x7), (7, .int (x7 + 1))] [] σ1
  else
  Ev (d + 1) mM_told 50 [(2, .int x2), (3, .int x3), (4, .int x4), (5, .int x5), (6, .int x6), (7, .int (x7 + 1))] [] σ1 := (Ev_blk d mM_told 19 _ _ _ _).trans rfl
set_option maxRecDepth 100000 in
theorem q_M_areEven (d : Nat) (a0 : Nat) (a1 : Int32) (σ : Mem) : EC (d + 1) mM_areEven [.ref a0, .int a1] σ =
  Ev (d + 1) mM_areEven 4 [(0, .ref a0), (1, .int a1), (2, .int 1), (3, .int 0)] [] σ := (Ev_blk d mM_areEven 5 _ _ _ _).trans rfl
set_option maxRecDepth 100000 in
theorem q_M_areEven_4 (d : Nat) (x0 : Nat) (x1 : Int32) (x2 : Int32) (x3 : Int32) (σ : Mem) : Ev (d + 1) mM_areEven 4 [(0, .ref x0), (1, .int x1), (2, .int x2), (3, .int x3)] [] σ =
  if x1 ≤ x3 then
    bif okZ x2 then some (some (.int x2), σ) else none
  else
  if x2 = 0 then
    Ev (d + 1) mM_areEven 4 [(0, .ref x0), (1, .int x1), (2, .int 0), (3, .int (x3 + 1))] [] σ
  else
  hO (gR σ 9 x0 37) fun r1 =>
  hO (lI σ r1 x3) fun i2 =>
  if i2 = 0 then
    Ev (d + 1) mM_areEven 4 [(0, .ref x0), (1, .int x1), (2, .int 1), (3, .int (x3 + 1))] [] σ
  else
  Ev (d + 1) mM_areEven 4 [(0, .ref x0), (1, .int x1), (2, .int 0), (3, .int (x3 + 1))] [] σ := (Ev_blk d mM_areEven 16 _ _ _ _).trans rfl
set_option maxRecDepth 100000 in
theorem q_M_triesGroup (d : Nat) (a0 : Nat) (a1 : Int32) (a2 : Int32) (σ : Mem) : EC (d + 1) mM_triesGroup [.ref a0, .int a1, .int a2] σ =
  hO (gR σ 9 a0 2) fun r1 =>
  hO (lI σ r1 99) fun i2 =>
  if a1 = i2 then
    hO (gI σ 9 a0 38) fun i3 =>
    if a2 ≤ i3 then
      some (none, σ)
    else
    bif isC σ 9 a0 then hI (EC d mM_areEven [.ref a0, .int a2] σ) fun i5 σ4 =>
    if i5 = 0 then
      some (none, σ4)
    else
    hO (pF σ4 9 a0 38 (.int a2)) fun σ6 =>
    Ev (d + 1) mM_triesGroup 35 [(0, .ref a0), (1, .int a1), (3, .int 0)] [] σ6
    else none
  else
  hO (gR σ 9 a0 34) fun r7 =>
  hO (sI σ r7 a1 100) fun σ8 =>
  hO (gR σ8 9 a0 36) fun r9 =>
  hO (lI σ8 r9 a1) fun i10 =>
  if i10 = 0 then
    bif isC σ8 9 a0 then hV (EC d mM_triesGroup [.ref a0, .int (a1 + (1 : Int32)), .int a2] σ8) fun σ11 =>
    some (none, σ11)
    else none
  else
  Ev (d + 1) mM_triesGroup 87 [(0, .ref a0), (1, .int a1), (2, .int a2), (3, .int 0)] [] σ8 := (Ev_blk d mM_triesGroup 24 _ _ _ _).trans rfl
set_option maxRecDepth 100000 in
theorem q_M_triesGroup_35 (d : Nat) (x0 : Nat) (x1 : Int32) (x3 : Int32) (σ : Mem) : Ev (d + 1) mM_triesGroup 35 [(0, .ref x0), (1, .int x1), (3, .int x3)] [] σ =
  if x1 ≤ x3 then
    some (none, σ)
  else
  hO (gR σ 9 x0 35) fun r1 =>
  hO (gR σ 9 x0 34) fun r2 =>
  hO (lI σ r2 x3) fun i3 =>
  hO (sI σ r1 x3 i3) fun σ4 =>
  Ev (d + 1) mM_triesGroup 35 [(0, .ref x0), (1, .int x1), (3, .int (x3 + 1))] [] σ4 := (Ev_blk d mM_triesGroup 14 _ _ _ _).trans rfl
set_option maxRecDepth 100000 in
theorem q_M_triesGroup_87 (d : Nat) (x0 : Nat) (x1 : Int32) (x2 : Int32) (x3 : Int32) (σ : Mem) : Ev (d + 1) mM_triesGroup 87 [(0, .ref x0), (1, .int x1), (2, .int x2), (3, .int x3)] [] σ =
  if x2 < x3 then
    some (none, σ)
  else
  hO (gR σ 9 x0 34) fun r1 =>
  hO (sI σ r1 x1 x3) fun σ2 =>
  hO (gR σ2 9 x0 37) fun r3 =>
  hO (gR σ2 9 x0 36) fun r4 =>
  hO (lI σ2 r4 x1) fun i5 =>
  if x2 ≤ x3 then
    hO (sI σ2 r3 x3 (i5 + (0 : Int32))) fun σ6 =>
    if x3 = x2 then
      bif isC σ6 9 x0 then hV (EC d mM_triesGroup [.ref x0, .int (x1 + (1 : Int32)), .int (x2 + (1 : Int32))] σ6) fun σ7 =>
      hO (gR σ7 9 x0 37) fun r8 =>
      hO (lI σ7 r8 x3) fun i9 =>
      hO (gR σ7 9 x0 36) fun r10 =>
      hO (lI σ7 r10 x1) fun i11 =>
      hO (sI σ7 r8 x3 (i9 - i11)) fun σ12 =>
      Ev (d + 1) mM_triesGroup 87 [(0, .ref x0), (1, .int x1), (2, .int x2), (3, .int (x3 + 1))] [] σ12
      else none
    else
    bif isC σ6 9 x0 then hV (EC d mM_triesGroup [.ref x0, .int (x1 + (1 : Int32)), .int x2] σ6) fun σ13 =>
    hO (gR σ13 9 x0 37) fun r14 =>
    hO (lI σ13 r14 x3) fun i15 =>
    hO (gR σ13 9 x0 36) fun r16 =>
    hO (lI σ13 r16 x1) fun i17 =>
    hO (sI σ13 r14 x3 (i15 - i17)) fun σ18 =>
    Ev (d + 1) mM_triesGroup 87 [(0, .ref x0), (1, .int x1), (2, .int x2), (3, .int (x3 + 1))] [] σ18
    else none
  else
  hO (gR σ2 9 x0 37) fun r19 =>
  hO (lI σ2 r19 x3) fun i20 =>
  hO (sI σ2 r3 x3 (i5 + i20)) fun σ21 =>
  if x3 = x2 then
    bif isC σ21 9 x0 then hV (EC d mM_triesGroup [.ref x0, .int (x1 + (1 : Int32)), .int (x2 + (1 : Int32))] σ21) fun σ22 =>
    hO (gR σ22 9 x0 37) fun r23 =>
    hO (lI σ22 r23 x3) fun i24 =>
    hO (gR σ22 9 x0 36) fun r25 =>
    hO (lI σ22 r25 x1) fun i26 =>
    hO (sI σ22 r23 x3 (i24 - i26)) fun σ27 =>
    Ev (d + 1) mM_triesGroup 87 [(0, .ref x0), (1, .int x1), (2, .int x2), (3, .int (x3 + 1))] [] σ27
    else none
  else
  bif isC σ21 9 x0 then hV (EC d mM_triesGroup [.ref x0, .int (x1 + (1 : Int32)), .int x2] σ21) fun σ28 =>
  hO (gR σ28 9 x0 37) fun r29 =>
  hO (lI σ28 r29 x3) fun i30 =>
  hO (gR σ28 9 x0 36) fun r31 =>
  hO (lI σ28 r31 x1) fun i32 =>
  hO (sI σ28 r29 x3 (i30 - i32)) fun σ33 =>
  Ev (d + 1) mM_triesGroup 87 [(0, .ref x0), (1, .int x1), (2, .int x2), (3, .int (x3 + 1))] [] σ33
  else none := (Ev_blk d mM_triesGroup 51 _ _ _ _).trans rfl
set_option maxRecDepth 100000 in
theorem q_M_laysNets (d : Nat) (a0 : Nat) (σ : Mem) : EC (d + 1) mM_laysNets [.ref a0] σ =
  Ev (d + 1) mM_laysNets 4 [(0, .ref a0), (1, .int 0), (2, .int 0)] [] σ := (Ev_blk d mM_laysNets 5 _ _ _ _).trans rfl
set_option maxRecDepth 100000 in
theorem q_M_laysNets_4 (d : Nat) (x0 : Nat) (x1 : Int32) (x2 : Int32) (σ : Mem) : Ev (d + 1) mM_laysNets 4 [(0, .ref x0), (1, .int x1), (2, .int x2)] [] σ =
  hO (gR σ 9 x0 2) fun r1 =>
  hO (lI σ r1 99) fun i2 =>
  if i2 ≤ x2 then
    some (some (.int x1), σ)
  else
  hO (gR σ 9 x0 36) fun r3 =>
  bif isC σ 9 x0 then hI (EC d mM_netOf [.ref x0, .int x2] σ) fun i5 σ4 =>
  hO (sI σ4 r3 x2 i5) fun σ6 =>
  hO (gR σ6 9 x0 36) fun r7 =>
  hO (lI σ6 r7 x2) fun i8 =>
  if i8 = 0 then
    Ev (d + 1) mM_laysNets 4 [(0, .ref x0), (1, .int (x1 + (0 : Int32))), (2, .int (x2 + 1))] [] σ6
  else
  Ev (d + 1) mM_laysNets 4 [(0, .ref x0), (1, .int (x1 + (1 : Int32))), (2, .int (x2 + 1))] [] σ6
  else none := (Ev_blk d mM_laysNets 26 _ _ _ _).trans rfl
set_option maxRecDepth 100000 in
theorem q_M_settle (d : Nat) (a0 : Nat) (a1 : Int32) (σ : Mem) : EC (d + 1) mM_settle [.ref a0, .int a1] σ =
  hO (gR σ 9 a0 2) fun r1 =>
  hO (lI σ r1 99) fun i2 =>
  hI (EC d mM_lies [.int a1, .int 0, .int i2] σ) fun i4 σ3 =>
  if i4 = 0 then
    some (some (.int (-1)), σ3)
  else
  bif isC σ3 9 a0 then hI (EC d mM_laysNets [.ref a0] σ3) fun i6 σ5 =>
  hO (pF σ5 9 a0 38 (.int (-1))) fun σ7 =>
  bif isC σ7 9 a0 then hV (EC d mM_triesGroup [.ref a0, .int 0, .int 0] σ7) fun σ8 =>
  if a1 = 0 then
    hO (gI σ8 9 a0 38) fun i9 =>
    some (some (.int (i6 - i9)), σ8)
  else
  hO (gR σ8 9 a0 35) fun r10 =>
  hO (lI σ8 r10 (a1 - (1 : Int32))) fun i11 =>
  some (some (.int i11), σ8)
  else none
  else none := (Ev_blk d mM_settle 28 _ _ _ _).trans rfl
set_option maxRecDepth 100000 in
theorem q_M_comesRound (d : Nat) (a0 : Nat) (a1 : Int32) (a2 : Int32) (a3 : Int32) (σ : Mem) : EC (d + 1) mM_comesRound [.ref a0, .int a1, .int a2, .int a3] σ =
  hO (gR σ 9 a0 2) fun r1 =>
  hO (gR σ 9 a0 39) fun r2 =>
  hO (lI σ r2 (a1 - (1 : Int32))) fun i3 =>
  hO (lI σ r1 ((6 : Int32) + i3)) fun i4 =>
  if a1 = a2 then
    hO (gR σ 9 a0 2) fun r5 =>
    hO (gR σ 9 a0 39) fun r6 =>
    hO (lI σ r6 0) fun i7 =>
    hO (lI σ r5 ((37 : Int32) + i7)) fun i8 =>
    if i4 = i8 then
      some (some (.int 1), σ)
    else
    some (some (.int 0), σ)
  else
  hO (gR σ 9 a0 39) fun r9 =>
  hO (lI σ r9 0) fun i10 =>
  Ev (d + 1) mM_comesRound 58 [(0, .ref a0), (1, .int a1), (2, .int a2), (3, .int a3), (4, .int i4), (5, .int (i10 + (1 : Int32)))] [] σ := (Ev_blk d mM_comesRound 30 _ _ _ _).trans rfl
set_option maxRecDepth 100000 in
theorem q_M_comesRound_58 (d : Nat) (x0 : Nat) (x1 : Int32) (x2 : Int32) (x3 : Int32) (x4 : Int32) (x5 : Int32) (σ : Mem) : Ev (d + 1) mM_comesRound 58 [(0, .ref x0), (1, .int x1), (2, .int x2), (3, .int x3), (4, .int x4), (5, .int x5)] [] σ =
  hO (gR σ 9 x0 2) fun r1 =>
  hO (lI σ r1 100) fun i2 =>
  if i2 ≤ x5 then
    some (some (.int 0), σ)
  else
  bif isC σ 9 x0 then hI (EC d mM_isPaid [.ref x0, .int x5] σ) fun i4 σ3 =>
  if i4 = 0 then
    hO (gR σ3 9 x0 2) fun r5 =>
    hO (lI σ3 r5 ((37 : Int32) + x5)) fun i6 =>
    if i6 = x4 then
      hI (EC d mM_isIn [.int x3, .int x4] σ3) fun i8 σ7 =>
      if i8 = 0 then
        hO (gR σ7 9 x0 39) fun r9 =>
        hO (sI σ7 r9 x1 x5) fun σ10 =>
        bif isC σ10 9 x0 then hI (EC d mM_comesRound [.ref x0, .int (x1 + (1 : Int32)), .int x2, .int (x3 ||| ((1 : Int32) <<< (x4 &&& 31)))] σ10) fun i12 σ11 =>
        if i12 = 0 then
          Ev (d + 1) mM_comesRound 58 [(0, .ref x0), (1, .int x1), (2, .int x2), (3, .int x3), (4, .int x4), (5, .int (x5 + 1))] [] σ11
        else
        some (some (.int 1), σ11)
        else none
      else
      Ev (d + 1) mM_comesRound 58 [(0, .ref x0), (1, .int x1), (2, .int x2), (3, .int x3), (4, .int x4), (5, .int (x5 + 1))] [] σ7
    else
    Ev (d + 1) mM_comesRound 58 [(0, .ref x0), (1, .int x1), (2, .int x2), (3, .int x3), (4, .int x4), (5, .int (x5 + 1))] [] σ3
  else
  Ev (d + 1) mM_comesRound 58 [(0, .ref x0), (1, .int x1), (2, .int x2), (3, .int x3), (4, .int x4), (5, .int (x5 + 1))] [] σ3
  else none := (Ev_blk d mM_comesRound 42 _ _ _ _).trans rfl
set_option maxRecDepth 100000 in
theorem q_M_hasRing (d : Nat) (a0 : Nat) (a1 : Int32) (σ : Mem) : EC (d + 1) mM_hasRing [.ref a0, .int a1] σ =
  Ev (d + 1) mM_hasRing 2 [(0, .ref a0), (1, .int a1), (2, .int 0)] [] σ := (Ev_blk d mM_hasRing 3 _ _ _ _).trans rfl
set_option maxRecDepth 100000 in
theorem q_M_hasRing_2 (d : Nat) (x0 : Nat) (x1 : Int32) (x2 : Int32) (σ : Mem) : Ev (d + 1) mM_hasRing 2 [(0, .ref x0), (1, .int x1), (2, .int x2)] [] σ =
  hO (gR σ 9 x0 2) fun r1 =>
  hO (lI σ r1 100) fun i2 =>
  if i2 ≤ x2 then
    some (some (.int 0), σ)
  else
  hO (gR σ 9 x0 39) fun r3 =>
  hO (sI σ r3 0 x2) fun σ4 =>
  bif isC σ4 9 x0 then hI (EC d mM_isPaid [.ref x0, .int x2] σ4) fun i6 σ5 =>
  if i6 = 0 then
    hO (gR σ5 9 x0 2) fun r7 =>
    hO (lI σ5 r7 ((37 : Int32) + x2)) fun i8 =>
    bif isC σ5 9 x0 then hI (EC d mM_comesRound [.ref x0, .int 1, .int x1, .int ((1 : Int32) <<< (i8 &&& 31))] σ5) fun i10 σ9 =>
    if i10 = 0 then
      Ev (d + 1) mM_hasRing 2 [(0, .ref x0), (1, .int x1), (2, .int (x2 + 1))] [] σ9
    else
    some (some (.int 1), σ9)
    else none
  else
  Ev (d + 1) mM_hasRing 2 [(0, .ref x0), (1, .int x1), (2, .int (x2 + 1))] [] σ5
  else none := (Ev_blk d mM_hasRing 31 _ _ _ _).trans rfl
set_option maxRecDepth 100000 in
theorem q_M_ring (d : Nat) (a0 : Nat) (a1 : Int32) (σ : Mem) : EC (d + 1) mM_ring [.ref a0, .int a1] σ =
  if 0 ≤ a1 then
    Ev (d + 1) mM_ring 8 [(0, .ref a0), (1, .int a1), (2, .int 2)] [] σ
  else
  some (some (.int (-1)), σ) := (Ev_blk d mM_ring 5 _ _ _ _).trans rfl
set_option maxRecDepth 100000 in
theorem q_M_ring_8 (d : Nat) (x0 : Nat) (x1 : Int32) (x2 : Int32) (σ : Mem) : Ev (d + 1) mM_ring 8 [(0, .ref x0), (1, .int x1), (2, .int x2)] [] σ =
  hO (gR σ 9 x0 2) fun r1 =>
  hO (lI σ r1 99) fun i2 =>
  if i2 < x2 then
    hO (gR σ 9 x0 2) fun r3 =>
    hO (lI σ r3 99) fun i4 =>
    if i4 < x2 then
      some (some (.int (-1)), σ)
    else
    if x1 ≤ x2 then
      if x1 = 0 then
        some (some (.int x2), σ)
      else
      hO (gR σ 9 x0 39) fun r5 =>
      hO (lI σ r5 (x1 - (1 : Int32))) fun i6 =>
      some (some (.int i6), σ)
    else
    some (some (.int (-1)), σ)
  else
  bif isC σ 9 x0 then hI (EC d mM_hasRing [.ref x0, .int x2] σ) fun i8 σ7 =>
  if i8 = 0 then
    Ev (d + 1) mM_ring 8 [(0, .ref x0), (1, .int x1), (2, .int (x2 + 1))] [] σ7
  else
  hO (gR σ7 9 x0 2) fun r9 =>
  hO (lI σ7 r9 99) fun i10 =>
  if i10 < x2 then
    some (some (.int (-1)), σ7)
  else
  if x1 ≤ x2 then
    if x1 = 0 then
      some (some (.int x2), σ7)
    else
    hO (gR σ7 9 x0 39) fun r11 =>
    hO (lI σ7 r11 (x1 - (1 : Int32))) fun i12 =>
    some (some (.int i12), σ7)
  else
  some (some (.int (-1)), σ7)
  else none := (Ev_blk d mM_ring 29 _ _ _ _).trans rfl
set_option maxRecDepth 100000 in
theorem q_M_chain (d : Nat) (a0 : Nat) (a1 : Int32) (a2 : Int32) (σ : Mem) : EC (d + 1) mM_chain [.ref a0, .int a1, .int a2] σ =
  bif isC σ 9 a0 then hI (EC d mM_isPerson [.ref a0, .int a1] σ) fun i2 σ1 =>
  if i2 = 0 then
    some (some (.int (-1)), σ1)
  else
  bif isC σ1 9 a0 then hI (EC d mM_isPerson [.ref a0, .int a2] σ1) fun i4 σ3 =>
  if i4 = 0 then
    some (some (.int (-1)), σ3)
  else
  if a1 = a2 then
    some (some (.int (-1)), σ3)
  else
  Ev (d + 1) mM_chain 30 [(0, .ref a0), (2, .int a2), (3, .int ((1 : Int32) <<< (a1 &&& 31))), (4, .int 1)] [] σ3
  else none
  else none := (Ev_blk d mM_chain 18 _ _ _ _).trans rfl
set_option maxRecDepth 100000 in
theorem q_M_chain_30 (d : Nat) (x0 : Nat) (x2 : Int32) (x3 : Int32) (x4 : Int32) (σ : Mem) : Ev (d + 1) mM_chain 30 [(0, .ref x0), (2, .int x2), (3, .int x3), (4, .int x4)] [] σ =
  hO (gR σ 9 x0 2) fun r1 =>
  hO (lI σ r1 99) fun i2 =>
  if i2 ≤ x4 then
    some (some (.int (-1)), σ)
  else
  Ev (d + 1) mM_chain 48 [(0, .ref x0), (2, .int x2), (3, .int x3), (4, .int x4), (5, .int x3), (6, .int 0)] [] σ := (Ev_blk d mM_chain 11 _ _ _ _).trans rfl
set_option maxRecDepth 100000 in
theorem q_M_chain_48 (d : Nat) (x0 : Nat) (x2 : Int32) (x3 : Int32) (x4 : Int32) (x5 : Int32) (x6 : Int32) (σ : Mem) : Ev (d + 1) mM_chain 48 [(0, .ref x0), (2, .int x2), (3, .int x3), (4, .int x4), (5, .int x5), (6, .int x6)] [] σ =
  hO (gR σ 9 x0 2) fun r1 =>
  hO (lI σ r1 100) fun i2 =>
  if i2 ≤ x6 then
    hI (EC d mM_isIn [.int x5, .int x2] σ) fun i4 σ3 =>
    if i4 = 0 then
      Ev (d + 1) mM_chain 30 [(0, .ref x0), (2, .int x2), (3, .int x5), (4, .int (x4 + 1))] [] σ3
    else
    some (some (.int x4), σ3)
  else
  bif isC σ 9 x0 then hI (EC d mM_isPaid [.ref x0, .int x6] σ) fun i6 σ5 =>
  if i6 = 0 then
    hO (gR σ5 9 x0 2) fun r7 =>
    hO (lI σ5 r7 ((37 : Int32) + x6)) fun i8 =>
    hI (EC d mM_isIn [.int x3, .int i8] σ5) fun i10 σ9 =>
    if i10 = 0 then
      Ev (d + 1) mM_chain 48 [(0, .ref x0), (2, .int x2), (3, .int x3), (4, .int x4), (5, .int (x5 ||| (0 : Int32))), (6, .int (x6 + 1))] [] σ9
    else
    hO (gR σ9 9 x0 2) fun r11 =>
    hO (lI σ9 r11 ((6 : Int32) + x6)) fun i12 =>
    Ev (d + 1) mM_chain 48 [(0, .ref x0), (2, .int x2), (3, .int x3), (4, .int x4), (5, .int (x5 ||| ((1 : Int32) <<< (i12 &&& 31)))), (6, .int (x6 + 1))] [] σ9
  else
  Ev (d + 1) mM_chain 48 [(0, .ref x0), (2, .int x2), (3, .int x3), (4, .int x4), (5, .int (x5 ||| (0 : Int32))), (6, .int (x6 + 1))] [] σ5
  else none := (Ev_blk d mM_chain 34 _ _ _ _).trans rfl
set_option maxRecDepth 100000 in
theorem q_M_triesCall (d : Nat) (a0 : Nat) (a1 : Int32) (σ : Mem) : EC (d + 1) mM_triesCall [.ref a0, .int a1] σ =
  hO (gI σ 9 a0 42) fun i1 =>
  if a1 ≤ i1 then
    if a1 = 7 then
      some (none, σ)
    else
    bif isC σ 9 a0 then hV (EC d mM_laysAside [.ref a0, .int a1] σ) fun σ2 =>
    Ev (d + 1) mM_triesCall 52 [(0, .ref a0), (1, .int a1), (2, .int 0)] [] σ2
    else none
  else
  hO (pF σ 9 a0 42 (.int a1)) fun σ3 =>
  Ev (d + 1) mM_triesCall 15 [(0, .ref a0), (1, .int a1), (2, .int 0)] [] σ3 := (Ev_blk d mM_triesCall 13 _ _ _ _).trans rfl
set_option maxRecDepth 100000 in
theorem q_M_triesCall_15 (d : Nat) (x0 : Nat) (x1 : Int32) (x2 : Int32) (σ : Mem) : Ev (d + 1) mM_triesCall 15 [(0, .ref x0), (1, .int x1), (2, .int x2)] [] σ =
  if x1 ≤ x2 then
    if x1 = 7 then
      some (none, σ)
    else
    bif isC σ 9 x0 then hV (EC d mM_laysAside [.ref x0, .int x1] σ) fun σ1 =>
    Ev (d + 1) mM_triesCall 52 [(0, .ref x0), (1, .int x1), (2, .int 0)] [] σ1
    else none
  else
  hO (gR σ 9 x0 41) fun r2 =>
  hO (gR σ 9 x0 40) fun r3 =>
  hO (lI σ r3 x2) fun i4 =>
  hO (sI σ r2 x2 i4) fun σ5 =>
  Ev (d + 1) mM_triesCall 15 [(0, .ref x0), (1, .int x1), (2, .int (x2 + 1))] [] σ5 := (Ev_blk d mM_triesCall 14 _ _ _ _).trans rfl
set_option maxRecDepth 100000 in
theorem q_M_triesCall_52 (d : Nat) (x0 : Nat) (x1 : Int32) (x2 : Int32) (σ : Mem) : Ev (d + 1) mM_triesCall 52 [(0, .ref x0), (1, .int x1), (2, .int x2)] [] σ =
  hO (gR σ 9 x0 2) fun r1 =>
  hO (lI σ r1 100) fun i2 =>
  if i2 ≤ x2 then
    some (none, σ)
  else
  bif isC σ 9 x0 then hI (EC d mM_canCall [.ref x0, .int x2] σ) fun i4 σ3 =>
  if i4 = 0 then
    Ev (d + 1) mM_triesCall 52 [(0, .ref x0), (1, .int x1), (2, .int (x2 + 1))] [] σ3
  else
  hO (gR σ3 9 x0 40) fun r5 =>
  hO (sI σ3 r5 x1 x2) fun σ6 =>
  bif isC σ6 9 x0 then hI (EC d mM_calls0 [.ref x0, .int x2] σ6) fun i8 σ7 =>
  bif isC σ7 9 x0 then hV (EC d mM_triesCall [.ref x0, .int (x1 + (1 : Int32))] σ7) fun σ9 =>
  bif isC σ9 9 x0 then hV (EC d mM_takesBack [.ref x0, .int x1] σ9) fun σ10 =>
  Ev (d + 1) mM_triesCall 52 [(0, .ref x0), (1, .int x1), (2, .int (x2 + 1))] [] σ10
  else none
  else none
  else none
  else none := (Ev_blk d mM_triesCall 30 _ _ _ _).trans rfl
set_option maxRecDepth 100000 in
theorem q_M_manyDue (d : Nat) (a0 : Nat) (σ : Mem) : EC (d + 1) mM_manyDue [.ref a0] σ =
  Ev (d + 1) mM_manyDue 4 [(0, .ref a0), (1, .int 0), (2, .int 0)] [] σ := (Ev_blk d mM_manyDue 5 _ _ _ _).trans rfl
set_option maxRecDepth 100000 in
theorem q_M_manyDue_4 (d : Nat) (x0 : Nat) (x1 : Int32) (x2 : Int32) (σ : Mem) : Ev (d + 1) mM_manyDue 4 [(0, .ref x0), (1, .int x1), (2, .int x2)] [] σ =
  hO (gR σ 9 x0 2) fun r1 =>
  hO (lI σ r1 100) fun i2 =>
  if i2 ≤ x2 then
    some (some (.int x1), σ)
  else
  bif isC σ 9 x0 then hI (EC d mM_isDue [.ref x0, .int x2] σ) fun i4 σ3 =>
  if i4 = 0 then
    Ev (d + 1) mM_manyDue 4 [(0, .ref x0), (1, .int (x1 + (0 : Int32))), (2, .int (x2 + 1))] [] σ3
  else
  Ev (d + 1) mM_manyDue 4 [(0, .ref x0), (1, .int (x1 + (1 : Int32))), (2, .int (x2 + 1))] [] σ3
  else none := (Ev_blk d mM_manyDue 18 _ _ _ _).trans rfl
set_option maxRecDepth 100000 in
theorem q_M_calls (d : Nat) (a0 : Nat) (a1 : Int32) (σ : Mem) : EC (d + 1) mM_calls [.ref a0, .int a1] σ =
  if (-1) ≤ a1 then
    bif isC σ 9 a0 then hI (EC d mM_manyDue [.ref a0] σ) fun i2 σ1 =>
    if i2 ≤ 7 then
      hO (pF σ1 9 a0 42 (.int (-1))) fun σ3 =>
      bif isC σ3 9 a0 then hV (EC d mM_triesCall [.ref a0, .int 0] σ3) fun σ4 =>
      if a1 = (-1) then
        hO (gI σ4 9 a0 42) fun i5 =>
        some (some (.int i5), σ4)
      else
      hO (gI σ4 9 a0 42) fun i6 =>
      if i6 ≤ a1 then
        some (some (.int (-1)), σ4)
      else
      hO (gR σ4 9 a0 41) fun r7 =>
      hO (lI σ4 r7 a1) fun i8 =>
      some (some (.int i8), σ4)
      else none
    else
    some (some (.int (-1)), σ1)
    else none
  else
  some (some (.int (-1)), σ) := (Ev_blk d mM_calls 27 _ _ _ _).trans rfl
set_option maxRecDepth 100000 in
theorem q_M_stopped (d : Nat) (a0 : Nat) (σ : Mem) : EC (d + 1) mM_stopped [.ref a0] σ =
  hO (gI σ 9 a0 43) fun i1 =>
  some (some (.int i1), σ) := (Ev_blk d mM_stopped 4 _ _ _ _).trans rfl
set_option maxRecDepth 100000 in
theorem q_M_orders (d : Nat) (a0 : Nat) (σ : Mem) : EC (d + 1) mM_orders [.ref a0] σ =
  hO (pF σ 9 a0 43 (.int (-1))) fun σ1 =>
  bif isC σ1 9 a0 then hI (EC d mM_readsAs [.ref a0, .int 1] σ1) fun i3 σ2 =>
  if i3 = 0 then
    bif isC σ2 9 a0 then hI (EC d mM_refuses [.ref a0, .int (-6)] σ2) fun i5 σ4 =>
    some (some (.int i5), σ4)
    else none
  else
  bif isC σ2 9 a0 then hV (EC d mM_laysAside [.ref a0, .int 7] σ2) fun σ6 =>
  Ev (d + 1) mM_orders 28 [(0, .ref a0), (1, .int 0)] [] σ6
  else none
  else none := (Ev_blk d mM_orders 13 _ _ _ _).trans rfl
set_option maxRecDepth 100000 in
theorem q_M_orders_28 (d : Nat) (x0 : Nat) (x1 : Int32) (σ : Mem) : Ev (d + 1) mM_orders 28 [(0, .ref x0), (1, .int x1)] [] σ =
  if 608 ≤ x1 then
    hO (gI σ 9 x0 31) fun i1 =>
    bif isC σ 9 x0 then hV (EC d mM_lays [.ref x0, .int 6] σ) fun σ2 =>
    hO (pF σ2 9 x0 27 (.int 0)) fun σ3 =>
    hO (pF σ3 9 x0 28 (.int (-1))) fun σ4 =>
    hO (pF σ4 9 x0 44 (.int 2400)) fun σ5 =>
    hO (gI σ5 9 x0 44) fun i6 =>
    hO (gR σ5 9 x0 2) fun r7 =>
    hO (lI σ5 r7 110) fun i8 =>
    Ev (d + 1) mM_orders 96 [(0, .ref x0), (1, .int i1), (2, .int (i6 + i8)), (3, .int 0)] [] σ5
    else none
  else
  hO (gR σ 9 x0 30) fun r9 =>
  hO (gR σ 9 x0 29) fun r10 =>
  hO (lI σ r10 x1) fun i11 =>
  hO (sI σ r9 x1 i11) fun σ12 =>
  Ev (d + 1) mM_orders 28 [(0, .ref x0), (1, .int (x1 + 1))] [] σ12 := (Ev_blk d mM_orders 29 _ _ _ _).trans rfl
set_option maxRecDepth 100000 in
theorem q_M_orders_96 (d : Nat) (x0 : Nat) (x1 : Int32) (x2 : Int32) (x3 : Int32) (σ : Mem) : Ev (d + 1) mM_orders 96 [(0, .ref x0), (1, .int x1), (2, .int x2), (3, .int x3)] [] σ =
  hO (gI σ 9 x0 44) fun i1 =>
  if x2 ≤ i1 then
    hO (gI σ 9 x0 27) fun i2 =>
    bif isC σ 9 x0 then hI (EC d mM_good [.ref x0, .int i2] σ) fun i4 σ3 =>
    some (some (.int i4), σ3)
    else none
  else
  bif isC σ 9 x0 then hI (EC d mM_runs [.ref x0, .int x2] σ) fun i6 σ5 =>
  if i6 = 0 then
    bif isC σ5 9 x0 then hV (EC d mM_takesBack [.ref x0, .int 7] σ5) fun σ7 =>
    Ev (d + 1) mM_orders 124 [(0, .ref x0), (1, .int x1), (3, .int x3), (4, .int 0)] [] σ7
    else none
  else
  Ev (d + 1) mM_orders 96 [(0, .ref x0), (1, .int x1), (2, .int x2), (3, .int (x3 + 1))] [] σ5
  else none := (Ev_blk d mM_orders 14 _ _ _ _).trans rfl
set_option maxRecDepth 100000 in
theorem q_M_orders_124 (d : Nat) (x0 : Nat) (x1 : Int32) (x3 : Int32) (x4 : Int32) (σ : Mem) : Ev (d + 1) mM_orders 124 [(0, .ref x0), (1, .int x1), (3, .int x3), (4, .int x4)] [] σ =
  if 608 ≤ x4 then
    hO (pF σ 9 x0 31 (.int x1)) fun σ1 =>
    hO (pF σ1 9 x0 43 (.int x3)) fun σ2 =>
    bif isC σ2 9 x0 then hI (EC d mM_refuses [.ref x0, .int (-3)] σ2) fun i4 σ3 =>
    some (some (.int i4), σ3)
    else none
  else
  hO (gR σ 9 x0 29) fun r5 =>
  hO (gR σ 9 x0 30) fun r6 =>
  hO (lI σ r6 x4) fun i7 =>
  hO (sI σ r5 x4 i7) fun σ8 =>
  Ev (d + 1) mM_orders 124 [(0, .ref x0), (1, .int x1), (3, .int x3), (4, .int (x4 + 1))] [] σ8 := (Ev_blk d mM_orders 14 _ _ _ _).trans rfl
set_option maxRecDepth 100000 in
theorem q_M_goesAlong (d : Nat) (a0 : Nat) (a1 : Int32) (a2 : Int32) (σ : Mem) : EC (d + 1) mM_goesAlong [.ref a0, .int a1, .int a2] σ =
  hO (pF σ 9 a0 25 (.int 1)) fun σ1 =>
  hO (pF σ1 9 a0 23 (.int a1)) fun σ2 =>
  hO (gI σ2 9 a0 44) fun i3 =>
  hO (pF σ2 9 a0 22 (.int i3)) fun σ4 =>
  hO (gI σ4 9 a0 22) fun i5 =>
  bif isC σ4 9 a0 then hI (EC d mM_codeAt [.ref a0, .int i5] σ4) fun i7 σ6 =>
  hO (pF σ6 9 a0 46 (.int i7)) fun σ8 =>
  hO (gI σ8 9 a0 22) fun i9 =>
  hO (pF σ8 9 a0 22 (.int (i9 + (1 : Int32)))) fun σ10 =>
  hO (pF σ10 9 a0 47 (.int 1)) fun σ11 =>
  hO (gI σ11 9 a0 46) fun i12 =>
  if i12 = 24 then
    Ev (d + 1) mM_goesAlong 76 [(0, .ref a0), (2, .int a2), (3, .int 0), (4, .int 0)] [] σ11
  else
  hO (gI σ11 9 a0 46) fun i13 =>
  if i13 = 21 then
    Ev (d + 1) mM_goesAlong 76 [(0, .ref a0), (2, .int a2), (3, .int 1), (4, .int 0)] [] σ11
  else
  Ev (d + 1) mM_goesAlong 76 [(0, .ref a0), (2, .int a2), (3, .int 2), (4, .int 0)] [] σ11
  else none := (Ev_blk d mM_goesAlong 39 _ _ _ _).trans rfl
set_option maxRecDepth 100000 in
theorem q_M_goesAlong_76 (d : Nat) (x0 : Nat) (x2 : Int32) (x3 : Int32) (x4 : Int32) (σ : Mem) : Ev (d + 1) mM_goesAlong 76 [(0, .ref x0), (2, .int x2), (3, .int x3), (4, .int x4)] [] σ =
  if x3 ≤ x4 then
    hO (pF σ 9 x0 45 (.int 1)) fun σ1 =>
    bif isC σ1 9 x0 then hI (EC d mM_passes0 [.ref x0, .int 25] σ1) fun i3 σ2 =>
    if i3 = 0 then
      Ev (d + 1) mM_goesAlong 184 [(0, .ref x0), (2, .int x2)] [] σ2
    else
    hO (gR σ2 9 x0 2) fun r4 =>
    hO (gI σ2 9 x0 22) fun i5 =>
    hO (lI σ2 r4 ((2911 : Int32) + i5)) fun i6 =>
    hO (pF σ2 9 x0 45 (.int i6)) fun σ7 =>
    hO (gI σ7 9 x0 22) fun i8 =>
    hO (pF σ7 9 x0 22 (.int (i8 + (1 : Int32)))) fun σ9 =>
    Ev (d + 1) mM_goesAlong 184 [(0, .ref x0), (2, .int x2)] [] σ9
    else none
  else
  if x4 ≤ 0 then
    hO (pF σ 9 x0 24 (.int 0)) fun σ10 =>
    hO (gR σ10 9 x0 49) fun r11 =>
    bif isC σ10 9 x0 then hL (EC d mM_sumOf [.ref x0, .int x2] σ10) fun l13 σ12 =>
    hO (sL σ12 r11 x4 l13) fun σ14 =>
    hO (gI σ14 9 x0 47) fun i15 =>
    if i15 = 0 then
      hO (pF σ14 9 x0 47 (.int 0)) fun σ16 =>
      Ev (d + 1) mM_goesAlong 76 [(0, .ref x0), (2, .int x2), (3, .int x3), (4, .int (x4 + 1))] [] σ16
    else
    hO (gI σ14 9 x0 24) fun i17 =>
    if i17 = 0 then
      hO (pF σ14 9 x0 47 (.int 1)) fun σ18 =>
      Ev (d + 1) mM_goesAlong 76 [(0, .ref x0), (2, .int x2), (3, .int x3), (4, .int (x4 + 1))] [] σ18
    else
    hO (pF σ14 9 x0 47 (.int 0)) fun σ19 =>
    Ev (d + 1) mM_goesAlong 76 [(0, .ref x0), (2, .int x2), (3, .int x3), (4, .int (x4 + 1))] [] σ19
    else none
  else
  hO (gI σ 9 x0 22) fun i20 =>
  hO (pF σ 9 x0 22 (.int (i20 + (1 : Int32)))) fun σ21 =>
  hO (pF σ21 9 x0 24 (.int 0)) fun σ22 =>
  hO (gR σ22 9 x0 49) fun r23 =>
  bif isC σ22 9 x0 then hL (EC d mM_sumOf [.ref x0, .int x2] σ22) fun l25 σ24 =>
  hO (sL σ24 r23 x4 l25) fun σ26 =>
  hO (gI σ26 9 x0 47) fun i27 =>
  if i27 = 0 then
    hO (pF σ26 9 x0 47 (.int 0)) fun σ28 =>
    Ev (d + 1) mM_goesAlong 76 [(0, .ref x0), (2, .int x2), (3, .int x3), (4, .int (x4 + 1))] [] σ28
  else
  hO (gI σ26 9 x0 24) fun i29 =>
  if i29 = 0 then
    hO (pF σ26 9 x0 47 (.int 1)) fun σ30 =>
    Ev (d + 1) mM_goesAlong 76 [(0, .ref x0), (2, .int x2), (3, .int x3), (4, .int (x4 + 1))] [] σ30
  else
  hO (pF σ26 9 x0 47 (.int 0)) fun σ31 =>
  Ev (d + 1) mM_goesAlong 76 [(0, .ref x0), (2, .int x2), (3, .int x3), (4, .int (x4 + 1))] [] σ31
  else none := (Ev_blk d mM_goesAlong 34 _ _ _ _).trans rfl
set_option maxRecDepth 100000 in
theorem q_M_goesAlong_184 (d : Nat) (x0 : Nat) (x2 : Int32) (σ : Mem) : Ev (d + 1) mM_goesAlong 184 [(0, .ref x0), (2, .int x2)] [] σ =
  hO (pF σ 9 x0 24 (.int 0)) fun σ1 =>
  bif isC σ1 9 x0 then hI (EC d mM_passes0 [.ref x0, .int 4] σ1) fun i3 σ2 =>
  if i3 = 0 then
    Ev (d + 1) mM_goesAlong 211 [(0, .ref x0)] [.int 1, .ref x0] σ2
  else
  bif isC σ2 9 x0 then hI (EC d mM_testOf [.ref x0, .int x2] σ2) fun i5 σ4 =>
  if i5 = 0 then
    Ev (d + 1) mM_goesAlong 211 [(0, .ref x0)] [.int 0, .ref x0] σ4
  else
  Ev (d + 1) mM_goesAlong 211 [(0, .ref x0)] [.int 1, .ref x0] σ4
  else none
  else none := (Ev_blk d mM_goesAlong 15 _ _ _ _).trans rfl
set_option maxRecDepth 100000 in
theorem q_M_goesAlong_211 (d : Nat) (x0 : Nat) (y0 : Int32) (y1 : Nat) (σ : Mem) : Ev (d + 1) mM_goesAlong 211 [(0, .ref x0)] [.int y0, .ref y1] σ =
  bif okZ y0 then hO (pF σ 9 y1 48 (.int y0)) fun σ1 =>
  hO (gI σ1 9 x0 48) fun i2 =>
  if i2 = 0 then
    hO (pF σ1 9 x0 48 (.int 0)) fun σ3 =>
    hO (gI σ3 9 x0 22) fun i4 =>
    hO (pF σ3 9 x0 22 (.int (i4 + (1 : Int32)))) fun σ5 =>
    some (none, σ5)
  else
  hO (gI σ1 9 x0 24) fun i6 =>
  if i6 = 0 then
    hO (pF σ1 9 x0 48 (.int 1)) fun σ7 =>
    hO (gI σ7 9 x0 22) fun i8 =>
    hO (pF σ7 9 x0 22 (.int (i8 + (1 : Int32)))) fun σ9 =>
    some (none, σ9)
  else
  hO (pF σ1 9 x0 48 (.int 0)) fun σ10 =>
  hO (gI σ10 9 x0 22) fun i11 =>
  hO (pF σ10 9 x0 22 (.int (i11 + (1 : Int32)))) fun σ12 =>
  some (none, σ12)
  else none := (Ev_blk d mM_goesAlong 19 _ _ _ _).trans rfl
set_option maxRecDepth 100000 in
theorem q_M_small (d : Nat) (a0 : Int64) (σ : Mem) : EC (d + 1) mM_small [.long a0] σ =
  if ((lg_cmp a0 0) : Int32) < 0 then
    some (some (.int (-1)), σ)
  else
  if ((lg_cmp a0 1000000) : Int32) ≤ 0 then
    some (some (.int (Int64.toInt32 a0)), σ)
  else
  some (some (.int (-1)), σ) := (Ev_blk d mM_small 12 _ _ _ _).trans rfl
set_option maxRecDepth 100000 in
theorem q_M_obeys (d : Nat) (a0 : Nat) (σ : Mem) : EC (d + 1) mM_obeys [.ref a0] σ =
  hO (gR σ 9 a0 49) fun r1 =>
  hO (lL σ r1 0) fun l2 =>
  hI (EC d mM_small [.long l2] σ) fun i4 σ3 =>
  hO (gR σ3 9 a0 49) fun r5 =>
  hO (lL σ3 r5 1) fun l6 =>
  hI (EC d mM_small [.long l6] σ3) fun i8 σ7 =>
  hO (gI σ7 9 a0 46) fun i9 =>
  if i9 = 20 then
    bif isC σ7 9 a0 then hI (EC d mM_givesKept [.ref a0, .int i4, .int i8] σ7) fun i11 σ10 =>
    some (some (.int i11), σ10)
    else none
  else if i9 = 21 then
    bif isC σ7 9 a0 then hI (EC d mM_callsKept [.ref a0, .int i4] σ7) fun i13 σ12 =>
    if 0 ≤ i13 then
      hO (pF σ12 9 a0 28 (.int i13)) fun σ14 =>
      some (some (.int i13), σ14)
    else
    hO (gI σ12 9 a0 28) fun i15 =>
    hO (pF σ12 9 a0 28 (.int i15)) fun σ16 =>
    some (some (.int i13), σ16)
    else none
  else if i9 = 22 then
    bif isC σ7 9 a0 then hI (EC d mM_shavesKept [.ref a0, .int i4, .int i8] σ7) fun i18 σ17 =>
    some (some (.int i18), σ17)
    else none
  else if i9 = 23 then
    bif isC σ7 9 a0 then hI (EC d mM_callsKept [.ref a0, .int i4] σ7) fun i20 σ19 =>
    if 0 ≤ i20 then
      hO (pF σ19 9 a0 28 (.int i20)) fun σ21 =>
      some (some (.int i20), σ21)
    else
    hO (gI σ19 9 a0 28) fun i22 =>
    hO (pF σ19 9 a0 28 (.int i22)) fun σ23 =>
    some (some (.int i20), σ23)
    else none
  else if i9 = 24 then
    bif isC σ7 9 a0 then hI (EC d mM_passesKept [.ref a0] σ7) fun i25 σ24 =>
    some (some (.int i25), σ24)
    else none
  else 
  bif isC σ7 9 a0 then hI (EC d mM_callsKept [.ref a0, .int i4] σ7) fun i27 σ26 =>
  if 0 ≤ i27 then
    hO (pF σ26 9 a0 28 (.int i27)) fun σ28 =>
    some (some (.int i27), σ28)
  else
  hO (gI σ26 9 a0 28) fun i29 =>
  hO (pF σ26 9 a0 28 (.int i29)) fun σ30 =>
  some (some (.int i27), σ30)
  else none := (Ev_blk d mM_obeys 29 _ _ _ _).trans rfl
set_option maxRecDepth 100000 in
theorem q_M_runs (d : Nat) (a0 : Nat) (a1 : Int32) (σ : Mem) : EC (d + 1) mM_runs [.ref a0, .int a1] σ =
  bif isC σ 9 a0 then hV (EC d mM_goesAlong [.ref a0, .int a1, .int 0] σ) fun σ1 =>
  hO (gI σ1 9 a0 45) fun i2 =>
  hO (gI σ1 9 a0 22) fun i3 =>
  Ev (d + 1) mM_runs 19 [(0, .ref a0), (1, .int a1), (2, .int i2), (3, .int i3), (4, .int 0)] [] σ1
  else none := (Ev_blk d mM_runs 13 _ _ _ _).trans rfl
set_option maxRecDepth 100000 in
theorem q_M_runs_19 (d : Nat) (x0 : Nat) (x1 : Int32) (x2 : Int32) (x3 : Int32) (x4 : Int32) (σ : Mem) : Ev (d + 1) mM_runs 19 [(0, .ref x0), (1, .int x1), (2, .int x2), (3, .int x3), (4, .int x4)] [] σ =
  if x2 ≤ x4 then
    hO (pF σ 9 x0 44 (.int x3)) fun σ1 =>
    some (some (.int 1), σ1)
  else
  bif isC σ 9 x0 then hV (EC d mM_goesAlong [.ref x0, .int x1, .int 1] σ) fun σ2 =>
  hO (gI σ2 9 x0 48) fun i3 =>
  if i3 = 0 then
    Ev (d + 1) mM_runs 19 [(0, .ref x0), (1, .int x1), (2, .int x2), (3, .int x3), (4, .int (x4 + 1))] [] σ2
  else
  hO (gI σ2 9 x0 47) fun i4 =>
  if i4 = 0 then
    some (some (.int 0), σ2)
  else
  bif isC σ2 9 x0 then hI (EC d mM_obeys [.ref x0] σ2) fun i6 σ5 =>
  if 0 ≤ i6 then
    hO (gI σ5 9 x0 27) fun i7 =>
    hO (pF σ5 9 x0 27 (.int (i7 + (1 : Int32)))) fun σ8 =>
    Ev (d + 1) mM_runs 19 [(0, .ref x0), (1, .int x1), (2, .int x2), (3, .int x3), (4, .int (x4 + 1))] [] σ8
  else
  some (some (.int 0), σ5)
  else none
  else none := (Ev_blk d mM_runs 25 _ _ _ _).trans rfl
set_option maxRecDepth 100000 in
theorem q_M_draws (d : Nat) (a0 : Nat) (a1 : Int32) (σ : Mem) : EC (d + 1) mM_draws [.ref a0, .int a1] σ =
  hO (gI σ 9 a0 55) fun i1 =>
  if (1000003 : Int64) = 0 then none else
  hO (pF σ 9 a0 55 (.int (Int64.toInt32 ((((1103 : Int64) * (Int32.toInt64 i1)) + (12345 : Int64)) - (((1103 : Int64) * (Int32.toInt64 i1)) + (12345 : Int64)) / (1000003 : Int64) * (1000003 : Int64))))) fun σ2 =>
  hO (gI σ2 9 a0 55) fun i3 =>
  if (a1 : Int32) = 0 then none else
  some (some (.int (i3 - i3 / a1 * a1)), σ2) := (Ev_blk d mM_draws 18 _ _ _ _).trans rfl
set_option maxRecDepth 100000 in
theorem q_M_callsOrGives (d : Nat) (a0 : Nat) (a1 : Int32) (a2 : Int32) (σ : Mem) : EC (d + 1) mM_callsOrGives [.ref a0, .int a1, .int a2] σ =
  bif isC σ 9 a0 then hI (EC d mM_canCall [.ref a0, .int a1] σ) fun i2 σ1 =>
  if i2 = 0 then
    bif isC σ1 9 a0 then hI (EC d mM_canGive [.ref a0, .int a1, .int a2] σ1) fun i4 σ3 =>
    if i4 = 0 then
      some (some (.int 0), σ3)
    else
    bif isC σ3 9 a0 then hI (EC d mM_gives [.ref a0, .int a1, .int a2] σ3) fun i6 σ5 =>
    some (some (.int 0), σ5)
    else none
    else none
  else
  bif isC σ1 9 a0 then hI (EC d mM_calls0 [.ref a0, .int a1] σ1) fun i8 σ7 =>
  some (some (.int 1), σ7)
  else none
  else none := (Ev_blk d mM_callsOrGives 17 _ _ _ _).trans rfl
set_option maxRecDepth 100000 in
theorem q_M_laysDrawn (d : Nat) (a0 : Nat) (σ : Mem) : EC (d + 1) mM_laysDrawn [.ref a0] σ =
  Ev (d + 1) mM_laysDrawn 2 [(0, .ref a0), (1, .int 0)] [] σ := (Ev_blk d mM_laysDrawn 3 _ _ _ _).trans rfl
set_option maxRecDepth 100000 in
theorem q_M_laysDrawn_2 (d : Nat) (x0 : Nat) (x1 : Int32) (σ : Mem) : Ev (d + 1) mM_laysDrawn 2 [(0, .ref x0), (1, .int x1)] [] σ =
  hO (gI σ 9 x0 53) fun i1 =>
  if i1 ≤ x1 then
    Ev (d + 1) mM_laysDrawn 32 [(0, .ref x0), (1, .int 0)] [] σ
  else
  hO (gR σ 9 x0 50) fun r2 =>
  hO (gR σ 9 x0 2) fun r3 =>
  hO (lI σ r3 ((0 : Int32) + x1)) fun i4 =>
  hO (sI σ r2 x1 i4) fun σ5 =>
  Ev (d + 1) mM_laysDrawn 2 [(0, .ref x0), (1, .int (x1 + 1))] [] σ5 := (Ev_blk d mM_laysDrawn 17 _ _ _ _).trans rfl
set_option maxRecDepth 100000 in
theorem q_M_laysDrawn_32 (d : Nat) (x0 : Nat) (x1 : Int32) (σ : Mem) : Ev (d + 1) mM_laysDrawn 32 [(0, .ref x0), (1, .int x1)] [] σ =
  hO (gI σ 9 x0 54) fun i1 =>
  if i1 ≤ x1 then
    some (none, σ)
  else
  hO (gR σ 9 x0 51) fun r2 =>
  hO (gR σ 9 x0 2) fun r3 =>
  hO (lI σ r3 ((6 : Int32) + x1)) fun i4 =>
  hO (sI σ r2 x1 i4) fun σ5 =>
  hO (gR σ5 9 x0 52) fun r6 =>
  hO (gR σ5 9 x0 2) fun r7 =>
  hO (lI σ5 r7 ((26 : Int32) + x1)) fun i8 =>
  hO (sI σ5 r6 x1 i8) fun σ9 =>
  Ev (d + 1) mM_laysDrawn 32 [(0, .ref x0), (1, .int (x1 + 1))] [] σ9 := (Ev_blk d mM_laysDrawn 27 _ _ _ _).trans rfl
set_option maxRecDepth 100000 in
theorem q_M_years (d : Nat) (a0 : Nat) (a1 : Int32) (a2 : Int32) (σ : Mem) : EC (d + 1) mM_years [.ref a0, .int a1, .int a2] σ =
  hI (EC d mM_lies [.int a1, .int 0, .int 1000000] σ) fun i2 σ1 =>
  if i2 = 0 then
    bif isC σ1 9 a0 then hI (EC d mM_refuses [.ref a0, .int (-1)] σ1) fun i4 σ3 =>
    some (some (.int i4), σ3)
    else none
  else
  hI (EC d mM_lies [.int a2, .int 1, .int 60] σ1) fun i6 σ5 =>
  if i6 = 0 then
    bif isC σ5 9 a0 then hI (EC d mM_refuses [.ref a0, .int (-1)] σ5) fun i8 σ7 =>
    some (some (.int i8), σ7)
    else none
  else
  hO (gR σ5 9 a0 2) fun r9 =>
  hO (lI σ5 r9 100) fun i10 =>
  if i10 = 0 then
    bif isC σ5 9 a0 then hI (EC d mM_refuses [.ref a0, .int (-3)] σ5) fun i12 σ11 =>
    some (some (.int i12), σ11)
    else none
  else
  hO (pF σ5 9 a0 55 (.int a1)) fun σ13 =>
  hO (gR σ13 9 a0 2) fun r14 =>
  hO (lI σ13 r14 99) fun i15 =>
  hO (pF σ13 9 a0 53 (.int i15)) fun σ16 =>
  hO (gR σ16 9 a0 2) fun r17 =>
  hO (lI σ16 r17 100) fun i18 =>
  hO (pF σ16 9 a0 54 (.int i18)) fun σ19 =>
  bif isC σ19 9 a0 then hV (EC d mM_laysAside [.ref a0, .int 8] σ19) fun σ20 =>
  Ev (d + 1) mM_years 81 [(0, .ref a0), (2, .int a2), (3, .int 0), (4, .int 0)] [] σ20
  else none := (Ev_blk d mM_years 38 _ _ _ _).trans rfl
set_option maxRecDepth 100000 in
theorem q_M_years_81 (d : Nat) (x0 : Nat) (x2 : Int32) (x3 : Int32) (x4 : Int32) (σ : Mem) : Ev (d + 1) mM_years 81 [(0, .ref x0), (2, .int x2), (3, .int x3), (4, .int x4)] [] σ =
  if x2 ≤ x4 then
    bif isC σ 9 x0 then hV (EC d mM_laysDrawn [.ref x0] σ) fun σ1 =>
    bif isC σ1 9 x0 then hV (EC d mM_takesBack [.ref x0, .int 8] σ1) fun σ2 =>
    bif isC σ2 9 x0 then hI (EC d mM_good [.ref x0, .int x3] σ2) fun i4 σ3 =>
    some (some (.int i4), σ3)
    else none
    else none
    else none
  else
  hO (gR σ 9 x0 2) fun r5 =>
  hO (lI σ r5 36) fun i6 =>
  if 999 ≤ i6 then
    bif isC σ 9 x0 then hV (EC d mM_laysDrawn [.ref x0] σ) fun σ7 =>
    bif isC σ7 9 x0 then hV (EC d mM_takesBack [.ref x0, .int 8] σ7) fun σ8 =>
    bif isC σ8 9 x0 then hI (EC d mM_good [.ref x0, .int x3] σ8) fun i10 σ9 =>
    some (some (.int i10), σ9)
    else none
    else none
    else none
  else
  hO (gI σ 9 x0 54) fun i11 =>
  bif isC σ 9 x0 then hI (EC d mM_draws [.ref x0, .int i11] σ) fun i13 σ12 =>
  hO (gI σ12 9 x0 53) fun i14 =>
  bif isC σ12 9 x0 then hI (EC d mM_draws [.ref x0, .int i14] σ12) fun i16 σ15 =>
  bif isC σ15 9 x0 then hI (EC d mM_callsOrGives [.ref x0, .int i13, .int i16] σ15) fun i18 σ17 =>
  if i18 = 0 then
    hO (gR σ17 9 x0 2) fun r19 =>
    hO (lI σ17 r19 36) fun i20 =>
    hO (sI σ17 r19 36 (i20 + (1 : Int32))) fun σ21 =>
    Ev (d + 1) mM_years 81 [(0, .ref x0), (2, .int x2), (3, .int (x3 + (0 : Int32))), (4, .int (x4 + 1))] [] σ21
  else
  hO (gR σ17 9 x0 2) fun r22 =>
  hO (lI σ17 r22 36) fun i23 =>
  hO (sI σ17 r22 36 (i23 + (1 : Int32))) fun σ24 =>
  Ev (d + 1) mM_years 81 [(0, .ref x0), (2, .int x2), (3, .int (x3 + (1 : Int32))), (4, .int (x4 + 1))] [] σ24
  else none
  else none
  else none := (Ev_blk d mM_years 40 _ _ _ _).trans rfl
set_option maxRecDepth 100000 in
theorem q_M_drawn (d : Nat) (a0 : Nat) (a1 : Int32) (a2 : Int32) (σ : Mem) : EC (d + 1) mM_drawn [.ref a0, .int a1, .int a2] σ =
  hO (gI σ 9 a0 53) fun i1 =>
  if i1 = (-1) then
    some (some (.int (-1)), σ)
  else
  hI (EC d mM_lies [.int a2, .int 0, .int 2] σ) fun i3 σ2 =>
  if i3 = 0 then
    some (some (.int (-1)), σ2)
  else
  if a2 = 0 then
    hO (gI σ2 9 a0 53) fun i4 =>
    hI (EC d mM_lies [.int a1, .int 0, .int (i4 - (1 : Int32))] σ2) fun i6 σ5 =>
    if i6 = 0 then
      some (some (.int (-1)), σ5)
    else
    if a2 = 0 then
      hO (gR σ5 9 a0 50) fun r7 =>
      hO (lI σ5 r7 a1) fun i8 =>
      some (some (.int i8), σ5)
    else
    if a2 = 1 then
      hO (gR σ5 9 a0 51) fun r9 =>
      hO (lI σ5 r9 a1) fun i10 =>
      some (some (.int i10), σ5)
    else
    hO (gR σ5 9 a0 52) fun r11 =>
    hO (lI σ5 r11 a1) fun i12 =>
    some (some (.int i12), σ5)
  else
  hO (gI σ2 9 a0 54) fun i13 =>
  hI (EC d mM_lies [.int a1, .int 0, .int (i13 - (1 : Int32))] σ2) fun i15 σ14 =>
  if i15 = 0 then
    some (some (.int (-1)), σ14)
  else
  if a2 = 0 then
    hO (gR σ14 9 a0 50) fun r16 =>
    hO (lI σ14 r16 a1) fun i17 =>
    some (some (.int i17), σ14)
  else
  if a2 = 1 then
    hO (gR σ14 9 a0 51) fun r18 =>
    hO (lI σ14 r18 a1) fun i19 =>
    some (some (.int i19), σ14)
  else
  hO (gR σ14 9 a0 52) fun r20 =>
  hO (lI σ14 r20 a1) fun i21 =>
  some (some (.int i21), σ14) := (Ev_blk d mM_drawn 32 _ _ _ _).trans rfl
set_option maxRecDepth 100000 in
theorem q_M_manyPaid (d : Nat) (a0 : Nat) (σ : Mem) : EC (d + 1) mM_manyPaid [.ref a0] σ =
  Ev (d + 1) mM_manyPaid 4 [(0, .ref a0), (1, .int 0), (2, .int 0)] [] σ := (Ev_blk d mM_manyPaid 5 _ _ _ _).trans rfl
set_option maxRecDepth 100000 in
theorem q_M_manyPaid_4 (d : Nat) (x0 : Nat) (x1 : Int32) (x2 : Int32) (σ : Mem) : Ev (d + 1) mM_manyPaid 4 [(0, .ref x0), (1, .int x1), (2, .int x2)] [] σ =
  hO (gR σ 9 x0 2) fun r1 =>
  hO (lI σ r1 100) fun i2 =>
  if i2 ≤ x2 then
    some (some (.int x1), σ)
  else
  hO (gR σ 9 x0 2) fun r3 =>
  hO (lI σ r3 ((26 : Int32) + x2)) fun i4 =>
  Ev (d + 1) mM_manyPaid 4 [(0, .ref x0), (1, .int (x1 + i4)), (2, .int (x2 + 1))] [] σ := (Ev_blk d mM_manyPaid 18 _ _ _ _).trans rfl
set_option maxRecDepth 100000 in
theorem q_M_count (d : Nat) (a0 : Nat) (a1 : Int32) (σ : Mem) : EC (d + 1) mM_count [.ref a0, .int a1] σ =
  if a1 = 0 then
    hO (gR σ 9 a0 2) fun r1 =>
    hO (lI σ r1 99) fun i2 =>
    some (some (.int i2), σ)
  else if a1 = 1 then
    hO (gR σ 9 a0 2) fun r3 =>
    hO (lI σ r3 100) fun i4 =>
    some (some (.int i4), σ)
  else if a1 = 2 then
    hO (gR σ 9 a0 2) fun r5 =>
    hO (lI σ r5 101) fun i6 =>
    some (some (.int i6), σ)
  else if a1 = 3 then
    bif isC σ 9 a0 then hI (EC d mM_manyPaid [.ref a0] σ) fun i8 σ7 =>
    some (some (.int i8), σ7)
    else none
  else if a1 = 4 then
    hO (gR σ 9 a0 2) fun r9 =>
    hO (lI σ r9 102) fun i10 =>
    some (some (.int i10), σ)
  else if a1 = 5 then
    hO (gI σ 9 a0 31) fun i11 =>
    some (some (.int i11), σ)
  else if a1 = 6 then
    hO (gI σ 9 a0 13) fun i12 =>
    some (some (.int i12), σ)
  else if a1 = 7 then
    hO (gR σ 9 a0 1) fun r13 =>
    hO (lI σ r13 (a1 - (6 : Int32))) fun i14 =>
    some (some (.int i14), σ)
  else if a1 = 8 then
    hO (gR σ 9 a0 1) fun r15 =>
    hO (lI σ r15 (a1 - (6 : Int32))) fun i16 =>
    some (some (.int i16), σ)
  else if a1 = 9 then
    hO (gR σ 9 a0 1) fun r17 =>
    hO (lI σ r17 (a1 - (6 : Int32))) fun i18 =>
    some (some (.int i18), σ)
  else if a1 = 10 then
    hO (gR σ 9 a0 1) fun r19 =>
    hO (lI σ r19 5) fun i20 =>
    some (some (.int i20), σ)
  else if a1 = 11 then
    hO (gR σ 9 a0 1) fun r21 =>
    hO (lI σ r21 6) fun i22 =>
    some (some (.int i22), σ)
  else if a1 = 12 then
    hO (gR σ 9 a0 2) fun r23 =>
    hO (lI σ r23 103) fun i24 =>
    some (some (.int i24), σ)
  else if a1 = 13 then
    hO (gR σ 9 a0 2) fun r25 =>
    hO (lI σ r25 36) fun i26 =>
    some (some (.int i26), σ)
  else if a1 = 14 then
    hO (gR σ 9 a0 2) fun r27 =>
    hO (lI σ r27 (((97 : Int32) + a1) - (14 : Int32))) fun i28 =>
    some (some (.int i28), σ)
  else if a1 = 15 then
    hO (gR σ 9 a0 2) fun r29 =>
    hO (lI σ r29 (((97 : Int32) + a1) - (14 : Int32))) fun i30 =>
    some (some (.int i30), σ)
  else 
  some (some (.int (-1)), σ) := (Ev_blk d mM_count 12 _ _ _ _).trans rfl
set_option maxRecDepth 100000 in
theorem q_M_status (d : Nat) (a0 : Nat) (σ : Mem) : EC (d + 1) mM_status [.ref a0] σ =
  hO (gI σ 9 a0 0) fun i1 =>
  some (some (.int i1), σ) := (Ev_blk d mM_status 4 _ _ _ _).trans rfl
