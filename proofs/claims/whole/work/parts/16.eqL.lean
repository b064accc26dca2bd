/-! ===== what each method does, a stretch at a time (printed by wip/whole/mkeqs.py) ===== -/
set_option maxRecDepth 100000 in
theorem q_L_law (d : Nat) (a0 : Nat) (σ : Mem) : EC (d + 1) mL_law [.ref a0] σ =
  bif isC (addC σ 20 (.inr (8, dfl 8))) 8 σ.1 then hV (EC d mX_init [.ref σ.1] (addC σ 20 (.inr (8, dfl 8)))) fun σ1 =>
  bif isC (addC σ1 56 (.inr (9, dfl 9))) 9 σ1.1 then hV (EC d mM_init [.ref σ1.1] (addC σ1 56 (.inr (9, dfl 9)))) fun σ2 =>
  Ev (d + 1) mL_law 18 [(0, .ref a0), (1, .ref σ.1), (2, .ref σ1.1), (3, .int 0)] [] σ2
  else none
  else none := (Ev_blk d mL_law 11 _ _ _ _).trans rfl
set_option maxRecDepth 100000 in
theorem q_L_law_18 (d : Nat) (x0 : Nat) (x1 : Nat) (x2 : Nat) (x3 : Int32) (σ : Mem) : Ev (d + 1) mL_law 18 [(0, .ref x0), (1, .ref x1), (2, .ref x2), (3, .int x3)] [] σ =
  hO (aln σ x0) fun i1 =>
  if (i1 - (7 : Int32)) < x3 then
    some (some (.int 1), σ)
  else
  hO (lI σ x0 x3) fun i2 =>
  if (i2 &&& (63 : Int32)) = 0 then
    hO (lI σ x0 (x3 + (1 : Int32))) fun i3 =>
    bif isC σ 8 x1 then hI (EC d mX_person [.ref x1, .int i3] σ) fun i5 σ4 =>
    hO (lI σ4 x0 (x3 + (1 : Int32))) fun i6 =>
    bif isC σ4 9 x2 then hI (EC d mM_person [.ref x2, .int i6] σ4) fun i8 σ7 =>
    if i5 = i8 then
      Ev (d + 1) mL_law 1189 [(0, .ref x0), (1, .ref x1), (2, .ref x2), (3, .int x3)] [] σ7
    else
    some (some (.int 0), σ7)
    else none
    else none
  else if (i2 &&& (63 : Int32)) = 1 then
    hO (lI σ x0 (x3 + (1 : Int32))) fun i9 =>
    hO (lI σ x0 (x3 + (2 : Int32))) fun i10 =>
    bif isC σ 8 x1 then hI (EC d mX_of [.ref x1, .int i9, .int i10] σ) fun i12 σ11 =>
    hO (lI σ11 x0 (x3 + (1 : Int32))) fun i13 =>
    hO (lI σ11 x0 (x3 + (2 : Int32))) fun i14 =>
    bif isC σ11 9 x2 then hI (EC d mM_of [.ref x2, .int i13, .int i14] σ11) fun i16 σ15 =>
    if i12 = i16 then
      Ev (d + 1) mL_law 1189 [(0, .ref x0), (1, .ref x1), (2, .ref x2), (3, .int x3)] [] σ15
    else
    some (some (.int 0), σ15)
    else none
    else none
  else if (i2 &&& (63 : Int32)) = 2 then
    hO (lI σ x0 (x3 + (1 : Int32))) fun i17 =>
    hO (lI σ x0 (x3 + (2 : Int32))) fun i18 =>
    hO (lI σ x0 (x3 + (3 : Int32))) fun i19 =>
    hO (lI σ x0 (x3 + (4 : Int32))) fun i20 =>
    hO (lI σ x0 (x3 + (5 : Int32))) fun i21 =>
    hO (lI σ x0 (x3 + (6 : Int32))) fun i22 =>
    bif isC σ 8 x1 then hI (EC d mX_stick [.ref x1, .int i17, .int i18, .int i19, .int i20, .int i21, .int i22] σ) fun i24 σ23 =>
    hO (lI σ23 x0 (x3 + (1 : Int32))) fun i25 =>
    hO (lI σ23 x0 (x3 + (2 : Int32))) fun i26 =>
    hO (lI σ23 x0 (x3 + (3 : Int32))) fun i27 =>
    hO (lI σ23 x0 (x3 + (4 : Int32))) fun i28 =>
    hO (lI σ23 x0 (x3 + (5 : Int32))) fun i29 =>
    hO (lI σ23 x0 (x3 + (6 : Int32))) fun i30 =>
    bif isC σ23 9 x2 then hI (EC d mM_stick [.ref x2, .int i25, .int i26, .int i27, .int i28, .int i29, .int i30] σ23) fun i32 σ31 =>
    if i24 = i32 then
      Ev (d + 1) mL_law 1189 [(0, .ref x0), (1, .ref x1), (2, .ref x2), (3, .int x3)] [] σ31
    else
    some (some (.int 0), σ31)
    else none
    else none
  else if (i2 &&& (63 : Int32)) = 3 then
    hO (lI σ x0 (x3 + (1 : Int32))) fun i33 =>
    hO (lI σ x0 (x3 + (2 : Int32))) fun i34 =>
    bif isC σ 8 x1 then hI (EC d mX_at [.ref x1, .int i33, .int i34] σ) fun i36 σ35 =>
    hO (lI σ35 x0 (x3 + (1 : Int32))) fun i37 =>
    hO (lI σ35 x0 (x3 + (2 : Int32))) fun i38 =>
    bif isC σ35 9 x2 then hI (EC d mM_at [.ref x2, .int i37, .int i38] σ35) fun i40 σ39 =>
    if i36 = i40 then
      Ev (d + 1) mL_law 1189 [(0, .ref x0), (1, .ref x1), (2, .ref x2), (3, .int x3)] [] σ39
    else
    some (some (.int 0), σ39)
    else none
    else none
  else if (i2 &&& (63 : Int32)) = 4 then
    hO (lI σ x0 (x3 + (1 : Int32))) fun i41 =>
    hO (lI σ x0 (x3 + (2 : Int32))) fun i42 =>
    bif isC σ 8 x1 then hI (EC d mX_foil [.ref x1, .int i41, .int i42] σ) fun i44 σ43 =>
    hO (lI σ43 x0 (x3 + (1 : Int32))) fun i45 =>
    hO (lI σ43 x0 (x3 + (2 : Int32))) fun i46 =>
    bif isC σ43 9 x2 then hI (EC d mM_foil [.ref x2, .int i45, .int i46] σ43) fun i48 σ47 =>
    if i44 = i48 then
      Ev (d + 1) mL_law 1189 [(0, .ref x0), (1, .ref x1), (2, .ref x2), (3, .int x3)] [] σ47
    else
    some (some (.int 0), σ47)
    else none
    else none
  else if (i2 &&& (63 : Int32)) = 5 then
    hO (lI σ x0 (x3 + (1 : Int32))) fun i49 =>
    hO (lI σ x0 (x3 + (2 : Int32))) fun i50 =>
    bif isC σ 8 x1 then hI (EC d mX_half [.ref x1, .int i49, .int i50] σ) fun i52 σ51 =>
    hO (lI σ51 x0 (x3 + (1 : Int32))) fun i53 =>
    hO (lI σ51 x0 (x3 + (2 : Int32))) fun i54 =>
    bif isC σ51 9 x2 then hI (EC d mM_half [.ref x2, .int i53, .int i54] σ51) fun i56 σ55 =>
    if i52 = i56 then
      Ev (d + 1) mL_law 1189 [(0, .ref x0), (1, .ref x1), (2, .ref x2), (3, .int x3)] [] σ55
    else
    some (some (.int 0), σ55)
    else none
    else none
  else if (i2 &&& (63 : Int32)) = 6 then
    hO (lI σ x0 (x3 + (1 : Int32))) fun i57 =>
    hO (lI σ x0 (x3 + (2 : Int32))) fun i58 =>
    bif isC σ 8 x1 then hI (EC d mX_terms [.ref x1, .int i57, .int i58] σ) fun i60 σ59 =>
    hO (lI σ59 x0 (x3 + (1 : Int32))) fun i61 =>
    hO (lI σ59 x0 (x3 + (2 : Int32))) fun i62 =>
    bif isC σ59 9 x2 then hI (EC d mM_terms [.ref x2, .int i61, .int i62] σ59) fun i64 σ63 =>
    if i60 = i64 then
      Ev (d + 1) mL_law 1189 [(0, .ref x0), (1, .ref x1), (2, .ref x2), (3, .int x3)] [] σ63
    else
    some (some (.int 0), σ63)
    else none
    else none
  else if (i2 &&& (63 : Int32)) = 7 then
    hO (lI σ x0 (x3 + (1 : Int32))) fun i65 =>
    hO (lI σ x0 (x3 + (2 : Int32))) fun i66 =>
    hO (lI σ x0 (x3 + (3 : Int32))) fun i67 =>
    hO (lI σ x0 (x3 + (4 : Int32))) fun i68 =>
    hO (lI σ x0 (x3 + (5 : Int32))) fun i69 =>
    bif isC σ 8 x1 then hI (EC d mX_feed [.ref x1, .int i65, .int i66, .int i67, .int i68, .int i69] σ) fun i71 σ70 =>
    hO (lI σ70 x0 (x3 + (1 : Int32))) fun i72 =>
    hO (lI σ70 x0 (x3 + (2 : Int32))) fun i73 =>
    hO (lI σ70 x0 (x3 + (3 : Int32))) fun i74 =>
    hO (lI σ70 x0 (x3 + (4 : Int32))) fun i75 =>
    hO (lI σ70 x0 (x3 + (5 : Int32))) fun i76 =>
    bif isC σ70 9 x2 then hI (EC d mM_feed [.ref x2, .int i72, .int i73, .int i74, .int i75, .int i76] σ70) fun i78 σ77 =>
    if i71 = i78 then
      Ev (d + 1) mL_law 1189 [(0, .ref x0), (1, .ref x1), (2, .ref x2), (3, .int x3)] [] σ77
    else
    some (some (.int 0), σ77)
    else none
    else none
  else if (i2 &&& (63 : Int32)) = 8 then
    hO (lI σ x0 (x3 + (1 : Int32))) fun i79 =>
    bif isC σ 8 x1 then hI (EC d mX_end [.ref x1, .int i79] σ) fun i81 σ80 =>
    hO (lI σ80 x0 (x3 + (1 : Int32))) fun i82 =>
    bif isC σ80 9 x2 then hI (EC d mM_end [.ref x2, .int i82] σ80) fun i84 σ83 =>
    if i81 = i84 then
      Ev (d + 1) mL_law 1189 [(0, .ref x0), (1, .ref x1), (2, .ref x2), (3, .int x3)] [] σ83
    else
    some (some (.int 0), σ83)
    else none
    else none
  else if (i2 &&& (63 : Int32)) = 9 then
    bif isC σ 8 x1 then hI (EC d mX_row [.ref x1] σ) fun i86 σ85 =>
    bif isC σ85 9 x2 then hI (EC d mM_row [.ref x2] σ85) fun i88 σ87 =>
    if i86 = i88 then
      Ev (d + 1) mL_law 1189 [(0, .ref x0), (1, .ref x1), (2, .ref x2), (3, .int x3)] [] σ87
    else
    some (some (.int 0), σ87)
    else none
    else none
  else if (i2 &&& (63 : Int32)) = 10 then
    bif isC σ 8 x1 then hI (EC d mX_chips [.ref x1] σ) fun i90 σ89 =>
    bif isC σ89 9 x2 then hI (EC d mM_chips [.ref x2] σ89) fun i92 σ91 =>
    if i90 = i92 then
      Ev (d + 1) mL_law 1189 [(0, .ref x0), (1, .ref x1), (2, .ref x2), (3, .int x3)] [] σ91
    else
    some (some (.int 0), σ91)
    else none
    else none
  else if (i2 &&& (63 : Int32)) = 11 then
    bif isC σ 8 x1 then hI (EC d mX_law [.ref x1] σ) fun i94 σ93 =>
    bif isC σ93 9 x2 then hI (EC d mM_law [.ref x2] σ93) fun i96 σ95 =>
    if i94 = i96 then
      Ev (d + 1) mL_law 1189 [(0, .ref x0), (1, .ref x1), (2, .ref x2), (3, .int x3)] [] σ95
    else
    some (some (.int 0), σ95)
    else none
    else none
  else if (i2 &&& (63 : Int32)) = 12 then
    bif isC σ 8 x1 then hI (EC d mX_orders [.ref x1] σ) fun i98 σ97 =>
    bif isC σ97 9 x2 then hI (EC d mM_orders [.ref x2] σ97) fun i100 σ99 =>
    if i98 = i100 then
      Ev (d + 1) mL_law 1189 [(0, .ref x0), (1, .ref x1), (2, .ref x2), (3, .int x3)] [] σ99
    else
    some (some (.int 0), σ99)
    else none
    else none
  else if (i2 &&& (63 : Int32)) = 13 then
    bif isC σ 8 x1 then hI (EC d mX_fault [.ref x1] σ) fun i102 σ101 =>
    bif isC σ101 9 x2 then hI (EC d mM_fault [.ref x2] σ101) fun i104 σ103 =>
    if i102 = i104 then
      Ev (d + 1) mL_law 1189 [(0, .ref x0), (1, .ref x1), (2, .ref x2), (3, .int x3)] [] σ103
    else
    some (some (.int 0), σ103)
    else none
    else none
  else if (i2 &&& (63 : Int32)) = 14 then
    bif isC σ 8 x1 then hI (EC d mX_stopped [.ref x1] σ) fun i106 σ105 =>
    bif isC σ105 9 x2 then hI (EC d mM_stopped [.ref x2] σ105) fun i108 σ107 =>
    if i106 = i108 then
      Ev (d + 1) mL_law 1189 [(0, .ref x0), (1, .ref x1), (2, .ref x2), (3, .int x3)] [] σ107
    else
    some (some (.int 0), σ107)
    else none
    else none
  else if (i2 &&& (63 : Int32)) = 15 then
    hO (lI σ x0 (x3 + (1 : Int32))) fun i109 =>
    bif isC σ 8 x1 then hI (EC d mX_force [.ref x1, .int i109] σ) fun i111 σ110 =>
    hO (lI σ110 x0 (x3 + (1 : Int32))) fun i112 =>
    bif isC σ110 9 x2 then hI (EC d mM_force [.ref x2, .int i112] σ110) fun i114 σ113 =>
    if i111 = i114 then
      Ev (d + 1) mL_law 1189 [(0, .ref x0), (1, .ref x1), (2, .ref x2), (3, .int x3)] [] σ113
    else
    some (some (.int 0), σ113)
    else none
    else none
  else if (i2 &&& (63 : Int32)) = 16 then
    hO (lI σ x0 (x3 + (1 : Int32))) fun i115 =>
    hO (lI σ x0 (x3 + (2 : Int32))) fun i116 =>
    bif isC σ 8 x1 then hI (EC d mX_asks [.ref x1, .int i115, .int i116] σ) fun i118 σ117 =>
    hO (lI σ117 x0 (x3 + (1 : Int32))) fun i119 =>
    hO (lI σ117 x0 (x3 + (2 : Int32))) fun i120 =>
    bif isC σ117 9 x2 then hI (EC d mM_asks [.ref x2, .int i119, .int i120] σ117) fun i122 σ121 =>
    if i118 = i122 then
      Ev (d + 1) mL_law 1189 [(0, .ref x0), (1, .ref x1), (2, .ref x2), (3, .int x3)] [] σ121
    else
    some (some (.int 0), σ121)
    else none
    else none
  else if (i2 &&& (63 : Int32)) = 17 then
    hO (lI σ x0 (x3 + (1 : Int32))) fun i123 =>
    hO (lI σ x0 (x3 + (2 : Int32))) fun i124 =>
    bif isC σ 8 x1 then hI (EC d mX_give [.ref x1, .int i123, .int i124] σ) fun i126 σ125 =>
    hO (lI σ125 x0 (x3 + (1 : Int32))) fun i127 =>
    hO (lI σ125 x0 (x3 + (2 : Int32))) fun i128 =>
    bif isC σ125 9 x2 then hI (EC d mM_give [.ref x2, .int i127, .int i128] σ125) fun i130 σ129 =>
    if i126 = i130 then
      Ev (d + 1) mL_law 1189 [(0, .ref x0), (1, .ref x1), (2, .ref x2), (3, .int x3)] [] σ129
    else
    some (some (.int 0), σ129)
    else none
    else none
  else if (i2 &&& (63 : Int32)) = 18 then
    hO (lI σ x0 (x3 + (1 : Int32))) fun i131 =>
    bif isC σ 8 x1 then hI (EC d mX_call [.ref x1, .int i131] σ) fun i133 σ132 =>
    hO (lI σ132 x0 (x3 + (1 : Int32))) fun i134 =>
    bif isC σ132 9 x2 then hI (EC d mM_call [.ref x2, .int i134] σ132) fun i136 σ135 =>
    if i133 = i136 then
      Ev (d + 1) mL_law 1189 [(0, .ref x0), (1, .ref x1), (2, .ref x2), (3, .int x3)] [] σ135
    else
    some (some (.int 0), σ135)
    else none
    else none
  else if (i2 &&& (63 : Int32)) = 19 then
    hO (lI σ x0 (x3 + (1 : Int32))) fun i137 =>
    hO (lI σ x0 (x3 + (2 : Int32))) fun i138 =>
    bif isC σ 8 x1 then hI (EC d mX_shave [.ref x1, .int i137, .int i138] σ) fun i140 σ139 =>
    hO (lI σ139 x0 (x3 + (1 : Int32))) fun i141 =>
    hO (lI σ139 x0 (x3 + (2 : Int32))) fun i142 =>
    bif isC σ139 9 x2 then hI (EC d mM_shave [.ref x2, .int i141, .int i142] σ139) fun i144 σ143 =>
    if i140 = i144 then
      Ev (d + 1) mL_law 1189 [(0, .ref x0), (1, .ref x1), (2, .ref x2), (3, .int x3)] [] σ143
    else
    some (some (.int 0), σ143)
    else none
    else none
  else if (i2 &&& (63 : Int32)) = 20 then
    bif isC σ 8 x1 then hI (EC d mX_pass [.ref x1] σ) fun i146 σ145 =>
    bif isC σ145 9 x2 then hI (EC d mM_pass [.ref x2] σ145) fun i148 σ147 =>
    if i146 = i148 then
      Ev (d + 1) mL_law 1189 [(0, .ref x0), (1, .ref x1), (2, .ref x2), (3, .int x3)] [] σ147
    else
    some (some (.int 0), σ147)
    else none
    else none
  else if (i2 &&& (63 : Int32)) = 21 then
    bif isC σ 8 x1 then hI (EC d mX_undo [.ref x1] σ) fun i150 σ149 =>
    bif isC σ149 9 x2 then hI (EC d mM_undo [.ref x2] σ149) fun i152 σ151 =>
    if i150 = i152 then
      Ev (d + 1) mL_law 1189 [(0, .ref x0), (1, .ref x1), (2, .ref x2), (3, .int x3)] [] σ151
    else
    some (some (.int 0), σ151)
    else none
    else none
  else if (i2 &&& (63 : Int32)) = 22 then
    hO (lI σ x0 (x3 + (1 : Int32))) fun i153 =>
    hO (lI σ x0 (x3 + (2 : Int32))) fun i154 =>
    hO (lI σ x0 (x3 + (3 : Int32))) fun i155 =>
    bif isC σ 8 x1 then hI (EC d mX_fit [.ref x1, .int i153, .int i154, .int i155] σ) fun i157 σ156 =>
    hO (lI σ156 x0 (x3 + (1 : Int32))) fun i158 =>
    hO (lI σ156 x0 (x3 + (2 : Int32))) fun i159 =>
    hO (lI σ156 x0 (x3 + (3 : Int32))) fun i160 =>
    bif isC σ156 9 x2 then hI (EC d mM_fit [.ref x2, .int i158, .int i159, .int i160] σ156) fun i162 σ161 =>
    if i157 = i162 then
      Ev (d + 1) mL_law 1189 [(0, .ref x0), (1, .ref x1), (2, .ref x2), (3, .int x3)] [] σ161
    else
    some (some (.int 0), σ161)
    else none
    else none
  else if (i2 &&& (63 : Int32)) = 23 then
    hO (lI σ x0 (x3 + (1 : Int32))) fun i163 =>
    bif isC σ 8 x1 then hI (EC d mX_match [.ref x1, .int i163] σ) fun i165 σ164 =>
    hO (lI σ164 x0 (x3 + (1 : Int32))) fun i166 =>
    bif isC σ164 9 x2 then hI (EC d mM_match [.ref x2, .int i166] σ164) fun i168 σ167 =>
    if i165 = i168 then
      Ev (d + 1) mL_law 1189 [(0, .ref x0), (1, .ref x1), (2, .ref x2), (3, .int x3)] [] σ167
    else
    some (some (.int 0), σ167)
    else none
    else none
  else if (i2 &&& (63 : Int32)) = 24 then
    bif isC σ 8 x1 then hI (EC d mX_odd [.ref x1] σ) fun i170 σ169 =>
    bif isC σ169 9 x2 then hI (EC d mM_odd [.ref x2] σ169) fun i172 σ171 =>
    if i170 = i172 then
      Ev (d + 1) mL_law 1189 [(0, .ref x0), (1, .ref x1), (2, .ref x2), (3, .int x3)] [] σ171
    else
    some (some (.int 0), σ171)
    else none
    else none
  else if (i2 &&& (63 : Int32)) = 25 then
    hO (lI σ x0 (x3 + (1 : Int32))) fun i173 =>
    bif isC σ 8 x1 then hI (EC d mX_apart [.ref x1, .int i173] σ) fun i175 σ174 =>
    hO (lI σ174 x0 (x3 + (1 : Int32))) fun i176 =>
    bif isC σ174 9 x2 then hI (EC d mM_apart [.ref x2, .int i176] σ174) fun i178 σ177 =>
    if i175 = i178 then
      Ev (d + 1) mL_law 1189 [(0, .ref x0), (1, .ref x1), (2, .ref x2), (3, .int x3)] [] σ177
    else
    some (some (.int 0), σ177)
    else none
    else none
  else if (i2 &&& (63 : Int32)) = 26 then
    hO (lI σ x0 (x3 + (1 : Int32))) fun i179 =>
    hO (lI σ x0 (x3 + (2 : Int32))) fun i180 =>
    hO (lI σ x0 (x3 + (3 : Int32))) fun i181 =>
    bif isC σ 8 x1 then hI (EC d mX_told [.ref x1, .int i179, .int i180, .int i181] σ) fun i183 σ182 =>
    hO (lI σ182 x0 (x3 + (1 : Int32))) fun i184 =>
    hO (lI σ182 x0 (x3 + (2 : Int32))) fun i185 =>
    hO (lI σ182 x0 (x3 + (3 : Int32))) fun i186 =>
    bif isC σ182 9 x2 then hI (EC d mM_told [.ref x2, .int i184, .int i185, .int i186] σ182) fun i188 σ187 =>
    if i183 = i188 then
      Ev (d + 1) mL_law 1189 [(0, .ref x0), (1, .ref x1), (2, .ref x2), (3, .int x3)] [] σ187
    else
    some (some (.int 0), σ187)
    else none
    else none
  else if (i2 &&& (63 : Int32)) = 27 then
    hO (lI σ x0 (x3 + (1 : Int32))) fun i189 =>
    bif isC σ 8 x1 then hI (EC d mX_settle [.ref x1, .int i189] σ) fun i191 σ190 =>
    hO (lI σ190 x0 (x3 + (1 : Int32))) fun i192 =>
    bif isC σ190 9 x2 then hI (EC d mM_settle [.ref x2, .int i192] σ190) fun i194 σ193 =>
    if i191 = i194 then
      Ev (d + 1) mL_law 1189 [(0, .ref x0), (1, .ref x1), (2, .ref x2), (3, .int x3)] [] σ193
    else
    some (some (.int 0), σ193)
    else none
    else none
  else if (i2 &&& (63 : Int32)) = 28 then
    hO (lI σ x0 (x3 + (1 : Int32))) fun i195 =>
    bif isC σ 8 x1 then hI (EC d mX_ring [.ref x1, .int i195] σ) fun i197 σ196 =>
    hO (lI σ196 x0 (x3 + (1 : Int32))) fun i198 =>
    bif isC σ196 9 x2 then hI (EC d mM_ring [.ref x2, .int i198] σ196) fun i200 σ199 =>
    if i197 = i200 then
      Ev (d + 1) mL_law 1189 [(0, .ref x0), (1, .ref x1), (2, .ref x2), (3, .int x3)] [] σ199
    else
    some (some (.int 0), σ199)
    else none
    else none
  else if (i2 &&& (63 : Int32)) = 29 then
    hO (lI σ x0 (x3 + (1 : Int32))) fun i201 =>
    hO (lI σ x0 (x3 + (2 : Int32))) fun i202 =>
    bif isC σ 8 x1 then hI (EC d mX_chain [.ref x1, .int i201, .int i202] σ) fun i204 σ203 =>
    hO (lI σ203 x0 (x3 + (1 : Int32))) fun i205 =>
    hO (lI σ203 x0 (x3 + (2 : Int32))) fun i206 =>
    bif isC σ203 9 x2 then hI (EC d mM_chain [.ref x2, .int i205, .int i206] σ203) fun i208 σ207 =>
    if i204 = i208 then
      Ev (d + 1) mL_law 1189 [(0, .ref x0), (1, .ref x1), (2, .ref x2), (3, .int x3)] [] σ207
    else
    some (some (.int 0), σ207)
    else none
    else none
  else if (i2 &&& (63 : Int32)) = 30 then
    hO (lI σ x0 (x3 + (1 : Int32))) fun i209 =>
    bif isC σ 8 x1 then hI (EC d mX_calls [.ref x1, .int i209] σ) fun i211 σ210 =>
    hO (lI σ210 x0 (x3 + (1 : Int32))) fun i212 =>
    bif isC σ210 9 x2 then hI (EC d mM_calls [.ref x2, .int i212] σ210) fun i214 σ213 =>
    if i211 = i214 then
      Ev (d + 1) mL_law 1189 [(0, .ref x0), (1, .ref x1), (2, .ref x2), (3, .int x3)] [] σ213
    else
    some (some (.int 0), σ213)
    else none
    else none
  else if (i2 &&& (63 : Int32)) = 31 then
    hO (lI σ x0 (x3 + (1 : Int32))) fun i215 =>
    hO (lI σ x0 (x3 + (2 : Int32))) fun i216 =>
    bif isC σ 8 x1 then hI (EC d mX_years [.ref x1, .int i215, .int i216] σ) fun i218 σ217 =>
    hO (lI σ217 x0 (x3 + (1 : Int32))) fun i219 =>
    hO (lI σ217 x0 (x3 + (2 : Int32))) fun i220 =>
    bif isC σ217 9 x2 then hI (EC d mM_years [.ref x2, .int i219, .int i220] σ217) fun i222 σ221 =>
    if i218 = i222 then
      Ev (d + 1) mL_law 1189 [(0, .ref x0), (1, .ref x1), (2, .ref x2), (3, .int x3)] [] σ221
    else
    some (some (.int 0), σ221)
    else none
    else none
  else if (i2 &&& (63 : Int32)) = 32 then
    hO (lI σ x0 (x3 + (1 : Int32))) fun i223 =>
    hO (lI σ x0 (x3 + (2 : Int32))) fun i224 =>
    bif isC σ 8 x1 then hI (EC d mX_drawn [.ref x1, .int i223, .int i224] σ) fun i226 σ225 =>
    hO (lI σ225 x0 (x3 + (1 : Int32))) fun i227 =>
    hO (lI σ225 x0 (x3 + (2 : Int32))) fun i228 =>
    bif isC σ225 9 x2 then hI (EC d mM_drawn [.ref x2, .int i227, .int i228] σ225) fun i230 σ229 =>
    if i226 = i230 then
      Ev (d + 1) mL_law 1189 [(0, .ref x0), (1, .ref x1), (2, .ref x2), (3, .int x3)] [] σ229
    else
    some (some (.int 0), σ229)
    else none
    else none
  else if (i2 &&& (63 : Int32)) = 33 then
    hO (lI σ x0 (x3 + (1 : Int32))) fun i231 =>
    bif isC σ 8 x1 then hI (EC d mX_image [.ref x1, .int i231] σ) fun i233 σ232 =>
    hO (lI σ232 x0 (x3 + (1 : Int32))) fun i234 =>
    bif isC σ232 9 x2 then hI (EC d mM_image [.ref x2, .int i234] σ232) fun i236 σ235 =>
    if i233 = i236 then
      Ev (d + 1) mL_law 1189 [(0, .ref x0), (1, .ref x1), (2, .ref x2), (3, .int x3)] [] σ235
    else
    some (some (.int 0), σ235)
    else none
    else none
  else if (i2 &&& (63 : Int32)) = 34 then
    hO (lI σ x0 (x3 + (1 : Int32))) fun i237 =>
    bif isC σ 8 x1 then hI (EC d mX_back [.ref x1, .int i237] σ) fun i239 σ238 =>
    hO (lI σ238 x0 (x3 + (1 : Int32))) fun i240 =>
    bif isC σ238 9 x2 then hI (EC d mM_back [.ref x2, .int i240] σ238) fun i242 σ241 =>
    if i239 = i242 then
      Ev (d + 1) mL_law 1189 [(0, .ref x0), (1, .ref x1), (2, .ref x2), (3, .int x3)] [] σ241
    else
    some (some (.int 0), σ241)
    else none
    else none
  else if (i2 &&& (63 : Int32)) = 35 then
    hO (lI σ x0 (x3 + (1 : Int32))) fun i243 =>
    bif isC σ 8 x1 then hI (EC d mX_count [.ref x1, .int i243] σ) fun i245 σ244 =>
    hO (lI σ244 x0 (x3 + (1 : Int32))) fun i246 =>
    bif isC σ244 9 x2 then hI (EC d mM_count [.ref x2, .int i246] σ244) fun i248 σ247 =>
    if i245 = i248 then
      Ev (d + 1) mL_law 1189 [(0, .ref x0), (1, .ref x1), (2, .ref x2), (3, .int x3)] [] σ247
    else
    some (some (.int 0), σ247)
    else none
    else none
  else if (i2 &&& (63 : Int32)) = 36 then
    bif isC σ 8 x1 then hI (EC d mX_status [.ref x1] σ) fun i250 σ249 =>
    bif isC σ249 9 x2 then hI (EC d mM_status [.ref x2] σ249) fun i252 σ251 =>
    if i250 = i252 then
      Ev (d + 1) mL_law 1189 [(0, .ref x0), (1, .ref x1), (2, .ref x2), (3, .int x3)] [] σ251
    else
    some (some (.int 0), σ251)
    else none
    else none
  else 
  Ev (d + 1) mL_law 1189 [(0, .ref x0), (1, .ref x1), (2, .ref x2), (3, .int x3)] [] σ := (Ev_blk d mL_law 80 _ _ _ _).trans rfl
set_option maxRecDepth 100000 in
theorem q_L_law_1189 (d : Nat) (x0 : Nat) (x1 : Nat) (x2 : Nat) (x3 : Int32) (σ : Mem) : Ev (d + 1) mL_law 1189 [(0, .ref x0), (1, .ref x1), (2, .ref x2), (3, .int x3)] [] σ =
  Ev (d + 1) mL_law 18 [(0, .ref x0), (1, .ref x1), (2, .ref x2), (3, .int (x3 + 7))] [] σ := (Ev_blk d mL_law 3 _ _ _ _).trans rfl
