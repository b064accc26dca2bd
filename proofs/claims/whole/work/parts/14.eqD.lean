/-! ===== what each method does, a stretch at a time (printed by wip/whole/mkeqs.py) ===== -/
set_option maxRecDepth 100000 in
theorem q_M_lies (d : Nat) (a0 : Int32) (a1 : Int32) (a2 : Int32) (σ : Mem) : EC (d + 1) mM_lies [.int a0, .int a1, .int a2] σ =
  if a0 < a1 then
    some (some (.int 0), σ)
  else
  if a2 < a0 then
    some (some (.int 0), σ)
  else
  some (some (.int 1), σ) := (Ev_blk d mM_lies 10 _ _ _ _).trans rfl
set_option maxRecDepth 100000 in
theorem q_M_refuses (d : Nat) (a0 : Nat) (a1 : Int32) (σ : Mem) : EC (d + 1) mM_refuses [.ref a0, .int a1] σ =
  hO (pF σ 9 a0 0 (.int a1)) fun σ1 =>
  hO (gR σ1 9 a0 1) fun r2 =>
  hO (lI σ1 r2 (-a1)) fun i3 =>
  hO (sI σ1 r2 (-a1) (i3 + (1 : Int32))) fun σ4 =>
  some (some (.int a1), σ4) := (Ev_blk d mM_refuses 15 _ _ _ _).trans rfl
set_option maxRecDepth 100000 in
theorem q_M_good (d : Nat) (a0 : Nat) (a1 : Int32) (σ : Mem) : EC (d + 1) mM_good [.ref a0, .int a1] σ =
  hO (pF σ 9 a0 0 (.int 0)) fun σ1 =>
  some (some (.int a1), σ1) := (Ev_blk d mM_good 6 _ _ _ _).trans rfl
set_option maxRecDepth 100000 in
theorem q_M_settled (d : Nat) (a0 : Nat) (a1 : Int32) (σ : Mem) : EC (d + 1) mM_settled [.ref a0, .int a1] σ =
  hO (pF σ 9 a0 31 (.int 0)) fun σ1 =>
  bif isC σ1 9 a0 then hI (EC d mM_good [.ref a0, .int a1] σ1) fun i3 σ2 =>
  some (some (.int i3), σ2)
  else none := (Ev_blk d mM_settled 8 _ _ _ _).trans rfl
set_option maxRecDepth 100000 in
theorem q_M_isIn (d : Nat) (a0 : Int32) (a1 : Int32) (σ : Mem) : EC (d + 1) mM_isIn [.int a0, .int a1] σ =
  if (((a0 >>> (a1 &&& 31)) &&& (1 : Int32)) : Int32) = 1 then
    some (some (.int 1), σ)
  else
  some (some (.int 0), σ) := (Ev_blk d mM_isIn 11 _ _ _ _).trans rfl
set_option maxRecDepth 100000 in
theorem q_M_ones (d : Nat) (a0 : Int32) (σ : Mem) : EC (d + 1) mM_ones [.int a0] σ =
  Ev (d + 1) mM_ones 4 [(0, .int a0), (1, .int 0), (2, .int 0)] [] σ := (Ev_blk d mM_ones 5 _ _ _ _).trans rfl
set_option maxRecDepth 100000 in
theorem q_M_ones_4 (d : Nat) (x0 : Int32) (x1 : Int32) (x2 : Int32) (σ : Mem) : Ev (d + 1) mM_ones 4 [(0, .int x0), (1, .int x1), (2, .int x2)] [] σ =
  if 12 ≤ x2 then
    some (some (.int x1), σ)
  else
  Ev (d + 1) mM_ones 4 [(0, .int x0), (1, .int (x1 + ((x0 >>> (x2 &&& 31)) &&& (1 : Int32)))), (2, .int (x2 + 1))] [] σ := (Ev_blk d mM_ones 14 _ _ _ _).trans rfl
set_option maxRecDepth 100000 in
theorem q_M_lesser (d : Nat) (a0 : Int32) (a1 : Int32) (σ : Mem) : EC (d + 1) mM_lesser [.int a0, .int a1] σ =
  if a1 ≤ a0 then
    some (some (.int a1), σ)
  else
  some (some (.int a0), σ) := (Ev_blk d mM_lesser 7 _ _ _ _).trans rfl
set_option maxRecDepth 100000 in
theorem q_M_greater (d : Nat) (a0 : Int32) (a1 : Int32) (σ : Mem) : EC (d + 1) mM_greater [.int a0, .int a1] σ =
  if a0 ≤ a1 then
    some (some (.int a1), σ)
  else
  some (some (.int a0), σ) := (Ev_blk d mM_greater 7 _ _ _ _).trans rfl
set_option maxRecDepth 100000 in
theorem q_M_init (d : Nat) (a0 : Nat) (σ : Mem) : EC (d + 1) mM_init [.ref a0] σ =
  hO (newA σ 0 7) fun q1 =>
  hO (pF q1.2 9 a0 1 (.ref q1.1)) fun σ2 =>
  hO (newA σ2 0 5711) fun q3 =>
  hO (pF q3.2 9 a0 2 (.ref q3.1)) fun σ4 =>
  hO (newA σ4 0 11422) fun q5 =>
  hO (pF q5.2 9 a0 3 (.ref q5.1)) fun σ6 =>
  hO (newA σ6 2 2) fun q7 =>
  hO (pF q7.2 9 a0 4 (.ref q7.1)) fun σ8 =>
  hO (newA σ8 0 333) fun q9 =>
  hO (pF q9.2 9 a0 5 (.ref q9.1)) fun σ10 =>
  hO (newA σ10 1 122) fun q11 =>
  hO (sB q11.2 q11.1 0 112) fun σ12 =>
  hO (sB σ12 q11.1 1 97) fun σ13 =>
  hO (sB σ13 q11.1 2 121) fun σ14 =>
  hO (sB σ14 q11.1 3 115) fun σ15 =>
  hO (sB σ15 q11.1 4 32) fun σ16 =>
  hO (sB σ16 q11.1 5 119) fun σ17 =>
  hO (sB σ17 q11.1 6 101) fun σ18 =>
  hO (sB σ18 q11.1 7 97) fun σ19 =>
  hO (sB σ19 q11.1 8 114) fun σ20 =>
  hO (sB σ20 q11.1 9 115) fun σ21 =>
  hO (sB σ21 q11.1 10 32) fun σ22 =>
  hO (sB σ22 q11.1 11 98) fun σ23 =>
  hO (sB σ23 q11.1 12 97) fun σ24 =>
  hO (sB σ24 q11.1 13 114) fun σ25 =>
  hO (sB σ25 q11.1 14 115) fun σ26 =>
  hO (sB σ26 q11.1 15 32) fun σ27 =>
  hO (sB σ27 q11.1 16 105) fun σ28 =>
  hO (sB σ28 q11.1 17 102) fun σ29 =>
  hO (sB σ29 q11.1 18 32) fun σ30 =>
  hO (sB σ30 q11.1 19 111) fun σ31 =>
  hO (sB σ31 q11.1 20 114) fun σ32 =>
  hO (sB σ32 q11.1 21 32) fun σ33 =>
  hO (sB σ33 q11.1 22 97) fun σ34 =>
  hO (sB σ34 q11.1 23 110) fun σ35 =>
  hO (sB σ35 q11.1 24 100) fun σ36 =>
  hO (sB σ36 q11.1 25 32) fun σ37 =>
  hO (sB σ37 q11.1 26 110) fun σ38 =>
  hO (sB σ38 q11.1 27 111) fun σ39 =>
  hO (sB σ39 q11.1 28 116) fun σ40 =>
  hO (sB σ40 q11.1 29 32) fun σ41 =>
  hO (sB σ41 q11.1 30 111) fun σ42 =>
  hO (sB σ42 q11.1 31 119) fun σ43 =>
  hO (sB σ43 q11.1 32 101) fun σ44 =>
  hO (sB σ44 q11.1 33 115) fun σ45 =>
  hO (sB σ45 q11.1 34 32) fun σ46 =>
  hO (sB σ46 q11.1 35 104) fun σ47 =>
  hO (sB σ47 q11.1 36 111) fun σ48 =>
  hO (sB σ48 q11.1 37 108) fun σ49 =>
  hO (sB σ49 q11.1 38 100) fun σ50 =>
  hO (sB σ50 q11.1 39 115) fun σ51 =>
  hO (sB σ51 q11.1 40 32) fun σ52 =>
  hO (sB σ52 q11.1 41 107) fun σ53 =>
  hO (sB σ53 q11.1 42 105) fun σ54 =>
  hO (sB σ54 q11.1 43 110) fun σ55 =>
  hO (sB σ55 q11.1 44 100) fun σ56 =>
  hO (sB σ56 q11.1 45 32) fun σ57 =>
  hO (sB σ57 q11.1 46 108) fun σ58 =>
  hO (sB σ58 q11.1 47 97) fun σ59 =>
  hO (sB σ59 q11.1 48 116) fun σ60 =>
  hO (sB σ60 q11.1 49 101) fun σ61 =>
  hO (sB σ61 q11.1 50 32) fun σ62 =>
  hO (sB σ62 q11.1 51 116) fun σ63 =>
  hO (sB σ63 q11.1 52 111) fun σ64 =>
  hO (sB σ64 q11.1 53 32) fun σ65 =>
  hO (sB σ65 q11.1 54 109) fun σ66 =>
  hO (sB σ66 q11.1 55 111) fun σ67 =>
  hO (sB σ67 q11.1 56 111) fun σ68 =>
  hO (sB σ68 q11.1 57 100) fun σ69 =>
  hO (sB σ69 q11.1 58 32) fun σ70 =>
  hO (sB σ70 q11.1 59 115) fun σ71 =>
  hO (sB σ71 q11.1 60 117) fun σ72 =>
  hO (sB σ72 q11.1 61 109) fun σ73 =>
  hO (sB σ73 q11.1 62 32) fun σ74 =>
  hO (sB σ74 q11.1 63 112) fun σ75 =>
  hO (sB σ75 q11.1 64 117) fun σ76 =>
  hO (sB σ76 q11.1 65 114) fun σ77 =>
  hO (sB σ77 q11.1 66 115) fun σ78 =>
  hO (sB σ78 q11.1 67 101) fun σ79 =>
  hO (sB σ79 q11.1 68 32) fun σ80 =>
  hO (sB σ80 q11.1 69 100) fun σ81 =>
  hO (sB σ81 q11.1 70 97) fun σ82 =>
  hO (sB σ82 q11.1 71 121) fun σ83 =>
  hO (sB σ83 q11.1 72 32) fun σ84 =>
  hO (sB σ84 q11.1 73 100) fun σ85 =>
  hO (sB σ85 q11.1 74 111) fun σ86 =>
  hO (sB σ86 q11.1 75 110) fun σ87 =>
  hO (sB σ87 q11.1 76 101) fun σ88 =>
  hO (sB σ88 q11.1 77 32) fun σ89 =>
  hO (sB σ89 q11.1 78 108) fun σ90 =>
  hO (sB σ90 q11.1 79 97) fun σ91 =>
  hO (sB σ91 q11.1 80 116) fun σ92 =>
  hO (sB σ92 q11.1 81 101) fun σ93 =>
  hO (sB σ93 q11.1 82 115) fun σ94 =>
  hO (sB σ94 q11.1 83 116) fun σ95 =>
  hO (sB σ95 q11.1 84 32) fun σ96 =>
  hO (sB σ96 q11.1 85 104) fun σ97 =>
  hO (sB σ97 q11.1 86 111) fun σ98 =>
  hO (sB σ98 q11.1 87 108) fun σ99 =>
  hO (sB σ99 q11.1 88 100) fun σ100 =>
  hO (sB σ100 q11.1 89 101) fun σ101 =>
  hO (sB σ101 q11.1 90 114) fun σ102 =>
  hO (sB σ102 q11.1 91 32) fun σ103 =>
  hO (sB σ103 q11.1 92 103) fun σ104 =>
  hO (sB σ104 q11.1 93 105) fun σ105 =>
  hO (sB σ105 q11.1 94 118) fun σ106 =>
  hO (sB σ106 q11.1 95 101) fun σ107 =>
  hO (sB σ107 q11.1 96 32) fun σ108 =>
  hO (sB σ108 q11.1 97 99) fun σ109 =>
  hO (sB σ109 q11.1 98 97) fun σ110 =>
  hO (sB σ110 q11.1 99 108) fun σ111 =>
  hO (sB σ111 q11.1 100 108) fun σ112 =>
  hO (sB σ112 q11.1 101 32) fun σ113 =>
  hO (sB σ113 q11.1 102 115) fun σ114 =>
  hO (sB σ114 q11.1 103 104) fun σ115 =>
  hO (sB σ115 q11.1 104 97) fun σ116 =>
  hO (sB σ116 q11.1 105 118) fun σ117 =>
  hO (sB σ117 q11.1 106 101) fun σ118 =>
  hO (sB σ118 q11.1 107 32) fun σ119 =>
  hO (sB σ119 q11.1 108 98) fun σ120 =>
  hO (sB σ120 q11.1 109 121) fun σ121 =>
  hO (sB σ121 q11.1 110 32) fun σ122 =>
  hO (sB σ122 q11.1 111 112) fun σ123 =>
  hO (sB σ123 q11.1 112 97) fun σ124 =>
  hO (sB σ124 q11.1 113 115) fun σ125 =>
  hO (sB σ125 q11.1 114 115) fun σ126 =>
  hO (sB σ126 q11.1 115 32) fun σ127 =>
  hO (sB σ127 q11.1 116 116) fun σ128 =>
  hO (sB σ128 q11.1 117 105) fun σ129 =>
  hO (sB σ129 q11.1 118 109) fun σ130 =>
  hO (sB σ130 q11.1 119 101) fun σ131 =>
  hO (sB σ131 q11.1 120 115) fun σ132 =>
  hO (sB σ132 q11.1 121 32) fun σ133 =>
  hO (pF σ133 9 a0 7 (.ref q11.1)) fun σ134 =>
  hO (newA σ134 1 400) fun q135 =>
  hO (pF q135.2 9 a0 11 (.ref q135.1)) fun σ136 =>
  hO (newA σ136 0 5) fun q137 =>
  hO (pF q137.2 9 a0 12 (.ref q137.1)) fun σ138 =>
  hO (pF σ138 9 a0 14 (.int (-1))) fun σ139 =>
  hO (newA σ139 0 401) fun q140 =>
  hO (pF q140.2 9 a0 15 (.ref q140.1)) fun σ141 =>
  hO (newA σ141 0 401) fun q142 =>
  hO (pF q142.2 9 a0 16 (.ref q142.1)) fun σ143 =>
  hO (newA σ143 0 401) fun q144 =>
  hO (pF q144.2 9 a0 17 (.ref q144.1)) fun σ145 =>
  hO (newA σ145 0 9) fun q146 =>
  hO (pF q146.2 9 a0 26 (.ref q146.1)) fun σ147 =>
  hO (newA σ147 0 608) fun q148 =>
  hO (pF q148.2 9 a0 29 (.ref q148.1)) fun σ149 =>
  hO (newA σ149 0 608) fun q150 =>
  hO (pF q150.2 9 a0 30 (.ref q150.1)) fun σ151 =>
  hO (newA σ151 2 100) fun q152 =>
  hO (pF q152.2 9 a0 32 (.ref q152.1)) fun σ153 =>
  hO (newA σ153 1 11264) fun q154 =>
  hO (pF q154.2 9 a0 33 (.ref q154.1)) fun σ155 =>
  hO (newA σ155 0 6) fun q156 =>
  hO (pF q156.2 9 a0 34 (.ref q156.1)) fun σ157 =>
  hO (newA σ157 0 6) fun q158 =>
  hO (pF q158.2 9 a0 35 (.ref q158.1)) fun σ159 =>
  hO (newA σ159 0 6) fun q160 =>
  hO (pF q160.2 9 a0 36 (.ref q160.1)) fun σ161 =>
  hO (newA σ161 0 6) fun q162 =>
  hO (pF q162.2 9 a0 37 (.ref q162.1)) fun σ163 =>
  hO (newA σ163 0 6) fun q164 =>
  hO (pF q164.2 9 a0 39 (.ref q164.1)) fun σ165 =>
  hO (newA σ165 0 7) fun q166 =>
  hO (pF q166.2 9 a0 40 (.ref q166.1)) fun σ167 =>
  hO (newA σ167 0 7) fun q168 =>
  hO (pF q168.2 9 a0 41 (.ref q168.1)) fun σ169 =>
  hO (pF σ169 9 a0 43 (.int (-1))) fun σ170 =>
  hO (newA σ170 3 2) fun q171 =>
  hO (pF q171.2 9 a0 49 (.ref q171.1)) fun σ172 =>
  hO (newA σ172 0 6) fun q173 =>
  hO (pF q173.2 9 a0 50 (.ref q173.1)) fun σ174 =>
  hO (newA σ174 0 10) fun q175 =>
  hO (pF q175.2 9 a0 51 (.ref q175.1)) fun σ176 =>
  hO (newA σ176 0 10) fun q177 =>
  hO (pF q177.2 9 a0 52 (.ref q177.1)) fun σ178 =>
  hO (pF σ178 9 a0 53 (.int (-1))) fun σ179 =>
  hO (gR σ179 9 a0 2) fun r180 =>
  hO (sI σ179 r180 97 2) fun σ181 =>
  hO (gR σ181 9 a0 2) fun r182 =>
  hO (sI σ181 r182 103 (-1)) fun σ183 =>
  some (none, σ183) := (Ev_blk d mM_init 619 _ _ _ _).trans rfl
set_option maxRecDepth 100000 in
theorem q_M_laysAside (d : Nat) (a0 : Nat) (a1 : Int32) (σ : Mem) : EC (d + 1) mM_laysAside [.ref a0, .int a1] σ =
  Ev (d + 1) mM_laysAside 2 [(0, .ref a0), (1, .int a1), (2, .int 0)] [] σ := (Ev_blk d mM_laysAside 3 _ _ _ _).trans rfl
set_option maxRecDepth 100000 in
theorem q_M_laysAside_2 (d : Nat) (x0 : Nat) (x1 : Int32) (x2 : Int32) (σ : Mem) : Ev (d + 1) mM_laysAside 2 [(0, .ref x0), (1, .int x1), (2, .int x2)] [] σ =
  if 37 ≤ x2 then
    some (none, σ)
  else
  hO (gR σ 9 x0 5) fun r1 =>
  hO (gR σ 9 x0 2) fun r2 =>
  hO (lI σ r2 x2) fun i3 =>
  hO (sI σ r1 (((37 : Int32) * x1) + x2) i3) fun σ4 =>
  Ev (d + 1) mM_laysAside 2 [(0, .ref x0), (1, .int x1), (2, .int (x2 + 1))] [] σ4 := (Ev_blk d mM_laysAside 18 _ _ _ _).trans rfl
set_option maxRecDepth 100000 in
theorem q_M_takesBack (d : Nat) (a0 : Nat) (a1 : Int32) (σ : Mem) : EC (d + 1) mM_takesBack [.ref a0, .int a1] σ =
  Ev (d + 1) mM_takesBack 2 [(0, .ref a0), (1, .int a1), (2, .int 0)] [] σ := (Ev_blk d mM_takesBack 3 _ _ _ _).trans rfl
set_option maxRecDepth 100000 in
theorem q_M_takesBack_2 (d : Nat) (x0 : Nat) (x1 : Int32) (x2 : Int32) (σ : Mem) : Ev (d + 1) mM_takesBack 2 [(0, .ref x0), (1, .int x1), (2, .int x2)] [] σ =
  if 37 ≤ x2 then
    some (none, σ)
  else
  hO (gR σ 9 x0 2) fun r1 =>
  hO (gR σ 9 x0 5) fun r2 =>
  hO (lI σ r2 (((37 : Int32) * x1) + x2)) fun i3 =>
  hO (sI σ r1 x2 i3) fun σ4 =>
  Ev (d + 1) mM_takesBack 2 [(0, .ref x0), (1, .int x1), (2, .int (x2 + 1))] [] σ4 := (Ev_blk d mM_takesBack 18 _ _ _ _).trans rfl
set_option maxRecDepth 100000 in
theorem q_M_image (d : Nat) (a0 : Nat) (a1 : Int32) (σ : Mem) : EC (d + 1) mM_image [.ref a0, .int a1] σ =
  hI (EC d mM_lies [.int a1, .int 0, .int 1] σ) fun i2 σ1 =>
  if i2 = 0 then
    bif isC σ1 9 a0 then hI (EC d mM_refuses [.ref a0, .int (-1)] σ1) fun i4 σ3 =>
    some (some (.int i4), σ3)
    else none
  else
  Ev (d + 1) mM_image 17 [(0, .ref a0), (1, .int a1), (2, .int 0)] [] σ1 := (Ev_blk d mM_image 10 _ _ _ _).trans rfl
set_option maxRecDepth 100000 in
theorem q_M_image_17 (d : Nat) (x0 : Nat) (x1 : Int32) (x2 : Int32) (σ : Mem) : Ev (d + 1) mM_image 17 [(0, .ref x0), (1, .int x1), (2, .int x2)] [] σ =
  if 5711 ≤ x2 then
    hO (gR σ 9 x0 4) fun r1 =>
    hO (sB σ r1 x1 1) fun σ2 =>
    bif isC σ2 9 x0 then hI (EC d mM_good [.ref x0, .int 0] σ2) fun i4 σ3 =>
    some (some (.int i4), σ3)
    else none
  else
  hO (gR σ 9 x0 3) fun r5 =>
  hO (gR σ 9 x0 2) fun r6 =>
  hO (lI σ r6 x2) fun i7 =>
  hO (sI σ r5 (((5711 : Int32) * x1) + x2) i7) fun σ8 =>
  Ev (d + 1) mM_image 17 [(0, .ref x0), (1, .int x1), (2, .int (x2 + 1))] [] σ8 := (Ev_blk d mM_image 18 _ _ _ _).trans rfl
set_option maxRecDepth 100000 in
theorem q_M_back (d : Nat) (a0 : Nat) (a1 : Int32) (σ : Mem) : EC (d + 1) mM_back [.ref a0, .int a1] σ =
  hI (EC d mM_lies [.int a1, .int 0, .int 1] σ) fun i2 σ1 =>
  if i2 = 0 then
    bif isC σ1 9 a0 then hI (EC d mM_refuses [.ref a0, .int (-1)] σ1) fun i4 σ3 =>
    some (some (.int i4), σ3)
    else none
  else
  hO (gR σ1 9 a0 4) fun r5 =>
  hO (lB σ1 r5 a1) fun i6 =>
  if i6 = 0 then
    bif isC σ1 9 a0 then hI (EC d mM_refuses [.ref a0, .int (-2)] σ1) fun i8 σ7 =>
    some (some (.int i8), σ7)
    else none
  else
  Ev (d + 1) mM_back 33 [(0, .ref a0), (1, .int a1), (2, .int 0)] [] σ1 := (Ev_blk d mM_back 15 _ _ _ _).trans rfl
set_option maxRecDepth 100000 in
theorem q_M_back_33 (d : Nat) (x0 : Nat) (x1 : Int32) (x2 : Int32) (σ : Mem) : Ev (d + 1) mM_back 33 [(0, .ref x0), (1, .int x1), (2, .int x2)] [] σ =
  if 5711 ≤ x2 then
    bif isC σ 9 x0 then hI (EC d mM_settled [.ref x0, .int 0] σ) fun i2 σ1 =>
    some (some (.int i2), σ1)
    else none
  else
  hO (gR σ 9 x0 2) fun r3 =>
  hO (gR σ 9 x0 3) fun r4 =>
  hO (lI σ r4 (((5711 : Int32) * x1) + x2)) fun i5 =>
  hO (sI σ r3 x2 i5) fun σ6 =>
  Ev (d + 1) mM_back 33 [(0, .ref x0), (1, .int x1), (2, .int (x2 + 1))] [] σ6 := (Ev_blk d mM_back 18 _ _ _ _).trans rfl
set_option maxRecDepth 100000 in
theorem q_M_isPerson (d : Nat) (a0 : Nat) (a1 : Int32) (σ : Mem) : EC (d + 1) mM_isPerson [.ref a0, .int a1] σ =
  hO (gR σ 9 a0 2) fun r1 =>
  hO (lI σ r1 99) fun i2 =>
  hI (EC d mM_lies [.int a1, .int 0, .int (i2 - (1 : Int32))] σ) fun i4 σ3 =>
  bif okZ i4 then some (some (.int i4), σ3) else none := (Ev_blk d mM_isPerson 11 _ _ _ _).trans rfl
set_option maxRecDepth 100000 in
theorem q_M_isStick (d : Nat) (a0 : Nat) (a1 : Int32) (σ : Mem) : EC (d + 1) mM_isStick [.ref a0, .int a1] σ =
  hO (gR σ 9 a0 2) fun r1 =>
  hO (lI σ r1 100) fun i2 =>
  hI (EC d mM_lies [.int a1, .int 0, .int (i2 - (1 : Int32))] σ) fun i4 σ3 =>
  bif okZ i4 then some (some (.int i4), σ3) else none := (Ev_blk d mM_isStick 11 _ _ _ _).trans rfl
set_option maxRecDepth 100000 in
theorem q_M_isFoil (d : Nat) (a0 : Nat) (a1 : Int32) (σ : Mem) : EC (d + 1) mM_isFoil [.ref a0, .int a1] σ =
  hO (gR σ 9 a0 2) fun r1 =>
  hO (lI σ r1 101) fun i2 =>
  hI (EC d mM_lies [.int a1, .int 0, .int (i2 - (1 : Int32))] σ) fun i4 σ3 =>
  bif okZ i4 then some (some (.int i4), σ3) else none := (Ev_blk d mM_isFoil 11 _ _ _ _).trans rfl
set_option maxRecDepth 100000 in
theorem q_M_isPaid (d : Nat) (a0 : Nat) (a1 : Int32) (σ : Mem) : EC (d + 1) mM_isPaid [.ref a0, .int a1] σ =
  hO (gR σ 9 a0 2) fun r1 =>
  hO (lI σ r1 ((26 : Int32) + a1)) fun i2 =>
  if i2 = 1 then
    some (some (.int 1), σ)
  else
  some (some (.int 0), σ) := (Ev_blk d mM_isPaid 12 _ _ _ _).trans rfl
set_option maxRecDepth 100000 in
theorem q_M_isGrain (d : Nat) (a0 : Int32) (σ : Mem) : EC (d + 1) mM_isGrain [.int a0] σ =
  hI (EC d mM_lies [.int a0, .int 0, .int 4095] σ) fun i2 σ1 =>
  bif okZ i2 then some (some (.int i2), σ1) else none := (Ev_blk d mM_isGrain 6 _ _ _ _).trans rfl
set_option maxRecDepth 100000 in
theorem q_M_person (d : Nat) (a0 : Nat) (a1 : Int32) (σ : Mem) : EC (d + 1) mM_person [.ref a0, .int a1] σ =
  hI (EC d mM_lies [.int a1, .int 0, .int 9999] σ) fun i2 σ1 =>
  if i2 = 0 then
    bif isC σ1 9 a0 then hI (EC d mM_refuses [.ref a0, .int (-1)] σ1) fun i4 σ3 =>
    some (some (.int i4), σ3)
    else none
  else
  hO (gR σ1 9 a0 2) fun r5 =>
  hO (lI σ1 r5 99) fun i6 =>
  if i6 = 6 then
    bif isC σ1 9 a0 then hI (EC d mM_refuses [.ref a0, .int (-5)] σ1) fun i8 σ7 =>
    some (some (.int i8), σ7)
    else none
  else
  hO (gR σ1 9 a0 2) fun r9 =>
  hO (sI σ1 r9 ((0 : Int32) + i6) a1) fun σ10 =>
  hO (gR σ10 9 a0 2) fun r11 =>
  hO (lI σ10 r11 99) fun i12 =>
  hO (sI σ10 r11 99 (i12 + (1 : Int32))) fun σ13 =>
  bif isC σ13 9 a0 then hI (EC d mM_settled [.ref a0, .int i6] σ13) fun i15 σ14 =>
  some (some (.int i15), σ14)
  else none := (Ev_blk d mM_person 33 _ _ _ _).trans rfl
set_option maxRecDepth 100000 in
theorem q_M_netOf (d : Nat) (a0 : Nat) (a1 : Int32) (σ : Mem) : EC (d + 1) mM_netOf [.ref a0, .int a1] σ =
  Ev (d + 1) mM_netOf 4 [(0, .ref a0), (1, .int a1), (2, .int 0), (3, .int 0)] [] σ := (Ev_blk d mM_netOf 5 _ _ _ _).trans rfl
set_option maxRecDepth 100000 in
theorem q_M_netOf_4 (d : Nat) (x0 : Nat) (x1 : Int32) (x2 : Int32) (x3 : Int32) (σ : Mem) : Ev (d + 1) mM_netOf 4 [(0, .ref x0), (1, .int x1), (2, .int x2), (3, .int x3)] [] σ =
  hO (gR σ 9 x0 2) fun r1 =>
  hO (lI σ r1 100) fun i2 =>
  if i2 ≤ x3 then
    some (some (.int x2), σ)
  else
  bif isC σ 9 x0 then hI (EC d mM_isPaid [.ref x0, .int x3] σ) fun i4 σ3 =>
  if i4 = 0 then
    hO (gR σ3 9 x0 2) fun r5 =>
    hO (lI σ3 r5 ((6 : Int32) + x3)) fun i6 =>
    if i6 = x1 then
      hO (gR σ3 9 x0 2) fun r7 =>
      hO (lI σ3 r7 ((16 : Int32) + x3)) fun i8 =>
      hO (gR σ3 9 x0 2) fun r9 =>
      hO (lI σ3 r9 ((37 : Int32) + x3)) fun i10 =>
      if i10 = x1 then
        hO (gR σ3 9 x0 2) fun r11 =>
        hO (lI σ3 r11 ((16 : Int32) + x3)) fun i12 =>
        Ev (d + 1) mM_netOf 4 [(0, .ref x0), (1, .int x1), (2, .int ((x2 + i8) - i12)), (3, .int (x3 + 1))] [] σ3
      else
      Ev (d + 1) mM_netOf 4 [(0, .ref x0), (1, .int x1), (2, .int ((x2 + i8) - (0 : Int32))), (3, .int (x3 + 1))] [] σ3
    else
    hO (gR σ3 9 x0 2) fun r13 =>
    hO (lI σ3 r13 ((37 : Int32) + x3)) fun i14 =>
    if i14 = x1 then
      hO (gR σ3 9 x0 2) fun r15 =>
      hO (lI σ3 r15 ((16 : Int32) + x3)) fun i16 =>
      Ev (d + 1) mM_netOf 4 [(0, .ref x0), (1, .int x1), (2, .int ((x2 + (0 : Int32)) - i16)), (3, .int (x3 + 1))] [] σ3
    else
    Ev (d + 1) mM_netOf 4 [(0, .ref x0), (1, .int x1), (2, .int ((x2 + (0 : Int32)) - (0 : Int32))), (3, .int (x3 + 1))] [] σ3
  else
  Ev (d + 1) mM_netOf 4 [(0, .ref x0), (1, .int x1), (2, .int x2), (3, .int (x3 + 1))] [] σ3
  else none := (Ev_blk d mM_netOf 49 _ _ _ _).trans rfl
set_option maxRecDepth 100000 in
theorem q_M_manyOf (d : Nat) (a0 : Nat) (a1 : Int32) (a2 : Int32) (σ : Mem) : EC (d + 1) mM_manyOf [.ref a0, .int a1, .int a2] σ =
  Ev (d + 1) mM_manyOf 5 [(0, .ref a0), (1, .int a1), (2, .int a2), (3, .int 0), (4, .int 0)] [] σ := (Ev_blk d mM_manyOf 5 _ _ _ _).trans rfl
set_option maxRecDepth 100000 in
theorem q_M_manyOf_5 (d : Nat) (x0 : Nat) (x1 : Int32) (x2 : Int32) (x3 : Int32) (x4 : Int32) (σ : Mem) : Ev (d + 1) mM_manyOf 5 [(0, .ref x0), (1, .int x1), (2, .int x2), (3, .int x3), (4, .int x4)] [] σ =
  hO (gR σ 9 x0 2) fun r1 =>
  hO (lI σ r1 100) fun i2 =>
  if i2 ≤ x4 then
    some (some (.int x3), σ)
  else
  bif isC σ 9 x0 then hI (EC d mM_isPaid [.ref x0, .int x4] σ) fun i4 σ3 =>
  if i4 = 0 then
    hO (gR σ3 9 x0 2) fun r5 =>
    hO (lI σ3 r5 (x1 + x4)) fun i6 =>
    if i6 = x2 then
      Ev (d + 1) mM_manyOf 5 [(0, .ref x0), (1, .int x1), (2, .int x2), (3, .int (x3 + (1 : Int32))), (4, .int (x4 + 1))] [] σ3
    else
    Ev (d + 1) mM_manyOf 5 [(0, .ref x0), (1, .int x1), (2, .int x2), (3, .int (x3 + (0 : Int32))), (4, .int (x4 + 1))] [] σ3
  else
  Ev (d + 1) mM_manyOf 5 [(0, .ref x0), (1, .int x1), (2, .int x2), (3, .int (x3 + (0 : Int32))), (4, .int (x4 + 1))] [] σ3
  else none := (Ev_blk d mM_manyOf 26 _ _ _ _).trans rfl
set_option maxRecDepth 100000 in
theorem q_M_of (d : Nat) (a0 : Nat) (a1 : Int32) (a2 : Int32) (σ : Mem) : EC (d + 1) mM_of [.ref a0, .int a1, .int a2] σ =
  bif isC σ 9 a0 then hI (EC d mM_isPerson [.ref a0, .int a1] σ) fun i2 σ1 =>
  if i2 = 0 then
    some (some (.int (-1000000)), σ1)
  else
  if a2 = 0 then
    hO (gR σ1 9 a0 2) fun r3 =>
    hO (lI σ1 r3 ((0 : Int32) + a1)) fun i4 =>
    some (some (.int i4), σ1)
  else if a2 = 1 then
    bif isC σ1 9 a0 then hI (EC d mM_netOf [.ref a0, .int a1] σ1) fun i6 σ5 =>
    some (some (.int i6), σ5)
    else none
  else if a2 = 2 then
    bif isC σ1 9 a0 then hI (EC d mM_manyOf [.ref a0, .int 6, .int a1] σ1) fun i8 σ7 =>
    some (some (.int i8), σ7)
    else none
  else if a2 = 3 then
    bif isC σ1 9 a0 then hI (EC d mM_manyOf [.ref a0, .int 37, .int a1] σ1) fun i10 σ9 =>
    some (some (.int i10), σ9)
    else none
  else 
  some (some (.int (-1000000)), σ1)
  else none := (Ev_blk d mM_of 14 _ _ _ _).trans rfl
set_option maxRecDepth 100000 in
theorem q_M_stick (d : Nat) (a0 : Nat) (a1 : Int32) (a2 : Int32) (a3 : Int32) (a4 : Int32) (a5 : Int32) (a6 : Int32) (σ : Mem) : EC (d + 1) mM_stick [.ref a0, .int a1, .int a2, .int a3, .int a4, .int a5, .int a6] σ =
  if a1 = a2 then
    bif isC σ 9 a0 then hI (EC d mM_refuses [.ref a0, .int (-1)] σ) fun i2 σ1 =>
    some (some (.int i2), σ1)
    else none
  else
  hI (EC d mM_lies [.int a3, .int 1, .int 999] σ) fun i4 σ3 =>
  if i4 = 0 then
    bif isC σ3 9 a0 then hI (EC d mM_refuses [.ref a0, .int (-1)] σ3) fun i6 σ5 =>
    some (some (.int i6), σ5)
    else none
  else
  hI (EC d mM_isGrain [.int a4] σ3) fun i8 σ7 =>
  if i8 = 0 then
    bif isC σ7 9 a0 then hI (EC d mM_refuses [.ref a0, .int (-1)] σ7) fun i10 σ9 =>
    some (some (.int i10), σ9)
    else none
  else
  hI (EC d mM_lies [.int a5, .int 0, .int 3] σ7) fun i12 σ11 =>
  if i12 = 0 then
    bif isC σ11 9 a0 then hI (EC d mM_refuses [.ref a0, .int (-1)] σ11) fun i14 σ13 =>
    some (some (.int i14), σ13)
    else none
  else
  hI (EC d mM_lies [.int a6, .int 0, .int 999] σ11) fun i16 σ15 =>
  if i16 = 0 then
    bif isC σ15 9 a0 then hI (EC d mM_refuses [.ref a0, .int (-1)] σ15) fun i18 σ17 =>
    some (some (.int i18), σ17)
    else none
  else
  bif isC σ15 9 a0 then hI (EC d mM_isPerson [.ref a0, .int a1] σ15) fun i20 σ19 =>
  if i20 = 0 then
    bif isC σ19 9 a0 then hI (EC d mM_refuses [.ref a0, .int (-2)] σ19) fun i22 σ21 =>
    some (some (.int i22), σ21)
    else none
  else
  bif isC σ19 9 a0 then hI (EC d mM_isPerson [.ref a0, .int a2] σ19) fun i24 σ23 =>
  if i24 = 0 then
    bif isC σ23 9 a0 then hI (EC d mM_refuses [.ref a0, .int (-2)] σ23) fun i26 σ25 =>
    some (some (.int i26), σ25)
    else none
  else
  hO (gR σ23 9 a0 2) fun r27 =>
  hO (lI σ23 r27 100) fun i28 =>
  if i28 = 10 then
    bif isC σ23 9 a0 then hI (EC d mM_refuses [.ref a0, .int (-5)] σ23) fun i30 σ29 =>
    some (some (.int i30), σ29)
    else none
  else
  hO (gR σ23 9 a0 2) fun r31 =>
  hO (sI σ23 r31 ((37 : Int32) + i28) a1) fun σ32 =>
  hO (gR σ32 9 a0 2) fun r33 =>
  hO (sI σ32 r33 ((6 : Int32) + i28) a2) fun σ34 =>
  hO (gR σ34 9 a0 2) fun r35 =>
  hO (sI σ34 r35 ((16 : Int32) + i28) a3) fun σ36 =>
  hO (gR σ36 9 a0 2) fun r37 =>
  hO (sI σ36 r37 ((47 : Int32) + i28) a4) fun σ38 =>
  hO (gR σ38 9 a0 2) fun r39 =>
  hO (sI σ38 r39 ((57 : Int32) + i28) a5) fun σ40 =>
  hO (gR σ40 9 a0 2) fun r41 =>
  hO (sI σ40 r41 ((67 : Int32) + i28) a6) fun σ42 =>
  hO (gR σ42 9 a0 2) fun r43 =>
  hO (sI σ42 r43 ((26 : Int32) + i28) 0) fun σ44 =>
  hO (gR σ44 9 a0 2) fun r45 =>
  hO (lI σ44 r45 100) fun i46 =>
  hO (sI σ44 r45 100 (i46 + (1 : Int32))) fun σ47 =>
  bif isC σ47 9 a0 then hI (EC d mM_settled [.ref a0, .int i28] σ47) fun i49 σ48 =>
  some (some (.int i49), σ48)
  else none
  else none
  else none := (Ev_blk d mM_stick 99 _ _ _ _).trans rfl
set_option maxRecDepth 100000 in
theorem q_M_at (d : Nat) (a0 : Nat) (a1 : Int32) (a2 : Int32) (σ : Mem) : EC (d + 1) mM_at [.ref a0, .int a1, .int a2] σ =
  bif isC σ 9 a0 then hI (EC d mM_isStick [.ref a0, .int a1] σ) fun i2 σ1 =>
  if i2 = 0 then
    some (some (.int (-1)), σ1)
  else
  if a2 = 0 then
    hO (gR σ1 9 a0 2) fun r3 =>
    hO (lI σ1 r3 ((37 : Int32) + a1)) fun i4 =>
    some (some (.int i4), σ1)
  else if a2 = 1 then
    hO (gR σ1 9 a0 2) fun r5 =>
    hO (lI σ1 r5 ((6 : Int32) + a1)) fun i6 =>
    some (some (.int i6), σ1)
  else if a2 = 2 then
    hO (gR σ1 9 a0 2) fun r7 =>
    hO (lI σ1 r7 ((16 : Int32) + a1)) fun i8 =>
    some (some (.int i8), σ1)
  else if a2 = 3 then
    hO (gR σ1 9 a0 2) fun r9 =>
    hO (lI σ1 r9 ((47 : Int32) + a1)) fun i10 =>
    some (some (.int i10), σ1)
  else if a2 = 4 then
    hO (gR σ1 9 a0 2) fun r11 =>
    hO (lI σ1 r11 ((57 : Int32) + a1)) fun i12 =>
    some (some (.int i12), σ1)
  else if a2 = 5 then
    hO (gR σ1 9 a0 2) fun r13 =>
    hO (lI σ1 r13 ((67 : Int32) + a1)) fun i14 =>
    some (some (.int i14), σ1)
  else if a2 = 6 then
    hO (gR σ1 9 a0 2) fun r15 =>
    hO (lI σ1 r15 ((26 : Int32) + a1)) fun i16 =>
    some (some (.int i16), σ1)
  else if a2 = 7 then
    bif isC σ1 9 a0 then hI (EC d mM_paysBy [.ref a0, .int a1] σ1) fun i18 σ17 =>
    some (some (.int i18), σ17)
    else none
  else if a2 = 8 then
    bif isC σ1 9 a0 then hI (EC d mM_wornIn [.ref a0, .int a1] σ1) fun i20 σ19 =>
    some (some (.int i20), σ19)
    else none
  else 
  some (some (.int (-1)), σ1)
  else none := (Ev_blk d mM_at 14 _ _ _ _).trans rfl
set_option maxRecDepth 100000 in
theorem q_M_canFoil (d : Nat) (a0 : Nat) (a1 : Int32) (a2 : Int32) (σ : Mem) : EC (d + 1) mM_canFoil [.ref a0, .int a1, .int a2] σ =
  hI (EC d mM_isGrain [.int a1] σ) fun i2 σ1 =>
  if i2 = 0 then
    some (some (.int 0), σ1)
  else
  hI (EC d mM_lies [.int a2, .int 1, .int 999] σ1) fun i4 σ3 =>
  if i4 = 0 then
    some (some (.int 0), σ3)
  else
  some (some (.int 1), σ3) := (Ev_blk d mM_canFoil 12 _ _ _ _).trans rfl
set_option maxRecDepth 100000 in
theorem q_M_addsFoil (d : Nat) (a0 : Nat) (a1 : Int32) (a2 : Int32) (σ : Mem) : EC (d + 1) mM_addsFoil [.ref a0, .int a1, .int a2] σ =
  hO (gR σ 9 a0 2) fun r1 =>
  hO (gR σ 9 a0 2) fun r2 =>
  hO (lI σ r2 101) fun i3 =>
  hO (sI σ r1 ((77 : Int32) + i3) a1) fun σ4 =>
  hO (gR σ4 9 a0 2) fun r5 =>
  hO (gR σ4 9 a0 2) fun r6 =>
  hO (lI σ4 r6 101) fun i7 =>
  hO (sI σ4 r5 ((87 : Int32) + i7) a2) fun σ8 =>
  hO (gR σ8 9 a0 2) fun r9 =>
  hO (lI σ8 r9 101) fun i10 =>
  hO (sI σ8 r9 101 (i10 + (1 : Int32))) fun σ11 =>
  some (none, σ11) := (Ev_blk d mM_addsFoil 30 _ _ _ _).trans rfl
set_option maxRecDepth 100000 in
theorem q_M_foil (d : Nat) (a0 : Nat) (a1 : Int32) (a2 : Int32) (σ : Mem) : EC (d + 1) mM_foil [.ref a0, .int a1, .int a2] σ =
  bif isC σ 9 a0 then hI (EC d mM_canFoil [.ref a0, .int a1, .int a2] σ) fun i2 σ1 =>
  if i2 = 0 then
    bif isC σ1 9 a0 then hI (EC d mM_refuses [.ref a0, .int (-1)] σ1) fun i4 σ3 =>
    some (some (.int i4), σ3)
    else none
  else
  hO (gR σ1 9 a0 2) fun r5 =>
  hO (lI σ1 r5 101) fun i6 =>
  if i6 = 10 then
    bif isC σ1 9 a0 then hI (EC d mM_refuses [.ref a0, .int (-5)] σ1) fun i8 σ7 =>
    some (some (.int i8), σ7)
    else none
  else
  bif isC σ1 9 a0 then hV (EC d mM_addsFoil [.ref a0, .int a1, .int a2] σ1) fun σ9 =>
  hO (gR σ9 9 a0 2) fun r10 =>
  hO (lI σ9 r10 101) fun i11 =>
  bif isC σ9 9 a0 then hI (EC d mM_good [.ref a0, .int (i11 - (1 : Int32))] σ9) fun i13 σ12 =>
  some (some (.int i13), σ12)
  else none
  else none
  else none := (Ev_blk d mM_foil 25 _ _ _ _).trans rfl
set_option maxRecDepth 100000 in
theorem q_M_half (d : Nat) (a0 : Nat) (a1 : Int32) (a2 : Int32) (σ : Mem) : EC (d + 1) mM_half [.ref a0, .int a1, .int a2] σ =
  bif isC σ 9 a0 then hI (EC d mM_isFoil [.ref a0, .int a1] σ) fun i2 σ1 =>
  if i2 = 0 then
    some (some (.int (-1)), σ1)
  else
  hI (EC d mM_lies [.int a2, .int 0, .int 1] σ1) fun i4 σ3 =>
  if i4 = 0 then
    some (some (.int (-1)), σ3)
  else
  hO (gR σ3 9 a0 2) fun r5 =>
  if a2 = 0 then
    hO (lI σ3 r5 ((77 : Int32) + a1)) fun i6 =>
    some (some (.int i6), σ3)
  else
  hO (lI σ3 r5 ((87 : Int32) + a1)) fun i7 =>
  some (some (.int i7), σ3)
  else none := (Ev_blk d mM_half 20 _ _ _ _).trans rfl
set_option maxRecDepth 100000 in
theorem q_M_terms (d : Nat) (a0 : Nat) (a1 : Int32) (a2 : Int32) (σ : Mem) : EC (d + 1) mM_terms [.ref a0, .int a1, .int a2] σ =
  hI (EC d mM_lies [.int a1, .int 0, .int 2] σ) fun i2 σ1 =>
  if i2 = 0 then
    bif isC σ1 9 a0 then hI (EC d mM_refuses [.ref a0, .int (-1)] σ1) fun i4 σ3 =>
    some (some (.int i4), σ3)
    else none
  else
  if a1 = 0 then
    hI (EC d mM_lies [.int a2, .int 0, .int 999] σ1) fun i6 σ5 =>
    if i6 = 0 then
      bif isC σ5 9 a0 then hI (EC d mM_refuses [.ref a0, .int (-1)] σ5) fun i8 σ7 =>
      some (some (.int i8), σ7)
      else none
    else
    if a1 = 0 then
      hO (gR σ5 9 a0 2) fun r9 =>
      hO (lI σ5 r9 36) fun i10 =>
      hO (gR σ5 9 a0 2) fun r11 =>
      hO (sI σ5 r11 36 a2) fun σ12 =>
      bif isC σ12 9 a0 then hI (EC d mM_settled [.ref a0, .int i10] σ12) fun i14 σ13 =>
      some (some (.int i14), σ13)
      else none
    else
    hO (gR σ5 9 a0 2) fun r15 =>
    hO (lI σ5 r15 (((97 : Int32) + a1) - (1 : Int32))) fun i16 =>
    hO (gR σ5 9 a0 2) fun r17 =>
    hO (sI σ5 r17 (((97 : Int32) + a1) - (1 : Int32)) a2) fun σ18 =>
    bif isC σ18 9 a0 then hI (EC d mM_settled [.ref a0, .int i16] σ18) fun i20 σ19 =>
    some (some (.int i20), σ19)
    else none
  else
  if a1 = 1 then
    hI (EC d mM_lies [.int a2, .int 0, .int 12] σ1) fun i22 σ21 =>
    if i22 = 0 then
      bif isC σ21 9 a0 then hI (EC d mM_refuses [.ref a0, .int (-1)] σ21) fun i24 σ23 =>
      some (some (.int i24), σ23)
      else none
    else
    if a1 = 0 then
      hO (gR σ21 9 a0 2) fun r25 =>
      hO (lI σ21 r25 36) fun i26 =>
      hO (gR σ21 9 a0 2) fun r27 =>
      hO (sI σ21 r27 36 a2) fun σ28 =>
      bif isC σ28 9 a0 then hI (EC d mM_settled [.ref a0, .int i26] σ28) fun i30 σ29 =>
      some (some (.int i30), σ29)
      else none
    else
    hO (gR σ21 9 a0 2) fun r31 =>
    hO (lI σ21 r31 (((97 : Int32) + a1) - (1 : Int32))) fun i32 =>
    hO (gR σ21 9 a0 2) fun r33 =>
    hO (sI σ21 r33 (((97 : Int32) + a1) - (1 : Int32)) a2) fun σ34 =>
    bif isC σ34 9 a0 then hI (EC d mM_settled [.ref a0, .int i32] σ34) fun i36 σ35 =>
    some (some (.int i36), σ35)
    else none
  else
  hI (EC d mM_lies [.int a2, .int 0, .int 9] σ1) fun i38 σ37 =>
  if i38 = 0 then
    bif isC σ37 9 a0 then hI (EC d mM_refuses [.ref a0, .int (-1)] σ37) fun i40 σ39 =>
    some (some (.int i40), σ39)
    else none
  else
  if a1 = 0 then
    hO (gR σ37 9 a0 2) fun r41 =>
    hO (lI σ37 r41 36) fun i42 =>
    hO (gR σ37 9 a0 2) fun r43 =>
    hO (sI σ37 r43 36 a2) fun σ44 =>
    bif isC σ44 9 a0 then hI (EC d mM_settled [.ref a0, .int i42] σ44) fun i46 σ45 =>
    some (some (.int i46), σ45)
    else none
  else
  hO (gR σ37 9 a0 2) fun r47 =>
  hO (lI σ37 r47 (((97 : Int32) + a1) - (1 : Int32))) fun i48 =>
  hO (gR σ37 9 a0 2) fun r49 =>
  hO (sI σ37 r49 (((97 : Int32) + a1) - (1 : Int32)) a2) fun σ50 =>
  bif isC σ50 9 a0 then hI (EC d mM_settled [.ref a0, .int i48] σ50) fun i52 σ51 =>
  some (some (.int i52), σ51)
  else none := (Ev_blk d mM_terms 39 _ _ _ _).trans rfl
set_option maxRecDepth 100000 in
theorem q_M_row (d : Nat) (a0 : Nat) (σ : Mem) : EC (d + 1) mM_row [.ref a0] σ =
  hO (gI σ 9 a0 13) fun i1 =>
  hO (pF σ 9 a0 13 (.int 0)) fun σ2 =>
  if i1 = 0 then
    bif isC σ2 9 a0 then hI (EC d mM_refuses [.ref a0, .int (-6)] σ2) fun i4 σ3 =>
    some (some (.int i4), σ3)
    else none
  else
  if (3 : Int32) = 0 then none else
  if ((i1 - i1 / (3 : Int32) * (3 : Int32)) : Int32) = 0 then
    hO (pF σ2 9 a0 6 (.int 0)) fun σ5 =>
    Ev (d + 1) mM_row 40 [(0, .ref a0), (1, .int i1), (2, .int 0), (3, .int 0)] [] σ5
  else
  hO (pF σ2 9 a0 6 (.int 1)) fun σ6 =>
  Ev (d + 1) mM_row 40 [(0, .ref a0), (1, .int i1), (2, .int 0), (3, .int 0)] [] σ6 := (Ev_blk d mM_row 21 _ _ _ _).trans rfl
set_option maxRecDepth 100000 in
theorem q_M_row_40 (d : Nat) (x0 : Nat) (x1 : Int32) (x2 : Int32) (x3 : Int32) (σ : Mem) : Ev (d + 1) mM_row 40 [(0, .ref x0), (1, .int x1), (2, .int x2), (3, .int x3)] [] σ =
  if x1 < ((x3 + (3 : Int32)) : Int32) then
    bif isC σ 9 x0 then hI (EC d mM_good [.ref x0, .int x2] σ) fun i2 σ1 =>
    some (some (.int i2), σ1)
    else none
  else
  hO (gR σ 9 x0 11) fun r3 =>
  hO (lB σ r3 (x3 + (1 : Int32))) fun i4 =>
  hO (gR σ 9 x0 11) fun r5 =>
  hO (lB σ r5 x3) fun i6 =>
  hO (gR σ 9 x0 11) fun r7 =>
  hO (lB σ r7 (x3 + (2 : Int32))) fun i8 =>
  if 16 ≤ ((i4 &&& (255 : Int32)) : Int32) then
    if (0 : Int32) = 0 then
      Ev (d + 1) mM_row 143 [(0, .ref x0), (1, .int x1), (2, .int x2), (3, .int x3), (7, .int 0)] [] σ
    else
    bif isC σ 9 x0 then hV (EC d mM_addsFoil [.ref x0, .int (((i6 &&& (255 : Int32)) * (16 : Int32)) + (i4 &&& (255 : Int32))), .int (i8 &&& (255 : Int32))] σ) fun σ9 =>
    Ev (d + 1) mM_row 143 [(0, .ref x0), (1, .int x1), (2, .int x2), (3, .int x3), (7, .int 0)] [] σ9
    else none
  else
  hO (gR σ 9 x0 2) fun r10 =>
  hO (lI σ r10 101) fun i11 =>
  if 10 ≤ i11 then
    if (0 : Int32) = 0 then
      Ev (d + 1) mM_row 143 [(0, .ref x0), (1, .int x1), (2, .int x2), (3, .int x3), (7, .int 0)] [] σ
    else
    bif isC σ 9 x0 then hV (EC d mM_addsFoil [.ref x0, .int (((i6 &&& (255 : Int32)) * (16 : Int32)) + (i4 &&& (255 : Int32))), .int (i8 &&& (255 : Int32))] σ) fun σ12 =>
    Ev (d + 1) mM_row 143 [(0, .ref x0), (1, .int x1), (2, .int x2), (3, .int x3), (7, .int 0)] [] σ12
    else none
  else
  bif isC σ 9 x0 then hI (EC d mM_canFoil [.ref x0, .int (((i6 &&& (255 : Int32)) * (16 : Int32)) + (i4 &&& (255 : Int32))), .int (i8 &&& (255 : Int32))] σ) fun i14 σ13 =>
  if i14 = 0 then
    if (0 : Int32) = 0 then
      Ev (d + 1) mM_row 143 [(0, .ref x0), (1, .int x1), (2, .int x2), (3, .int x3), (7, .int 0)] [] σ13
    else
    bif isC σ13 9 x0 then hV (EC d mM_addsFoil [.ref x0, .int (((i6 &&& (255 : Int32)) * (16 : Int32)) + (i4 &&& (255 : Int32))), .int (i8 &&& (255 : Int32))] σ13) fun σ15 =>
    Ev (d + 1) mM_row 143 [(0, .ref x0), (1, .int x1), (2, .int x2), (3, .int x3), (7, .int 0)] [] σ15
    else none
  else
  if (1 : Int32) = 0 then
    Ev (d + 1) mM_row 143 [(0, .ref x0), (1, .int x1), (2, .int x2), (3, .int x3), (7, .int 1)] [] σ13
  else
  bif isC σ13 9 x0 then hV (EC d mM_addsFoil [.ref x0, .int (((i6 &&& (255 : Int32)) * (16 : Int32)) + (i4 &&& (255 : Int32))), .int (i8 &&& (255 : Int32))] σ13) fun σ16 =>
  Ev (d + 1) mM_row 143 [(0, .ref x0), (1, .int x1), (2, .int x2), (3, .int x3), (7, .int 1)] [] σ16
  else none
  else none := (Ev_blk d mM_row 58 _ _ _ _).trans rfl
set_option maxRecDepth 100000 in
theorem q_M_row_143 (d : Nat) (x0 : Nat) (x1 : Int32) (x2 : Int32) (x3 : Int32) (x7 : Int32) (σ : Mem) : Ev (d + 1) mM_row 143 [(0, .ref x0), (1, .int x1), (2, .int x2), (3, .int x3), (7, .int x7)] [] σ =
  if x7 = 0 then
    hO (gI σ 9 x0 6) fun i1 =>
    if x7 = 0 then
      hO (pF σ 9 x0 6 (.int (i1 + (1 : Int32)))) fun σ2 =>
      Ev (d + 1) mM_row 40 [(0, .ref x0), (1, .int x1), (2, .int (x2 + (0 : Int32))), (3, .int (x3 + 3))] [] σ2
    else
    hO (pF σ 9 x0 6 (.int (i1 + (0 : Int32)))) fun σ3 =>
    Ev (d + 1) mM_row 40 [(0, .ref x0), (1, .int x1), (2, .int (x2 + (0 : Int32))), (3, .int (x3 + 3))] [] σ3
  else
  hO (gI σ 9 x0 6) fun i4 =>
  if x7 = 0 then
    hO (pF σ 9 x0 6 (.int (i4 + (1 : Int32)))) fun σ5 =>
    Ev (d + 1) mM_row 40 [(0, .ref x0), (1, .int x1), (2, .int (x2 + (1 : Int32))), (3, .int (x3 + 3))] [] σ5
  else
  hO (pF σ 9 x0 6 (.int (i4 + (0 : Int32)))) fun σ6 =>
  Ev (d + 1) mM_row 40 [(0, .ref x0), (1, .int x1), (2, .int (x2 + (1 : Int32))), (3, .int (x3 + 3))] [] σ6 := (Ev_blk d mM_row 19 _ _ _ _).trans rfl
set_option maxRecDepth 100000 in
theorem q_M_chips (d : Nat) (a0 : Nat) (σ : Mem) : EC (d + 1) mM_chips [.ref a0] σ =
  hO (gI σ 9 a0 6) fun i1 =>
  some (some (.int i1), σ) := (Ev_blk d mM_chips 4 _ _ _ _).trans rfl
set_option maxRecDepth 100000 in
theorem q_M_feed (d : Nat) (a0 : Nat) (a1 : Int32) (a2 : Int32) (a3 : Int32) (a4 : Int32) (a5 : Int32) (σ : Mem) : EC (d + 1) mM_feed [.ref a0, .int a1, .int a2, .int a3, .int a4, .int a5] σ =
  hO (gI σ 9 a0 13) fun i1 =>
  if ((i1 + (20 : Int32)) : Int32) ≤ 400 then
    hO (gR σ 9 a0 12) fun r2 =>
    hO (sI σ r2 0 a1) fun σ3 =>
    hO (gR σ3 9 a0 12) fun r4 =>
    hO (sI σ3 r4 1 a2) fun σ5 =>
    hO (gR σ5 9 a0 12) fun r6 =>
    hO (sI σ5 r6 2 a3) fun σ7 =>
    hO (gR σ7 9 a0 12) fun r8 =>
    hO (sI σ7 r8 3 a4) fun σ9 =>
    hO (gR σ9 9 a0 12) fun r10 =>
    hO (sI σ9 r10 4 a5) fun σ11 =>
    Ev (d + 1) mM_feed 55 [(0, .ref a0), (6, .int 0)] [] σ11
  else
  some (some (.int (-1)), σ) := (Ev_blk d mM_feed 34 _ _ _ _).trans rfl
set_option maxRecDepth 100000 in
theorem q_M_feed_55 (d : Nat) (x0 : Nat) (x6 : Int32) (σ : Mem) : Ev (d + 1) mM_feed 55 [(0, .ref x0), (6, .int x6)] [] σ =
  if 20 ≤ x6 then
    hO (gI σ 9 x0 13) fun i1 =>
    hO (pF σ 9 x0 13 (.int (i1 + (20 : Int32)))) fun σ2 =>
    hO (gI σ2 9 x0 13) fun i3 =>
    some (some (.int i3), σ2)
  else
  hO (gR σ 9 x0 11) fun r4 =>
  hO (gI σ 9 x0 13) fun i5 =>
  hO (gR σ 9 x0 12) fun r6 =>
  if (4 : Int32) = 0 then none else
  hO (lI σ r6 (x6 / (4 : Int32))) fun i7 =>
  if (4 : Int32) = 0 then none else
  hO (sB σ r4 (i5 + x6) (Int32.toInt8 (i7 >>> (((24 : Int32) - ((8 : Int32) * (x6 - x6 / (4 : Int32) * (4 : Int32)))) &&& 31))).toInt32) fun σ8 =>
  Ev (d + 1) mM_feed 55 [(0, .ref x0), (6, .int (x6 + 1))] [] σ8 := (Ev_blk d mM_feed 28 _ _ _ _).trans rfl
set_option maxRecDepth 100000 in
theorem q_M_end (d : Nat) (a0 : Nat) (a1 : Int32) (σ : Mem) : EC (d + 1) mM_end [.ref a0, .int a1] σ =
  hO (gI σ 9 a0 13) fun i1 =>
  hI (EC d mM_lies [.int a1, .int 0, .int i1] σ) fun i3 σ2 =>
  if i3 = 0 then
    some (some (.int (-1)), σ2)
  else
  hO (pF σ2 9 a0 13 (.int a1)) fun σ4 =>
  some (some (.int a1), σ4) := (Ev_blk d mM_end 12 _ _ _ _).trans rfl
set_option maxRecDepth 100000 in
theorem q_M_isSmall (d : Nat) (a0 : Int32) (σ : Mem) : EC (d + 1) mM_isSmall [.int a0] σ =
  if a0 < 97 then
    some (some (.int 0), σ)
  else
  if 122 < a0 then
    some (some (.int 0), σ)
  else
  some (some (.int 1), σ) := (Ev_blk d mM_isSmall 10 _ _ _ _).trans rfl
set_option maxRecDepth 100000 in
theorem q_M_isDigit (d : Nat) (a0 : Int32) (σ : Mem) : EC (d + 1) mM_isDigit [.int a0] σ =
  if a0 < 48 then
    some (some (.int 0), σ)
  else
  if 57 < a0 then
    some (some (.int 0), σ)
  else
  some (some (.int 1), σ) := (Ev_blk d mM_isDigit 10 _ _ _ _).trans rfl
set_option maxRecDepth 100000 in
theorem q_M_wordOf (d : Nat) (a0 : Nat) (a1 : Int32) (a2 : Int32) (σ : Mem) : EC (d + 1) mM_wordOf [.ref a0, .int a1, .int a2] σ =
  Ev (d + 1) mM_wordOf 5 [(0, .ref a0), (1, .int a1), (2, .int a2), (3, .int 1), (4, .int 0)] [] σ := (Ev_blk d mM_wordOf 5 _ _ _ _).trans rfl
set_option maxRecDepth 100000 in
theorem q_M_wordOf_5 (d : Nat) (x0 : Nat) (x1 : Int32) (x2 : Int32) (x3 : Int32) (x4 : Int32) (σ : Mem) : Ev (d + 1) mM_wordOf 5 [(0, .ref x0), (1, .int x1), (2, .int x2), (3, .int x3), (4, .int x4)] [] σ =
  hO (gR σ 9 x0 7) fun r1 =>
  hO (aln σ r1) fun i2 =>
  if i2 ≤ x4 then
    some (some (.int 0), σ)
  else
  Ev (d + 1) mM_wordOf 18 [(0, .ref x0), (1, .int x1), (2, .int x2), (3, .int x3), (4, .int x4), (5, .int 0)] [] σ := (Ev_blk d mM_wordOf 8 _ _ _ _).trans rfl
set_option maxRecDepth 100000 in
theorem q_M_wordOf_18 (d : Nat) (x0 : Nat) (x1 : Int32) (x2 : Int32) (x3 : Int32) (x4 : Int32) (x5 : Int32) (σ : Mem) : Ev (d + 1) mM_wordOf 18 [(0, .ref x0), (1, .int x1), (2, .int x2), (3, .int x3), (4, .int x4), (5, .int x5)] [] σ =
  hO (gR σ 9 x0 7) fun r1 =>
  hO (lB σ r1 (x4 + x5)) fun i2 =>
  if i2 = 32 then
    if x5 = (x2 - x1) then
      Ev (d + 1) mM_wordOf 57 [(0, .ref x0), (1, .int x1), (2, .int x2), (3, .int x3), (4, .int x4), (5, .int x5), (6, .int 1), (7, .int 0)] [] σ
    else
    Ev (d + 1) mM_wordOf 57 [(0, .ref x0), (1, .int x1), (2, .int x2), (3, .int x3), (4, .int x4), (5, .int x5), (6, .int 0), (7, .int 0)] [] σ
  else
  Ev (d + 1) mM_wordOf 18 [(0, .ref x0), (1, .int x1), (2, .int x2), (3, .int x3), (4, .int x4), (5, .int (x5 + 1))] [] σ := (Ev_blk d mM_wordOf 19 _ _ _ _).trans rfl
set_option maxRecDepth 100000 in
theorem q_M_wordOf_57 (d : Nat) (x0 : Nat) (x1 : Int32) (x2 : Int32) (x3 : Int32) (x4 : Int32) (x5 : Int32) (x6 : Int32) (x7 : Int32) (σ : Mem) : Ev (d + 1) mM_wordOf 57 [(0, .ref x0), (1, .int x1), (2, .int x2), (3, .int x3), (4, .int x4), (5, .int x5), (6, .int x6), (7, .int x7)] [] σ =
  if x5 ≤ x7 then
    if x6 = 0 then
      Ev (d + 1) mM_wordOf 5 [(0, .ref x0), (1, .int x1), (2, .int x2), (3, .int (x3 + 1)), (4, .int (x4 + (x5 + (1 : Int32))))] [] σ
    else
    some (some (.int x3), σ)
  else
  if x6 = 0 then
    if x6 = 0 then
      Ev (d + 1) mM_wordOf 5 [(0, .ref x0), (1, .int x1), (2, .int x2), (3, .int (x3 + 1)), (4, .int (x4 + (x5 + (1 : Int32))))] [] σ
    else
    some (some (.int x3), σ)
  else
  hO (gR σ 9 x0 7) fun r1 =>
  hO (lB σ r1 (x4 + x7)) fun i2 =>
  hO (gR σ 9 x0 11) fun r3 =>
  hO (lB σ r3 (x1 + x7)) fun i4 =>
  if i2 = i4 then
    Ev (d + 1) mM_wordOf 57 [(0, .ref x0), (1, .int x1), (2, .int x2), (3, .int x3), (4, .int x4), (5, .int x5), (6, .int 1), (7, .int (x7 + 1))] [] σ
  else
  Ev (d + 1) mM_wordOf 57 [(0, .ref x0), (1, .int x1), (2, .int x2), (3, .int x3), (4, .int x4), (5, .int x5), (6, .int 0), (7, .int (x7 + 1))] [] σ := (Ev_blk d mM_wordOf 24 _ _ _ _).trans rfl
set_option maxRecDepth 100000 in
theorem q_M_splits (d : Nat) (a0 : Nat) (a1 : Int32) (σ : Mem) : EC (d + 1) mM_splits [.ref a0, .int a1] σ =
  hO (pF σ 9 a0 18 (.int 0)) fun σ1 =>
  Ev (d + 1) mM_splits 7 [(0, .ref a0), (1, .int a1), (2, .int 0)] [] σ1 := (Ev_blk d mM_splits 6 _ _ _ _).trans rfl
set_option maxRecDepth 100000 in
theorem q_M_splits_7 (d : Nat) (x0 : Nat) (x1 : Int32) (x2 : Int32) (σ : Mem) : Ev (d + 1) mM_splits 7 [(0, .ref x0), (1, .int x1), (2, .int x2)] [] σ =
  if x1 ≤ x2 then
    hO (gR σ 9 x0 17) fun r1 =>
    hO (gI σ 9 x0 18) fun i2 =>
    hO (sI σ r1 i2 x1) fun σ3 =>
    hO (gR σ3 9 x0 15) fun r4 =>
    hO (gI σ3 9 x0 18) fun i5 =>
    hO (sI σ3 r4 i5 0) fun σ6 =>
    hO (gR σ6 9 x0 16) fun r7 =>
    hO (gI σ6 9 x0 18) fun i8 =>
    hO (sI σ6 r7 i8 0) fun σ9 =>
    some (none, σ9)
  else
  hO (gR σ 9 x0 11) fun r10 =>
  hO (lB σ r10 x2) fun i11 =>
  if i11 = 32 then
    Ev (d + 1) mM_splits 7 [(0, .ref x0), (1, .int x1), (2, .int (x2 + 1))] [] σ
  else
  hI (EC d mM_isSmall [.int i11] σ) fun i13 σ12 =>
  if i13 = 0 then
    hI (EC d mM_isDigit [.int i11] σ12) fun i15 σ14 =>
    if i15 = 0 then
      hO (gR σ14 9 x0 17) fun r16 =>
      hO (gI σ14 9 x0 18) fun i17 =>
      hO (sI σ14 r16 i17 x2) fun σ18 =>
      hO (gR σ18 9 x0 16) fun r19 =>
      hO (gI σ18 9 x0 18) fun i20 =>
      hO (sI σ18 r19 i20 0) fun σ21 =>
      hO (gR σ21 9 x0 15) fun r22 =>
      hO (gI σ21 9 x0 18) fun i23 =>
      hI (EC d mM_isSmall [.int i11] σ21) fun i25 σ24 =>
      if i25 = 0 then
        hI (EC d mM_isDigit [.int i11] σ24) fun i27 σ26 =>
        if i27 = 0 then
          hO (sI σ26 r22 i23 ((100 : Int32) + (i11 &&& (255 : Int32)))) fun σ28 =>
          Ev (d + 1) mM_splits 169 [(0, .ref x0), (1, .int x1), (3, .int i11), (4, .int (x2 + (1 : Int32))), (5, .int x2)] [] σ28
        else
        hO (sI σ26 r22 i23 50) fun σ29 =>
        Ev (d + 1) mM_splits 169 [(0, .ref x0), (1, .int x1), (3, .int i11), (4, .int (x2 + (1 : Int32))), (5, .int x2)] [] σ29
      else
      bif isC σ24 9 x0 then hI (EC d mM_wordOf [.ref x0, .int x2, .int (x2 + (1 : Int32))] σ24) fun i31 σ30 =>
      hO (sI σ30 r22 i23 i31) fun σ32 =>
      Ev (d + 1) mM_splits 169 [(0, .ref x0), (1, .int x1), (3, .int i11), (4, .int (x2 + (1 : Int32))), (5, .int x2)] [] σ32
      else none
    else
    Ev (d + 1) mM_splits 75 [(0, .ref x0), (1, .int x1), (2, .int x2), (3, .int i11), (4, .int (x2 + (1 : Int32)))] [] σ14
  else
  Ev (d + 1) mM_splits 43 [(0, .ref x0), (1, .int x1), (2, .int x2), (3, .int i11), (4, .int (x2 + (1 : Int32)))] [] σ12 := (Ev_blk d mM_splits 52 _ _ _ _).trans rfl
set_option maxRecDepth 100000 in
theorem q_M_splits_43 (d : Nat) (x0 : Nat) (x1 : Int32) (x2 : Int32) (x3 : Int32) (x4 : Int32) (σ : Mem) : Ev (d + 1) mM_splits 43 [(0, .ref x0), (1, .int x1), (2, .int x2), (3, .int x3), (4, .int x4)] [] σ =
  if x1 ≤ x4 then
    hI (EC d mM_isDigit [.int x3] σ) fun i2 σ1 =>
    if i2 = 0 then
      hO (gR σ1 9 x0 17) fun r3 =>
      hO (gI σ1 9 x0 18) fun i4 =>
      hO (sI σ1 r3 i4 x2) fun σ5 =>
      hO (gR σ5 9 x0 16) fun r6 =>
      hO (gI σ5 9 x0 18) fun i7 =>
      hO (sI σ5 r6 i7 0) fun σ8 =>
      hO (gR σ8 9 x0 15) fun r9 =>
      hO (gI σ8 9 x0 18) fun i10 =>
      hI (EC d mM_isSmall [.int x3] σ8) fun i12 σ11 =>
      if i12 = 0 then
        hI (EC d mM_isDigit [.int x3] σ11) fun i14 σ13 =>
        if i14 = 0 then
          hO (sI σ13 r9 i10 ((100 : Int32) + (x3 &&& (255 : Int32)))) fun σ15 =>
          Ev (d + 1) mM_splits 169 [(0, .ref x0), (1, .int x1), (3, .int x3), (4, .int x4), (5, .int x2)] [] σ15
        else
        hO (sI σ13 r9 i10 50) fun σ16 =>
        Ev (d + 1) mM_splits 169 [(0, .ref x0), (1, .int x1), (3, .int x3), (4, .int x4), (5, .int x2)] [] σ16
      else
      bif isC σ11 9 x0 then hI (EC d mM_wordOf [.ref x0, .int x2, .int x4] σ11) fun i18 σ17 =>
      hO (sI σ17 r9 i10 i18) fun σ19 =>
      Ev (d + 1) mM_splits 169 [(0, .ref x0), (1, .int x1), (3, .int x3), (4, .int x4), (5, .int x2)] [] σ19
      else none
    else
    Ev (d + 1) mM_splits 75 [(0, .ref x0), (1, .int x1), (2, .int x2), (3, .int x3), (4, .int x4)] [] σ1
  else
  hO (gR σ 9 x0 11) fun r20 =>
  hO (lB σ r20 x4) fun i21 =>
  hI (EC d mM_isSmall [.int i21] σ) fun i23 σ22 =>
  if i23 = 0 then
    hI (EC d mM_isDigit [.int x3] σ22) fun i25 σ24 =>
    if i25 = 0 then
      hO (gR σ24 9 x0 17) fun r26 =>
      hO (gI σ24 9 x0 18) fun i27 =>
      hO (sI σ24 r26 i27 x2) fun σ28 =>
      hO (gR σ28 9 x0 16) fun r29 =>
      hO (gI σ28 9 x0 18) fun i30 =>
      hO (sI σ28 r29 i30 0) fun σ31 =>
      hO (gR σ31 9 x0 15) fun r32 =>
      hO (gI σ31 9 x0 18) fun i33 =>
      hI (EC d mM_isSmall [.int x3] σ31) fun i35 σ34 =>
      if i35 = 0 then
        hI (EC d mM_isDigit [.int x3] σ34) fun i37 σ36 =>
        if i37 = 0 then
          hO (sI σ36 r32 i33 ((100 : Int32) + (x3 &&& (255 : Int32)))) fun σ38 =>
          Ev (d + 1) mM_splits 169 [(0, .ref x0), (1, .int x1), (3, .int x3), (4, .int x4), (5, .int x2)] [] σ38
        else
        hO (sI σ36 r32 i33 50) fun σ39 =>
        Ev (d + 1) mM_splits 169 [(0, .ref x0), (1, .int x1), (3, .int x3), (4, .int x4), (5, .int x2)] [] σ39
      else
      bif isC σ34 9 x0 then hI (EC d mM_wordOf [.ref x0, .int x2, .int x4] σ34) fun i41 σ40 =>
      hO (sI σ40 r32 i33 i41) fun σ42 =>
      Ev (d + 1) mM_splits 169 [(0, .ref x0), (1, .int x1), (3, .int x3), (4, .int x4), (5, .int x2)] [] σ42
      else none
    else
    Ev (d + 1) mM_splits 75 [(0, .ref x0), (1, .int x1), (2, .int x2), (3, .int x3), (4, .int x4)] [] σ24
  else
  Ev (d + 1) mM_splits 43 [(0, .ref x0), (1, .int x1), (2, .int x2), (3, .int x3), (4, .int (x4 + 1))] [] σ22 := (Ev_blk d mM_splits 43 _ _ _ _).trans rfl
set_option maxRecDepth 100000 in
theorem q_M_splits_75 (d : Nat) (x0 : Nat) (x1 : Int32) (x2 : Int32) (x3 : Int32) (x4 : Int32) (σ : Mem) : Ev (d + 1) mM_splits 75 [(0, .ref x0), (1, .int x1), (2, .int x2), (3, .int x3), (4, .int x4)] [] σ =
  if x1 ≤ x4 then
    hO (gR σ 9 x0 17) fun r1 =>
    hO (gI σ 9 x0 18) fun i2 =>
    hO (sI σ r1 i2 x2) fun σ3 =>
    hO (gR σ3 9 x0 16) fun r4 =>
    hO (gI σ3 9 x0 18) fun i5 =>
    hO (sI σ3 r4 i5 0) fun σ6 =>
    hO (gR σ6 9 x0 15) fun r7 =>
    hO (gI σ6 9 x0 18) fun i8 =>
    hI (EC d mM_isSmall [.int x3] σ6) fun i10 σ9 =>
    if i10 = 0 then
      hI (EC d mM_isDigit [.int x3] σ9) fun i12 σ11 =>
      if i12 = 0 then
        hO (sI σ11 r7 i8 ((100 : Int32) + (x3 &&& (255 : Int32)))) fun σ13 =>
        Ev (d + 1) mM_splits 169 [(0, .ref x0), (1, .int x1), (3, .int x3), (4, .int x4), (5, .int x2)] [] σ13
      else
      hO (sI σ11 r7 i8 50) fun σ14 =>
      Ev (d + 1) mM_splits 169 [(0, .ref x0), (1, .int x1), (3, .int x3), (4, .int x4), (5, .int x2)] [] σ14
    else
    bif isC σ9 9 x0 then hI (EC d mM_wordOf [.ref x0, .int x2, .int x4] σ9) fun i16 σ15 =>
    hO (sI σ15 r7 i8 i16) fun σ17 =>
    Ev (d + 1) mM_splits 169 [(0, .ref x0), (1, .int x1), (3, .int x3), (4, .int x4), (5, .int x2)] [] σ17
    else none
  else
  hO (gR σ 9 x0 11) fun r18 =>
  hO (lB σ r18 x4) fun i19 =>
  hI (EC d mM_isDigit [.int i19] σ) fun i21 σ20 =>
  if i21 = 0 then
    hO (gR σ20 9 x0 17) fun r22 =>
    hO (gI σ20 9 x0 18) fun i23 =>
    hO (sI σ20 r22 i23 x2) fun σ24 =>
    hO (gR σ24 9 x0 16) fun r25 =>
    hO (gI σ24 9 x0 18) fun i26 =>
    hO (sI σ24 r25 i26 0) fun σ27 =>
    hO (gR σ27 9 x0 15) fun r28 =>
    hO (gI σ27 9 x0 18) fun i29 =>
    hI (EC d mM_isSmall [.int x3] σ27) fun i31 σ30 =>
    if i31 = 0 then
      hI (EC d mM_isDigit [.int x3] σ30) fun i33 σ32 =>
      if i33 = 0 then
        hO (sI σ32 r28 i29 ((100 : Int32) + (x3 &&& (255 : Int32)))) fun σ34 =>
        Ev (d + 1) mM_splits 169 [(0, .ref x0), (1, .int x1), (3, .int x3), (4, .int x4), (5, .int x2)] [] σ34
      else
      hO (sI σ32 r28 i29 50) fun σ35 =>
      Ev (d + 1) mM_splits 169 [(0, .ref x0), (1, .int x1), (3, .int x3), (4, .int x4), (5, .int x2)] [] σ35
    else
    bif isC σ30 9 x0 then hI (EC d mM_wordOf [.ref x0, .int x2, .int x4] σ30) fun i37 σ36 =>
    hO (sI σ36 r28 i29 i37) fun σ38 =>
    Ev (d + 1) mM_splits 169 [(0, .ref x0), (1, .int x1), (3, .int x3), (4, .int x4), (5, .int x2)] [] σ38
    else none
  else
  Ev (d + 1) mM_splits 75 [(0, .ref x0), (1, .int x1), (2, .int x2), (3, .int x3), (4, .int (x4 + 1))] [] σ20 := (Ev_blk d mM_splits 40 _ _ _ _).trans rfl
set_option maxRecDepth 100000 in
theorem q_M_splits_169 (d : Nat) (x0 : Nat) (x1 : Int32) (x3 : Int32) (x4 : Int32) (x5 : Int32) (σ : Mem) : Ev (d + 1) mM_splits 169 [(0, .ref x0), (1, .int x1), (3, .int x3), (4, .int x4), (5, .int x5)] [] σ =
  if x4 ≤ x5 then
    hO (gI σ 9 x0 18) fun i1 =>
    hO (pF σ 9 x0 18 (.int (i1 + (1 : Int32)))) fun σ2 =>
    Ev (d + 1) mM_splits 7 [(0, .ref x0), (1, .int x1), (2, .int x4)] [] σ2
  else
  hI (EC d mM_isDigit [.int x3] σ) fun i4 σ3 =>
  if i4 = 0 then
    hO (gI σ3 9 x0 18) fun i5 =>
    hO (pF σ3 9 x0 18 (.int (i5 + (1 : Int32)))) fun σ6 =>
    Ev (d + 1) mM_splits 7 [(0, .ref x0), (1, .int x1), (2, .int x4)] [] σ6
  else
  hO (gR σ3 9 x0 16) fun r7 =>
  hO (gI σ3 9 x0 18) fun i8 =>
  hO (gR σ3 9 x0 16) fun r9 =>
  hO (gI σ3 9 x0 18) fun i10 =>
  hO (lI σ3 r9 i10) fun i11 =>
  if i11 ≤ 1000000 then
    hO (gR σ3 9 x0 16) fun r12 =>
    hO (gI σ3 9 x0 18) fun i13 =>
    hO (lI σ3 r12 i13) fun i14 =>
    hO (gR σ3 9 x0 11) fun r15 =>
    hO (lB σ3 r15 x5) fun i16 =>
    hO (sI σ3 r7 i8 ((((10 : Int32) * i14) + i16) - (48 : Int32))) fun σ17 =>
    Ev (d + 1) mM_splits 169 [(0, .ref x0), (1, .int x1), (3, .int x3), (4, .int x4), (5, .int (x5 + 1))] [] σ17
  else
  hO (gR σ3 9 x0 16) fun r18 =>
  hO (gI σ3 9 x0 18) fun i19 =>
  hO (lI σ3 r18 i19) fun i20 =>
  hO (sI σ3 r7 i8 i20) fun σ21 =>
  Ev (d + 1) mM_splits 169 [(0, .ref x0), (1, .int x1), (3, .int x3), (4, .int x4), (5, .int (x5 + 1))] [] σ21 := (Ev_blk d mM_splits 35 _ _ _ _).trans rfl
set_option maxRecDepth 100000 in
theorem q_M_fine (d : Nat) (a0 : Nat) (σ : Mem) : EC (d + 1) mM_fine [.ref a0] σ =
  hO (gI σ 9 a0 21) fun i1 =>
  if i1 = (-1) then
    some (some (.int 1), σ)
  else
  some (some (.int 0), σ) := (Ev_blk d mM_fine 8 _ _ _ _).trans rfl
set_option maxRecDepth 100000 in
theorem q_M_faults (d : Nat) (a0 : Nat) (σ : Mem) : EC (d + 1) mM_faults [.ref a0] σ =
  bif isC σ 9 a0 then hI (EC d mM_fine [.ref a0] σ) fun i2 σ1 =>
  if i2 = 0 then
    some (none, σ1)
  else
  hO (gR σ1 9 a0 17) fun r3 =>
  hO (gI σ1 9 a0 19) fun i4 =>
  hO (lI σ1 r3 i4) fun i5 =>
  hO (pF σ1 9 a0 21 (.int i5)) fun σ6 =>
  some (none, σ6)
  else none := (Ev_blk d mM_faults 12 _ _ _ _).trans rfl
set_option maxRecDepth 100000 in
theorem q_M_takes0 (d : Nat) (a0 : Nat) (a1 : Int32) (σ : Mem) : EC (d + 1) mM_takes0 [.ref a0, .int a1] σ =
  bif isC σ 9 a0 then hI (EC d mM_fine [.ref a0] σ) fun i2 σ1 =>
  if i2 = 0 then
    if (0 : Int32) = 0 then
      some (some (.int 0), σ1)
    else
    hO (gI σ1 9 a0 19) fun i3 =>
    hO (pF σ1 9 a0 19 (.int (i3 + (1 : Int32)))) fun σ4 =>
    some (some (.int 0), σ4)
  else
  hO (gR σ1 9 a0 15) fun r5 =>
  hO (gI σ1 9 a0 19) fun i6 =>
  hO (lI σ1 r5 i6) fun i7 =>
  if i7 = a1 then
    if (1 : Int32) = 0 then
      some (some (.int 1), σ1)
    else
    hO (gI σ1 9 a0 19) fun i8 =>
    hO (pF σ1 9 a0 19 (.int (i8 + (1 : Int32)))) fun σ9 =>
    some (some (.int 1), σ9)
  else
  if (0 : Int32) = 0 then
    some (some (.int 0), σ1)
  else
  hO (gI σ1 9 a0 19) fun i10 =>
  hO (pF σ1 9 a0 19 (.int (i10 + (1 : Int32)))) fun σ11 =>
  some (some (.int 0), σ11)
  else none := (Ev_blk d mM_takes0 24 _ _ _ _).trans rfl
set_option maxRecDepth 100000 in
theorem q_M_must (d : Nat) (a0 : Nat) (a1 : Int32) (σ : Mem) : EC (d + 1) mM_must [.ref a0, .int a1] σ =
  bif isC σ 9 a0 then hI (EC d mM_takes0 [.ref a0, .int a1] σ) fun i2 σ1 =>
  if i2 = 0 then
    bif isC σ1 9 a0 then hV (EC d mM_faults [.ref a0] σ1) fun σ3 =>
    some (none, σ3)
    else none
  else
  some (none, σ1)
  else none := (Ev_blk d mM_must 8 _ _ _ _).trans rfl
set_option maxRecDepth 100000 in
theorem q_M_leaf (d : Nat) (a0 : Nat) (σ : Mem) : EC (d + 1) mM_leaf [.ref a0] σ =
  hO (gI σ 9 a0 20) fun i1 =>
  if i1 = 50 then
    bif isC σ 9 a0 then hV (EC d mM_faults [.ref a0] σ) fun σ2 =>
    hO (gI σ2 9 a0 20) fun i3 =>
    hO (pF σ2 9 a0 20 (.int (i3 + (1 : Int32)))) fun σ4 =>
    bif isC σ4 9 a0 then hI (EC d mM_fine [.ref a0] σ4) fun i6 σ5 =>
    if i6 = 0 then
      some (none, σ5)
    else
    hO (gI σ5 9 a0 19) fun i7 =>
    hO (pF σ5 9 a0 19 (.int (i7 + (1 : Int32)))) fun σ8 =>
    some (none, σ8)
    else none
    else none
  else
  hO (gI σ 9 a0 20) fun i9 =>
  hO (pF σ 9 a0 20 (.int (i9 + (1 : Int32)))) fun σ10 =>
  bif isC σ10 9 a0 then hI (EC d mM_fine [.ref a0] σ10) fun i12 σ11 =>
  if i12 = 0 then
    some (none, σ11)
  else
  hO (gI σ11 9 a0 19) fun i13 =>
  hO (pF σ11 9 a0 19 (.int (i13 + (1 : Int32)))) fun σ14 =>
  some (none, σ14)
  else none := (Ev_blk d mM_leaf 23 _ _ _ _).trans rfl
set_option maxRecDepth 100000 in
theorem q_M_sign (d : Nat) (a0 : Int32) (σ : Mem) : EC (d + 1) mM_sign [.int a0] σ =
  some (some (.int ((100 : Int32) + a0)), σ) := (Ev_blk d mM_sign 5 _ _ _ _).trans rfl
set_option maxRecDepth 100000 in
theorem q_M_mustNumber (d : Nat) (a0 : Nat) (a1 : Int32) (a2 : Int32) (σ : Mem) : EC (d + 1) mM_mustNumber [.ref a0, .int a1, .int a2] σ =
  bif isC σ 9 a0 then hI (EC d mM_fine [.ref a0] σ) fun i2 σ1 =>
  if i2 = 0 then
    bif isC σ1 9 a0 then hI (EC d mM_fine [.ref a0] σ1) fun i4 σ3 =>
    if i4 = 0 then
      some (none, σ3)
    else
    hO (gI σ3 9 a0 19) fun i5 =>
    hO (pF σ3 9 a0 19 (.int (i5 + (1 : Int32)))) fun σ6 =>
    some (none, σ6)
    else none
  else
  hO (gR σ1 9 a0 15) fun r7 =>
  hO (gI σ1 9 a0 19) fun i8 =>
  hO (lI σ1 r7 i8) fun i9 =>
  if i9 = 50 then
    hO (gR σ1 9 a0 16) fun r10 =>
    hO (gI σ1 9 a0 19) fun i11 =>
    hO (lI σ1 r10 i11) fun i12 =>
    hI (EC d mM_lies [.int i12, .int a1, .int a2] σ1) fun i14 σ13 =>
    if i14 = 0 then
      bif isC σ13 9 a0 then hV (EC d mM_faults [.ref a0] σ13) fun σ15 =>
      bif isC σ15 9 a0 then hI (EC d mM_fine [.ref a0] σ15) fun i17 σ16 =>
      if i17 = 0 then
        some (none, σ16)
      else
      hO (gI σ16 9 a0 19) fun i18 =>
      hO (pF σ16 9 a0 19 (.int (i18 + (1 : Int32)))) fun σ19 =>
      some (none, σ19)
      else none
      else none
    else
    bif isC σ13 9 a0 then hI (EC d mM_fine [.ref a0] σ13) fun i21 σ20 =>
    if i21 = 0 then
      some (none, σ20)
    else
    hO (gI σ20 9 a0 19) fun i22 =>
    hO (pF σ20 9 a0 19 (.int (i22 + (1 : Int32)))) fun σ23 =>
    some (none, σ23)
    else none
  else
  bif isC σ1 9 a0 then hV (EC d mM_faults [.ref a0] σ1) fun σ24 =>
  bif isC σ24 9 a0 then hI (EC d mM_fine [.ref a0] σ24) fun i26 σ25 =>
  if i26 = 0 then
    some (none, σ25)
  else
  hO (gI σ25 9 a0 19) fun i27 =>
  hO (pF σ25 9 a0 19 (.int (i27 + (1 : Int32)))) fun σ28 =>
  some (none, σ28)
  else none
  else none
  else none := (Ev_blk d mM_mustNumber 32 _ _ _ _).trans rfl
set_option maxRecDepth 100000 in
theorem q_M_readClause (d : Nat) (a0 : Nat) (σ : Mem) : EC (d + 1) mM_readClause [.ref a0] σ =
  bif isC σ 9 a0 then hI (EC d mM_takes0 [.ref a0, .int 1] σ) fun i2 σ1 =>
  if i2 = 0 then
    bif isC σ1 9 a0 then hI (EC d mM_takes0 [.ref a0, .int 2] σ1) fun i4 σ3 =>
    if i4 = 0 then
      bif isC σ3 9 a0 then hV (EC d mM_must [.ref a0, .int 3] σ3) fun σ5 =>
      bif isC σ5 9 a0 then hI (EC d mM_takes0 [.ref a0, .int 4] σ5) fun i7 σ6 =>
      if i7 = 0 then
        some (none, σ6)
      else
      bif isC σ6 9 a0 then hV (EC d mM_readTest [.ref a0, .int 0] σ6) fun σ8 =>
      some (none, σ8)
      else none
      else none
      else none
    else
    bif isC σ3 9 a0 then hV (EC d mM_readSum [.ref a0, .int 0] σ3) fun σ9 =>
    bif isC σ9 9 a0 then hI (EC d mM_takes0 [.ref a0, .int 4] σ9) fun i11 σ10 =>
    if i11 = 0 then
      some (none, σ10)
    else
    bif isC σ10 9 a0 then hV (EC d mM_readTest [.ref a0, .int 0] σ10) fun σ12 =>
    some (none, σ12)
    else none
    else none
    else none
    else none
  else
  bif isC σ1 9 a0 then hV (EC d mM_readSum [.ref a0, .int 0] σ1) fun σ13 =>
  bif isC σ13 9 a0 then hI (EC d mM_takes0 [.ref a0, .int 4] σ13) fun i15 σ14 =>
  if i15 = 0 then
    some (none, σ14)
  else
  bif isC σ14 9 a0 then hV (EC d mM_readTest [.ref a0, .int 0] σ14) fun σ16 =>
  some (none, σ16)
  else none
  else none
  else none
  else none := (Ev_blk d mM_readClause 21 _ _ _ _).trans rfl
set_option maxRecDepth 100000 in
theorem q_M_readOrder (d : Nat) (a0 : Nat) (σ : Mem) : EC (d + 1) mM_readOrder [.ref a0] σ =
  bif isC σ 9 a0 then hI (EC d mM_takes0 [.ref a0, .int 20] σ) fun i2 σ1 =>
  if i2 = 0 then
    bif isC σ1 9 a0 then hI (EC d mM_takes0 [.ref a0, .int 21] σ1) fun i4 σ3 =>
    if i4 = 0 then
      bif isC σ3 9 a0 then hI (EC d mM_takes0 [.ref a0, .int 22] σ3) fun i6 σ5 =>
      if i6 = 0 then
        bif isC σ5 9 a0 then hV (EC d mM_must [.ref a0, .int 24] σ5) fun σ7 =>
        Ev (d + 1) mM_readOrder 79 [(0, .ref a0)] [] σ7
        else none
      else
      bif isC σ5 9 a0 then hV (EC d mM_readSum [.ref a0, .int 0] σ5) fun σ8 =>
      bif isC σ8 9 a0 then hV (EC d mM_must [.ref a0, .int 23] σ8) fun σ9 =>
      bif isC σ9 9 a0 then hV (EC d mM_readSum [.ref a0, .int 0] σ9) fun σ10 =>
      Ev (d + 1) mM_readOrder 79 [(0, .ref a0)] [] σ10
      else none
      else none
      else none
      else none
    else
    bif isC σ3 9 a0 then hV (EC d mM_readSum [.ref a0, .int 0] σ3) fun σ11 =>
    Ev (d + 1) mM_readOrder 79 [(0, .ref a0)] [] σ11
    else none
    else none
  else
  bif isC σ1 9 a0 then hV (EC d mM_readSum [.ref a0, .int 0] σ1) fun σ12 =>
  bif isC σ12 9 a0 then hV (EC d mM_must [.ref a0, .int 12] σ12) fun σ13 =>
  bif isC σ13 9 a0 then hV (EC d mM_readSum [.ref a0, .int 0] σ13) fun σ14 =>
  Ev (d + 1) mM_readOrder 79 [(0, .ref a0)] [] σ14
  else none
  else none
  else none
  else none := (Ev_blk d mM_readOrder 23 _ _ _ _).trans rfl
set_option maxRecDepth 100000 in
theorem q_M_readOrder_79 (d : Nat) (x0 : Nat) (σ : Mem) : Ev (d + 1) mM_readOrder 79 [(0, .ref x0)] [] σ =
  bif isC σ 9 x0 then hI (EC d mM_takes0 [.ref x0, .int 25] σ) fun i2 σ1 =>
  if i2 = 0 then
    bif isC σ1 9 x0 then hI (EC d mM_takes0 [.ref x0, .int 4] σ1) fun i4 σ3 =>
    if i4 = 0 then
      some (none, σ3)
    else
    bif isC σ3 9 x0 then hV (EC d mM_readTest [.ref x0, .int 0] σ3) fun σ5 =>
    some (none, σ5)
    else none
    else none
  else
  bif isC σ1 9 x0 then hV (EC d mM_mustNumber [.ref x0, .int 1, .int 20] σ1) fun σ6 =>
  bif isC σ6 9 x0 then hI (EC d mM_takes0 [.ref x0, .int 4] σ6) fun i8 σ7 =>
  if i8 = 0 then
    some (none, σ7)
  else
  bif isC σ7 9 x0 then hV (EC d mM_readTest [.ref x0, .int 0] σ7) fun σ9 =>
  some (none, σ9)
  else none
  else none
  else none
  else none := (Ev_blk d mM_readOrder 17 _ _ _ _).trans rfl
set_option maxRecDepth 100000 in
theorem q_M_readOne (d : Nat) (a0 : Nat) (σ : Mem) : EC (d + 1) mM_readOne [.ref a0] σ =
  hO (gI σ 9 a0 10) fun i1 =>
  if i1 = 0 then
    bif isC σ 9 a0 then hV (EC d mM_readClause [.ref a0] σ) fun σ2 =>
    some (none, σ2)
    else none
  else
  bif isC σ 9 a0 then hV (EC d mM_readOrder [.ref a0] σ) fun σ3 =>
  some (none, σ3)
  else none := (Ev_blk d mM_readOne 8 _ _ _ _).trans rfl
set_option maxRecDepth 100000 in
theorem q_M_readTest (d : Nat) (a0 : Nat) (a1 : Int32) (σ : Mem) : EC (d + 1) mM_readTest [.ref a0, .int a1] σ =
  bif isC σ 9 a0 then hV (EC d mM_readBoth [.ref a0, .int a1] σ) fun σ1 =>
  Ev (d + 1) mM_readTest 5 [(0, .ref a0), (1, .int a1)] [] σ1
  else none := (Ev_blk d mM_readTest 4 _ _ _ _).trans rfl
set_option maxRecDepth 100000 in
theorem q_M_readTest_5 (d : Nat) (x0 : Nat) (x1 : Int32) (σ : Mem) : Ev (d + 1) mM_readTest 5 [(0, .ref x0), (1, .int x1)] [] σ =
  bif isC σ 9 x0 then hI (EC d mM_takes0 [.ref x0, .int 5] σ) fun i2 σ1 =>
  if i2 = 0 then
    some (none, σ1)
  else
  bif isC σ1 9 x0 then hV (EC d mM_readBoth [.ref x0, .int x1] σ1) fun σ3 =>
  Ev (d + 1) mM_readTest 5 [(0, .ref x0), (1, .int x1)] [] σ3
  else none
  else none := (Ev_blk d mM_readTest 9 _ _ _ _).trans rfl
set_option maxRecDepth 100000 in
theorem q_M_readBoth (d : Nat) (a0 : Nat) (a1 : Int32) (σ : Mem) : EC (d + 1) mM_readBoth [.ref a0, .int a1] σ =
  bif isC σ 9 a0 then hV (EC d mM_readPlain [.ref a0, .int a1] σ) fun σ1 =>
  Ev (d + 1) mM_readBoth 5 [(0, .ref a0), (1, .int a1)] [] σ1
  else none := (Ev_blk d mM_readBoth 4 _ _ _ _).trans rfl
set_option maxRecDepth 100000 in
theorem q_M_readBoth_5 (d : Nat) (x0 : Nat) (x1 : Int32) (σ : Mem) : Ev (d + 1) mM_readBoth 5 [(0, .ref x0), (1, .int x1)] [] σ =
  bif isC σ 9 x0 then hI (EC d mM_takes0 [.ref x0, .int 6] σ) fun i2 σ1 =>
  if i2 = 0 then
    some (none, σ1)
  else
  bif isC σ1 9 x0 then hV (EC d mM_readPlain [.ref x0, .int x1] σ1) fun σ3 =>
  Ev (d + 1) mM_readBoth 5 [(0, .ref x0), (1, .int x1)] [] σ3
  else none
  else none := (Ev_blk d mM_readBoth 9 _ _ _ _).trans rfl
set_option maxRecDepth 100000 in
theorem q_M_readPlain (d : Nat) (a0 : Nat) (a1 : Int32) (σ : Mem) : EC (d + 1) mM_readPlain [.ref a0, .int a1] σ =
  Ev (d + 1) mM_readPlain 2 [(0, .ref a0), (1, .int a1), (2, .int 1)] [] σ := (Ev_blk d mM_readPlain 3 _ _ _ _).trans rfl
set_option maxRecDepth 100000 in
theorem q_M_readPlain_2 (d : Nat) (x0 : Nat) (x1 : Int32) (x2 : Int32) (σ : Mem) : Ev (d + 1) mM_readPlain 2 [(0, .ref x0), (1, .int x1), (2, .int x2)] [] σ =
  if x2 = 0 then
    bif isC σ 9 x0 then hI (EC d mM_fine [.ref x0] σ) fun i2 σ1 =>
    if i2 = 0 then
      some (none, σ1)
    else
    hO (gR σ1 9 x0 15) fun r3 =>
    hO (gI σ1 9 x0 19) fun i4 =>
    hO (lI σ1 r3 i4) fun i5 =>
    hI (EC d mM_sign [.int 40] σ1) fun i7 σ6 =>
    if i5 = i7 then
      if x1 = 8 then
        bif isC σ6 9 x0 then hV (EC d mM_faults [.ref x0] σ6) fun σ8 =>
        bif isC σ8 9 x0 then hI (EC d mM_fine [.ref x0] σ8) fun i10 σ9 =>
        if i10 = 0 then
          some (none, σ9)
        else
        hO (gI σ9 9 x0 19) fun i11 =>
        hO (pF σ9 9 x0 19 (.int (i11 + (1 : Int32)))) fun σ12 =>
        bif isC σ12 9 x0 then hV (EC d mM_readTest [.ref x0, .int (x1 + (1 : Int32))] σ12) fun σ13 =>
        hI (EC d mM_sign [.int 41] σ13) fun i15 σ14 =>
        bif isC σ14 9 x0 then hV (EC d mM_must [.ref x0, .int i15] σ14) fun σ16 =>
        some (none, σ16)
        else none
        else none
        else none
        else none
      else
      bif isC σ6 9 x0 then hI (EC d mM_fine [.ref x0] σ6) fun i18 σ17 =>
      if i18 = 0 then
        some (none, σ17)
      else
      hO (gI σ17 9 x0 19) fun i19 =>
      hO (pF σ17 9 x0 19 (.int (i19 + (1 : Int32)))) fun σ20 =>
      bif isC σ20 9 x0 then hV (EC d mM_readTest [.ref x0, .int (x1 + (1 : Int32))] σ20) fun σ21 =>
      hI (EC d mM_sign [.int 41] σ21) fun i23 σ22 =>
      bif isC σ22 9 x0 then hV (EC d mM_must [.ref x0, .int i23] σ22) fun σ24 =>
      some (none, σ24)
      else none
      else none
      else none
    else
    bif isC σ6 9 x0 then hV (EC d mM_readSum [.ref x0, .int x1] σ6) fun σ25 =>
    hI (EC d mM_sign [.int 60] σ25) fun i27 σ26 =>
    bif isC σ26 9 x0 then hI (EC d mM_takes0 [.ref x0, .int i27] σ26) fun i29 σ28 =>
    if i29 = 0 then
      hI (EC d mM_sign [.int 62] σ28) fun i31 σ30 =>
      bif isC σ30 9 x0 then hI (EC d mM_takes0 [.ref x0, .int i31] σ30) fun i33 σ32 =>
      if i33 = 0 then
        hI (EC d mM_sign [.int 61] σ32) fun i35 σ34 =>
        bif isC σ34 9 x0 then hV (EC d mM_must [.ref x0, .int i35] σ34) fun σ36 =>
        bif isC σ36 9 x0 then hV (EC d mM_readSum [.ref x0, .int x1] σ36) fun σ37 =>
        some (none, σ37)
        else none
        else none
      else
      bif isC σ32 9 x0 then hV (EC d mM_readSum [.ref x0, .int x1] σ32) fun σ38 =>
      some (none, σ38)
      else none
      else none
    else
    bif isC σ28 9 x0 then hV (EC d mM_readSum [.ref x0, .int x1] σ28) fun σ39 =>
    some (none, σ39)
    else none
    else none
    else none
    else none
  else
  bif isC σ 9 x0 then hI (EC d mM_takes0 [.ref x0, .int 7] σ) fun i41 σ40 =>
  Ev (d + 1) mM_readPlain 2 [(0, .ref x0), (1, .int x1), (2, .int i41)] [] σ40
  else none := (Ev_blk d mM_readPlain 41 _ _ _ _).trans rfl
set_option maxRecDepth 100000 in
theorem q_M_readSum (d : Nat) (a0 : Nat) (a1 : Int32) (σ : Mem) : EC (d + 1) mM_readSum [.ref a0, .int a1] σ =
  bif isC σ 9 a0 then hV (EC d mM_readTerm [.ref a0, .int a1] σ) fun σ1 =>
  Ev (d + 1) mM_readSum 5 [(0, .ref a0), (1, .int a1)] [] σ1
  else none := (Ev_blk d mM_readSum 4 _ _ _ _).trans rfl
set_option maxRecDepth 100000 in
theorem q_M_readSum_5 (d : Nat) (x0 : Nat) (x1 : Int32) (σ : Mem) : Ev (d + 1) mM_readSum 5 [(0, .ref x0), (1, .int x1)] [] σ =
  hI (EC d mM_sign [.int 43] σ) fun i2 σ1 =>
  bif isC σ1 9 x0 then hI (EC d mM_takes0 [.ref x0, .int i2] σ1) fun i4 σ3 =>
  if i4 = 0 then
    hI (EC d mM_sign [.int 45] σ3) fun i6 σ5 =>
    bif isC σ5 9 x0 then hI (EC d mM_takes0 [.ref x0, .int i6] σ5) fun i8 σ7 =>
    if i8 = 0 then
      some (none, σ7)
    else
    bif isC σ7 9 x0 then hV (EC d mM_readTerm [.ref x0, .int x1] σ7) fun σ9 =>
    Ev (d + 1) mM_readSum 5 [(0, .ref x0), (1, .int x1)] [] σ9
    else none
    else none
  else
  bif isC σ3 9 x0 then hV (EC d mM_readTerm [.ref x0, .int x1] σ3) fun σ10 =>
  Ev (d + 1) mM_readSum 5 [(0, .ref x0), (1, .int x1)] [] σ10
  else none
  else none := (Ev_blk d mM_readSum 15 _ _ _ _).trans rfl
set_option maxRecDepth 100000 in
theorem q_M_readTerm (d : Nat) (a0 : Nat) (a1 : Int32) (σ : Mem) : EC (d + 1) mM_readTerm [.ref a0, .int a1] σ =
  bif isC σ 9 a0 then hV (EC d mM_readPart [.ref a0, .int a1] σ) fun σ1 =>
  Ev (d + 1) mM_readTerm 5 [(0, .ref a0), (1, .int a1)] [] σ1
  else none := (Ev_blk d mM_readTerm 4 _ _ _ _).trans rfl
set_option maxRecDepth 100000 in
theorem q_M_readTerm_5 (d : Nat) (x0 : Nat) (x1 : Int32) (σ : Mem) : Ev (d + 1) mM_readTerm 5 [(0, .ref x0), (1, .int x1)] [] σ =
  hI (EC d mM_sign [.int 42] σ) fun i2 σ1 =>
  bif isC σ1 9 x0 then hI (EC d mM_takes0 [.ref x0, .int i2] σ1) fun i4 σ3 =>
  if i4 = 0 then
    hI (EC d mM_sign [.int 47] σ3) fun i6 σ5 =>
    bif isC σ5 9 x0 then hI (EC d mM_takes0 [.ref x0, .int i6] σ5) fun i8 σ7 =>
    if i8 = 0 then
      hI (EC d mM_sign [.int 37] σ7) fun i10 σ9 =>
      bif isC σ9 9 x0 then hI (EC d mM_takes0 [.ref x0, .int i10] σ9) fun i12 σ11 =>
      if i12 = 0 then
        some (none, σ11)
      else
      bif isC σ11 9 x0 then hV (EC d mM_readPart [.ref x0, .int x1] σ11) fun σ13 =>
      Ev (d + 1) mM_readTerm 5 [(0, .ref x0), (1, .int x1)] [] σ13
      else none
      else none
    else
    bif isC σ7 9 x0 then hV (EC d mM_readPart [.ref x0, .int x1] σ7) fun σ14 =>
    Ev (d + 1) mM_readTerm 5 [(0, .ref x0), (1, .int x1)] [] σ14
    else none
    else none
  else
  bif isC σ3 9 x0 then hV (EC d mM_readPart [.ref x0, .int x1] σ3) fun σ15 =>
  Ev (d + 1) mM_readTerm 5 [(0, .ref x0), (1, .int x1)] [] σ15
  else none
  else none := (Ev_blk d mM_readTerm 20 _ _ _ _).trans rfl
set_option maxRecDepth 100000 in
theorem q_M_readPart (d : Nat) (a0 : Nat) (a1 : Int32) (σ : Mem) : EC (d + 1) mM_readPart [.ref a0, .int a1] σ =
  bif isC σ 9 a0 then hI (EC d mM_fine [.ref a0] σ) fun i2 σ1 =>
  if i2 = 0 then
    some (none, σ1)
  else
  hO (gR σ1 9 a0 15) fun r3 =>
  hO (gI σ1 9 a0 19) fun i4 =>
  hO (lI σ1 r3 i4) fun i5 =>
  hI (EC d mM_sign [.int 91] σ1) fun i7 σ6 =>
  if i5 = i7 then
    if a1 = 8 then
      bif isC σ6 9 a0 then hV (EC d mM_faults [.ref a0] σ6) fun σ8 =>
      bif isC σ8 9 a0 then hI (EC d mM_fine [.ref a0] σ8) fun i10 σ9 =>
      if i10 = 0 then
        some (none, σ9)
      else
      hO (gI σ9 9 a0 19) fun i11 =>
      hO (pF σ9 9 a0 19 (.int (i11 + (1 : Int32)))) fun σ12 =>
      bif isC σ12 9 a0 then hV (EC d mM_readSum [.ref a0, .int (a1 + (1 : Int32))] σ12) fun σ13 =>
      hI (EC d mM_sign [.int 93] σ13) fun i15 σ14 =>
      bif isC σ14 9 a0 then hV (EC d mM_must [.ref a0, .int i15] σ14) fun σ16 =>
      some (none, σ16)
      else none
      else none
      else none
      else none
    else
    bif isC σ6 9 a0 then hI (EC d mM_fine [.ref a0] σ6) fun i18 σ17 =>
    if i18 = 0 then
      some (none, σ17)
    else
    hO (gI σ17 9 a0 19) fun i19 =>
    hO (pF σ17 9 a0 19 (.int (i19 + (1 : Int32)))) fun σ20 =>
    bif isC σ20 9 a0 then hV (EC d mM_readSum [.ref a0, .int (a1 + (1 : Int32))] σ20) fun σ21 =>
    hI (EC d mM_sign [.int 93] σ21) fun i23 σ22 =>
    bif isC σ22 9 a0 then hV (EC d mM_must [.ref a0, .int i23] σ22) fun σ24 =>
    some (none, σ24)
    else none
    else none
    else none
  else
  if i5 = 50 then
    hO (gR σ6 9 a0 16) fun r25 =>
    hO (gI σ6 9 a0 19) fun i26 =>
    hO (lI σ6 r25 i26) fun i27 =>
    if i27 ≤ 1000 then
      Ev (d + 1) mM_readPart 111 [(0, .ref a0), (2, .int i5)] [] σ6
    else
    Ev (d + 1) mM_readPart 95 [(0, .ref a0), (2, .int i5)] [] σ6
  else
  Ev (d + 1) mM_readPart 95 [(0, .ref a0), (2, .int i5)] [] σ6
  else none := (Ev_blk d mM_readPart 39 _ _ _ _).trans rfl
set_option maxRecDepth 100000 in
theorem q_M_readPart_95 (d : Nat) (x0 : Nat) (x2 : Int32) (σ : Mem) : Ev (d + 1) mM_readPart 95 [(0, .ref x0), (2, .int x2)] [] σ =
  hO (gI σ 9 x0 8) fun i1 =>
  if x2 < i1 then
    bif isC σ 9 x0 then hV (EC d mM_faults [.ref x0] σ) fun σ2 =>
    some (none, σ2)
    else none
  else
  hO (gI σ 9 x0 9) fun i3 =>
  if i3 < x2 then
    bif isC σ 9 x0 then hV (EC d mM_faults [.ref x0] σ) fun σ4 =>
    some (none, σ4)
    else none
  else
  Ev (d + 1) mM_readPart 111 [(0, .ref x0), (2, .int x2)] [] σ := (Ev_blk d mM_readPart 12 _ _ _ _).trans rfl
set_option maxRecDepth 100000 in
theorem q_M_readPart_111 (d : Nat) (x0 : Nat) (x2 : Int32) (σ : Mem) : Ev (d + 1) mM_readPart 111 [(0, .ref x0), (2, .int x2)] [] σ =
  bif isC σ 9 x0 then hV (EC d mM_leaf [.ref x0] σ) fun σ1 =>
  hO (gI σ1 9 x0 10) fun i2 =>
  if i2 = 0 then
    Ev (d + 1) mM_readPart 134 [(0, .ref x0), (2, .int x2)] [] σ1
  else
  if x2 = 15 then
    bif isC σ1 9 x0 then hV (EC d mM_mustNumber [.ref x0, .int 0, .int 5] σ1) fun σ3 =>
    Ev (d + 1) mM_readPart 134 [(0, .ref x0), (2, .int x2)] [] σ3
    else none
  else
  Ev (d + 1) mM_readPart 134 [(0, .ref x0), (2, .int x2)] [] σ1
  else none := (Ev_blk d mM_readPart 13 _ _ _ _).trans rfl
set_option maxRecDepth 100000 in
theorem q_M_readPart_134 (d : Nat) (x0 : Nat) (x2 : Int32) (σ : Mem) : Ev (d + 1) mM_readPart 134 [(0, .ref x0), (2, .int x2)] [] σ =
  hO (gI σ 9 x0 10) fun i1 =>
  if i1 = 0 then
    some (none, σ)
  else
  if x2 = 14 then
    bif isC σ 9 x0 then hV (EC d mM_mustNumber [.ref x0, .int 0, .int 9] σ) fun σ2 =>
    some (none, σ2)
    else none
  else
  if x2 = 19 then
    bif isC σ 9 x0 then hV (EC d mM_mustNumber [.ref x0, .int 0, .int 9] σ) fun σ3 =>
    some (none, σ3)
    else none
  else
  some (none, σ) := (Ev_blk d mM_readPart 16 _ _ _ _).trans rfl
set_option maxRecDepth 100000 in
theorem q_M_reads (d : Nat) (a0 : Nat) (σ : Mem) : EC (d + 1) mM_reads [.ref a0] σ =
  hO (gI σ 9 a0 13) fun i1 =>
  bif isC σ 9 a0 then hV (EC d mM_splits [.ref a0, .int i1] σ) fun σ2 =>
  hO (pF σ2 9 a0 13 (.int 0)) fun σ3 =>
  hO (pF σ3 9 a0 19 (.int 0)) fun σ4 =>
  hO (pF σ4 9 a0 20 (.int 0)) fun σ5 =>
  hO (pF σ5 9 a0 21 (.int (-1))) fun σ6 =>
  bif isC σ6 9 a0 then hV (EC d mM_readOne [.ref a0] σ6) fun σ7 =>
  Ev (d + 1) mM_reads 34 [(0, .ref a0), (1, .int 1)] [] σ7
  else none
  else none := (Ev_blk d mM_reads 21 _ _ _ _).trans rfl
set_option maxRecDepth 100000 in
theorem q_M_reads_34 (d : Nat) (x0 : Nat) (x1 : Int32) (σ : Mem) : Ev (d + 1) mM_reads 34 [(0, .ref x0), (1, .int x1)] [] σ =
  hI (EC d mM_sign [.int 59] σ) fun i2 σ1 =>
  bif isC σ1 9 x0 then hI (EC d mM_takes0 [.ref x0, .int i2] σ1) fun i4 σ3 =>
  if i4 = 0 then
    bif isC σ3 9 x0 then hI (EC d mM_fine [.ref x0] σ3) fun i6 σ5 =>
    if i6 = 0 then
      hO (gI σ5 9 x0 21) fun i7 =>
      hO (pF σ5 9 x0 14 (.int i7)) fun σ8 =>
      bif isC σ8 9 x0 then hI (EC d mM_fine [.ref x0] σ8) fun i10 σ9 =>
      bif okZ i10 then some (some (.int i10), σ9) else none
      else none
    else
    hO (gI σ5 9 x0 19) fun i11 =>
    hO (gI σ5 9 x0 18) fun i12 =>
    if i12 ≤ i11 then
      hO (gI σ5 9 x0 21) fun i13 =>
      hO (pF σ5 9 x0 14 (.int i13)) fun σ14 =>
      bif isC σ14 9 x0 then hI (EC d mM_fine [.ref x0] σ14) fun i16 σ15 =>
      bif okZ i16 then some (some (.int i16), σ15) else none
      else none
    else
    bif isC σ5 9 x0 then hV (EC d mM_faults [.ref x0] σ5) fun σ17 =>
    hO (gI σ17 9 x0 21) fun i18 =>
    hO (pF σ17 9 x0 14 (.int i18)) fun σ19 =>
    bif isC σ19 9 x0 then hI (EC d mM_fine [.ref x0] σ19) fun i21 σ20 =>
    bif okZ i21 then some (some (.int i21), σ20) else none
    else none
    else none
    else none
  else
  if x1 = 12 then
    bif isC σ3 9 x0 then hV (EC d mM_faults [.ref x0] σ3) fun σ22 =>
    bif isC σ22 9 x0 then hI (EC d mM_fine [.ref x0] σ22) fun i24 σ23 =>
    if i24 = 0 then
      Ev (d + 1) mM_reads 34 [(0, .ref x0), (1, .int (x1 + 1))] [] σ23
    else
    bif isC σ23 9 x0 then hV (EC d mM_readOne [.ref x0] σ23) fun σ25 =>
    Ev (d + 1) mM_reads 34 [(0, .ref x0), (1, .int (x1 + 1))] [] σ25
    else none
    else none
    else none
  else
  bif isC σ3 9 x0 then hI (EC d mM_fine [.ref x0] σ3) fun i27 σ26 =>
  if i27 = 0 then
    Ev (d + 1) mM_reads 34 [(0, .ref x0), (1, .int (x1 + 1))] [] σ26
  else
  bif isC σ26 9 x0 then hV (EC d mM_readOne [.ref x0] σ26) fun σ28 =>
  Ev (d + 1) mM_reads 34 [(0, .ref x0), (1, .int (x1 + 1))] [] σ28
  else none
  else none
  else none := (Ev_blk d mM_reads 23 _ _ _ _).trans rfl
set_option maxRecDepth 100000 in
theorem q_M_readsAs (d : Nat) (a0 : Nat) (a1 : Int32) (σ : Mem) : EC (d + 1) mM_readsAs [.ref a0, .int a1] σ =
  bif okZ a1 then hO (pF σ 9 a0 10 (.int a1)) fun σ1 =>
  if a1 = 0 then
    hO (pF σ1 9 a0 8 (.int 8)) fun σ2 =>
    if a1 = 0 then
      hO (pF σ2 9 a0 9 (.int 16)) fun σ3 =>
      bif isC σ3 9 a0 then hI (EC d mM_reads [.ref a0] σ3) fun i5 σ4 =>
      bif okZ i5 then some (some (.int i5), σ4) else none
      else none
    else
    hO (pF σ2 9 a0 9 (.int 19)) fun σ6 =>
    bif isC σ6 9 a0 then hI (EC d mM_reads [.ref a0] σ6) fun i8 σ7 =>
    bif okZ i8 then some (some (.int i8), σ7) else none
    else none
  else
  hO (pF σ1 9 a0 8 (.int 14)) fun σ9 =>
  if a1 = 0 then
    hO (pF σ9 9 a0 9 (.int 16)) fun σ10 =>
    bif isC σ10 9 a0 then hI (EC d mM_reads [.ref a0] σ10) fun i12 σ11 =>
    bif okZ i12 then some (some (.int i12), σ11) else none
    else none
  else
  hO (pF σ9 9 a0 9 (.int 19)) fun σ13 =>
  bif isC σ13 9 a0 then hI (EC d mM_reads [.ref a0] σ13) fun i15 σ14 =>
  bif okZ i15 then some (some (.int i15), σ14) else none
  else none
  else none := (Ev_blk d mM_readsAs 19 _ _ _ _).trans rfl
set_option maxRecDepth 100000 in
theorem q_M_lays (d : Nat) (a0 : Nat) (a1 : Int32) (σ : Mem) : EC (d + 1) mM_lays [.ref a0, .int a1] σ =
  hO (gR σ 9 a0 2) fun r1 =>
  hO (gI σ 9 a0 18) fun i2 =>
  hO (sI σ r1 ((104 : Int32) + a1) i2) fun σ3 =>
  Ev (d + 1) mM_lays 15 [(0, .ref a0), (1, .int a1), (2, .int 0)] [] σ3 := (Ev_blk d mM_lays 11 _ _ _ _).trans rfl
set_option maxRecDepth 100000 in
theorem q_M_lays_15 (d : Nat) (x0 : Nat) (x1 : Int32) (x2 : Int32) (σ : Mem) : Ev (d + 1) mM_lays 15 [(0, .ref x0), (1, .int x1), (2, .int x2)] [] σ =
  hO (gI σ 9 x0 18) fun i1 =>
  if i1 ≤ x2 then
    some (none, σ)
  else
  hO (gR σ 9 x0 2) fun r2 =>
  hO (gR σ 9 x0 15) fun r3 =>
  hO (lI σ r3 x2) fun i4 =>
  hO (sI σ r2 (((111 : Int32) + ((400 : Int32) * x1)) + x2) i4) fun σ5 =>
  hO (gR σ5 9 x0 2) fun r6 =>
  hO (gR σ5 9 x0 16) fun r7 =>
  hO (lI σ5 r7 x2) fun i8 =>
  hO (sI σ5 r6 (((2911 : Int32) + ((400 : Int32) * x1)) + x2) i8) fun σ9 =>
  Ev (d + 1) mM_lays 15 [(0, .ref x0), (1, .int x1), (2, .int (x2 + 1))] [] σ9 := (Ev_blk d mM_lays 35 _ _ _ _).trans rfl
set_option maxRecDepth 100000 in
theorem q_M_law (d : Nat) (a0 : Nat) (σ : Mem) : EC (d + 1) mM_law [.ref a0] σ =
  hO (gR σ 9 a0 2) fun r1 =>
  hO (lI σ r1 102) fun i2 =>
  if i2 = 6 then
    hO (pF σ 9 a0 13 (.int 0)) fun σ3 =>
    bif isC σ3 9 a0 then hI (EC d mM_refuses [.ref a0, .int (-5)] σ3) fun i5 σ4 =>
    some (some (.int i5), σ4)
    else none
  else
  bif isC σ 9 a0 then hI (EC d mM_readsAs [.ref a0, .int 0] σ) fun i7 σ6 =>
  if i7 = 0 then
    bif isC σ6 9 a0 then hI (EC d mM_refuses [.ref a0, .int (-6)] σ6) fun i9 σ8 =>
    some (some (.int i9), σ8)
    else none
  else
  hO (gR σ6 9 a0 2) fun r10 =>
  hO (lI σ6 r10 102) fun i11 =>
  bif isC σ6 9 a0 then hV (EC d mM_lays [.ref a0, .int i11] σ6) fun σ12 =>
  hO (gR σ12 9 a0 2) fun r13 =>
  hO (lI σ12 r13 102) fun i14 =>
  hO (sI σ12 r13 102 (i14 + (1 : Int32))) fun σ15 =>
  hO (gR σ15 9 a0 2) fun r16 =>
  hO (lI σ15 r16 102) fun i17 =>
  bif isC σ15 9 a0 then hI (EC d mM_good [.ref a0, .int (i17 - (1 : Int32))] σ15) fun i19 σ18 =>
  some (some (.int i19), σ18)
  else none
  else none
  else none := (Ev_blk d mM_law 34 _ _ _ _).trans rfl
