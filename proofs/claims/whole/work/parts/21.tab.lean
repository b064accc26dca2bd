/-! ===== specs: the cells 0..85 (printed by wip/whole/mkbase.py) ===== -/
def dsc : List (Nat × Nat × Nat × List Nat) := [(0, 8, 0, [3, 16, 29, 1, 30, 32, 34, 0, 35, 40, 42, 47, 53, 0, 0, 0, 0, 0, 0, 59]), (0, 1, 0, [0, 4, 0, 5, 6, 7, 8, 9, 10, 11, 0, 12, 13, 14, 0, 15, 0]), (1, 0, 6, []), (1, 0, 10, []), (1, 0, 10, []), (1, 0, 10, []), (1, 0, 10, []), (1, 0, 10, []), (1, 0, 10, []), (1, 0, 10, []), (1, 0, 10, []), (1, 0, 10, []), (1, 0, 3, []), (3, 4, 6, []), (0, 1, 0, [0, 17, 0, 18, 19, 20, 21, 22, 23, 24, 0, 25, 26, 27, 0, 28, 0]), (1, 0, 6, []), (1, 0, 10, []), (1, 0, 10, []), (1, 0, 10, []), (1, 0, 10, []), (1, 0, 10, []), (1, 0, 10, []), (1, 0, 10, []), (1, 0, 10, []), (1, 0, 10, []), (1, 0, 3, []), (3, 4, 6, []), (3, 5, 2, []), (0, 3, 0, [31, 0, 0]), (1, 0, 119, []), (0, 3, 0, [33, 0, 0]), (1, 0, 119, []), (1, 0, 400, []), (0, 6, 0, [36, 1, 0, 0, 0, 0, 0, 0, 0, 0]), (0, 5, 0, [0, 0, 37, 38]), (1, 0, 72, []), (1, 0, 400, []), (1, 0, 0, []), (0, 7, 0, [41, 1, 0, 0, 0, 0]), (1, 0, 64, []), (0, 4, 0, [43, 44, 45, 46, 0]), (1, 0, 10, []), (1, 0, 10, []), (1, 0, 10, []), (1, 0, 45, []), (0, 2, 0, [48, 49, 50, 51, 52, 0]), (1, 0, 6, []), (1, 0, 6, []), (1, 0, 6, []), (1, 0, 6, []), (1, 0, 6, []), (0, 0, 0, [54, 55, 56, 57, 58, 0, 0]), (1, 0, 7, []), (1, 0, 7, []), (1, 0, 7, []), (1, 0, 10, []), (1, 0, 10, []), (1, 0, 5, []), (0, 9, 0, [0, 61, 62, 63, 64, 65, 0, 66, 0, 0, 0, 67, 68, 0, 0, 69, 70, 71, 0, 0, 0, 0, 0, 0, 0, 0, 72, 0, 0, 73, 74, 0, 75, 76, 77, 78, 79, 80, 0, 81, 82, 83, 0, 0, 0, 0, 0, 0, 0, 84, 85, 86, 87, 0, 0, 0]), (1, 0, 7, []), (1, 0, 5711, []), (1, 0, 11422, []), (1, 2, 2, []), (1, 0, 333, []), (1, 1, 122, []), (1, 1, 400, []), (1, 0, 5, []), (1, 0, 401, []), (1, 0, 401, []), (1, 0, 401, []), (1, 0, 9, []), (1, 0, 608, []), (1, 0, 608, []), (1, 2, 100, []), (1, 1, 11264, []), (1, 0, 6, []), (1, 0, 6, []), (1, 0, 6, []), (1, 0, 6, []), (1, 0, 6, []), (1, 0, 7, []), (1, 0, 7, []), (2, 3, 2, []), (1, 0, 6, []), (1, 0, 10, []), (1, 0, 10, [])]
def Sh (z : Mem) : Prop := ∀ a, a < 86 → okCl (dsc.getD a (9, 9, 9, [])) (z.2.2 a) = true
theorem li_2 : (2 : Int32) = wI 2 := rfl
theorem li_3 : (3 : Int32) = wI 3 := rfl
theorem li_4 : (4 : Int32) = wI 4 := rfl
theorem li_5 : (5 : Int32) = wI 5 := rfl
theorem li_6 : (6 : Int32) = wI 6 := rfl
theorem li_7 : (7 : Int32) = wI 7 := rfl
theorem li_8 : (8 : Int32) = wI 8 := rfl
theorem li_9 : (9 : Int32) = wI 9 := rfl
theorem li_10 : (10 : Int32) = wI 10 := rfl
theorem li_11 : (11 : Int32) = wI 11 := rfl
theorem li_12 : (12 : Int32) = wI 12 := rfl
theorem li_13 : (13 : Int32) = wI 13 := rfl
theorem li_14 : (14 : Int32) = wI 14 := rfl
theorem li_15 : (15 : Int32) = wI 15 := rfl
theorem li_16 : (16 : Int32) = wI 16 := rfl
theorem li_17 : (17 : Int32) = wI 17 := rfl
theorem li_18 : (18 : Int32) = wI 18 := rfl
theorem li_19 : (19 : Int32) = wI 19 := rfl
theorem li_20 : (20 : Int32) = wI 20 := rfl
theorem li_21 : (21 : Int32) = wI 21 := rfl
theorem li_22 : (22 : Int32) = wI 22 := rfl
theorem li_23 : (23 : Int32) = wI 23 := rfl
theorem li_24 : (24 : Int32) = wI 24 := rfl
theorem li_25 : (25 : Int32) = wI 25 := rfl
theorem li_26 : (26 : Int32) = wI 26 := rfl
theorem li_27 : (27 : Int32) = wI 27 := rfl
theorem li_28 : (28 : Int32) = wI 28 := rfl
theorem li_29 : (29 : Int32) = wI 29 := rfl
theorem li_30 : (30 : Int32) = wI 30 := rfl
theorem li_31 : (31 : Int32) = wI 31 := rfl
theorem li_32 : (32 : Int32) = wI 32 := rfl
theorem li_33 : (33 : Int32) = wI 33 := rfl
theorem li_34 : (34 : Int32) = wI 34 := rfl
theorem li_35 : (35 : Int32) = wI 35 := rfl
theorem li_36 : (36 : Int32) = wI 36 := rfl
theorem li_37 : (37 : Int32) = wI 37 := rfl
theorem li_38 : (38 : Int32) = wI 38 := rfl
theorem li_39 : (39 : Int32) = wI 39 := rfl
theorem li_40 : (40 : Int32) = wI 40 := rfl
theorem li_41 : (41 : Int32) = wI 41 := rfl
theorem li_42 : (42 : Int32) = wI 42 := rfl
theorem li_43 : (43 : Int32) = wI 43 := rfl
theorem li_44 : (44 : Int32) = wI 44 := rfl
theorem li_45 : (45 : Int32) = wI 45 := rfl
theorem li_46 : (46 : Int32) = wI 46 := rfl
theorem li_47 : (47 : Int32) = wI 47 := rfl
theorem li_48 : (48 : Int32) = wI 48 := rfl
theorem li_49 : (49 : Int32) = wI 49 := rfl
theorem li_50 : (50 : Int32) = wI 50 := rfl
theorem li_51 : (51 : Int32) = wI 51 := rfl
theorem li_52 : (52 : Int32) = wI 52 := rfl
theorem li_53 : (53 : Int32) = wI 53 := rfl
theorem li_54 : (54 : Int32) = wI 54 := rfl
theorem li_55 : (55 : Int32) = wI 55 := rfl
theorem li_56 : (56 : Int32) = wI 56 := rfl
theorem li_57 : (57 : Int32) = wI 57 := rfl
theorem li_58 : (58 : Int32) = wI 58 := rfl
theorem li_59 : (59 : Int32) = wI 59 := rfl
theorem li_60 : (60 : Int32) = wI 60 := rfl
theorem li_61 : (61 : Int32) = wI 61 := rfl
theorem li_62 : (62 : Int32) = wI 62 := rfl
theorem li_63 : (63 : Int32) = wI 63 := rfl
theorem li_64 : (64 : Int32) = wI 64 := rfl
theorem li_65 : (65 : Int32) = wI 65 := rfl
theorem li_66 : (66 : Int32) = wI 66 := rfl
theorem li_67 : (67 : Int32) = wI 67 := rfl
theorem li_68 : (68 : Int32) = wI 68 := rfl
theorem li_69 : (69 : Int32) = wI 69 := rfl
theorem li_70 : (70 : Int32) = wI 70 := rfl
theorem li_71 : (71 : Int32) = wI 71 := rfl
theorem li_72 : (72 : Int32) = wI 72 := rfl
theorem li_73 : (73 : Int32) = wI 73 := rfl
theorem li_74 : (74 : Int32) = wI 74 := rfl
theorem li_75 : (75 : Int32) = wI 75 := rfl
theorem li_76 : (76 : Int32) = wI 76 := rfl
theorem li_77 : (77 : Int32) = wI 77 := rfl
theorem li_78 : (78 : Int32) = wI 78 := rfl
theorem li_79 : (79 : Int32) = wI 79 := rfl
theorem li_80 : (80 : Int32) = wI 80 := rfl
theorem li_81 : (81 : Int32) = wI 81 := rfl
theorem li_82 : (82 : Int32) = wI 82 := rfl
theorem li_83 : (83 : Int32) = wI 83 := rfl
theorem li_84 : (84 : Int32) = wI 84 := rfl
theorem li_85 : (85 : Int32) = wI 85 := rfl
theorem li_86 : (86 : Int32) = wI 86 := rfl
theorem li_87 : (87 : Int32) = wI 87 := rfl
theorem li_88 : (88 : Int32) = wI 88 := rfl
theorem li_89 : (89 : Int32) = wI 89 := rfl
theorem li_90 : (90 : Int32) = wI 90 := rfl
theorem li_91 : (91 : Int32) = wI 91 := rfl
theorem li_92 : (92 : Int32) = wI 92 := rfl
theorem li_93 : (93 : Int32) = wI 93 := rfl
theorem li_94 : (94 : Int32) = wI 94 := rfl
theorem li_95 : (95 : Int32) = wI 95 := rfl
theorem li_96 : (96 : Int32) = wI 96 := rfl
theorem li_97 : (97 : Int32) = wI 97 := rfl
theorem li_98 : (98 : Int32) = wI 98 := rfl
theorem li_99 : (99 : Int32) = wI 99 := rfl
theorem li_100 : (100 : Int32) = wI 100 := rfl
theorem li_101 : (101 : Int32) = wI 101 := rfl
theorem li_102 : (102 : Int32) = wI 102 := rfl
theorem li_103 : (103 : Int32) = wI 103 := rfl
theorem li_104 : (104 : Int32) = wI 104 := rfl
theorem li_105 : (105 : Int32) = wI 105 := rfl
theorem li_106 : (106 : Int32) = wI 106 := rfl
theorem li_107 : (107 : Int32) = wI 107 := rfl
theorem li_108 : (108 : Int32) = wI 108 := rfl
theorem li_109 : (109 : Int32) = wI 109 := rfl
theorem li_110 : (110 : Int32) = wI 110 := rfl
theorem li_111 : (111 : Int32) = wI 111 := rfl
theorem li_112 : (112 : Int32) = wI 112 := rfl
theorem li_113 : (113 : Int32) = wI 113 := rfl
theorem li_114 : (114 : Int32) = wI 114 := rfl
theorem li_115 : (115 : Int32) = wI 115 := rfl
theorem li_116 : (116 : Int32) = wI 116 := rfl
theorem li_117 : (117 : Int32) = wI 117 := rfl
theorem li_118 : (118 : Int32) = wI 118 := rfl
theorem li_119 : (119 : Int32) = wI 119 := rfl
theorem li_120 : (120 : Int32) = wI 120 := rfl
theorem li_121 : (121 : Int32) = wI 121 := rfl
theorem li_122 : (122 : Int32) = wI 122 := rfl
theorem li_255 : (255 : Int32) = wI 255 := rfl
theorem li_400 : (400 : Int32) = wI 400 := rfl
theorem li_608 : (608 : Int32) = wI 608 := rfl
theorem li_998 : (998 : Int32) = wI 998 := rfl
theorem li_999 : (999 : Int32) = wI 999 := rfl
theorem li_1000 : (1000 : Int32) = wI 1000 := rfl
theorem li_1024 : (1024 : Int32) = wI 1024 := rfl
theorem li_1103 : (1103 : Int32) = wI 1103 := rfl
theorem li_2400 : (2400 : Int32) = wI 2400 := rfl
theorem li_2911 : (2911 : Int32) = wI 2911 := rfl
theorem li_4095 : (4095 : Int32) = wI 4095 := rfl
theorem li_4096 : (4096 : Int32) = wI 4096 := rfl
theorem li_5711 : (5711 : Int32) = wI 5711 := rfl
theorem li_9999 : (9999 : Int32) = wI 9999 := rfl
theorem li_12345 : (12345 : Int32) = wI 12345 := rfl
theorem li_1000000 : (1000000 : Int32) = wI 1000000 := rfl
theorem li_1000003 : (1000003 : Int32) = wI 1000003 := rfl
theorem li_252645135 : (252645135 : Int32) = wI 252645135 := rfl
theorem li_858993459 : (858993459 : Int32) = wI 858993459 := rfl
theorem li_1431655765 : (1431655765 : Int32) = wI 1431655765 := rfl
theorem c_0 {z : Mem} (h : Sh z) (f : Nat → Nat → Int32) (A B : Option Rs) : (bif isC (mkM f z) 8 0 then A else B) = A := congrArg (fun b => cond b A B) (ok_isC (q := (0, 8, 0, [3, 16, 29, 1, 30, 32, 34, 0, 35, 40, 42, 47, 53, 0, 0, 0, 0, 0, 0, 59])) (h 0 (by decide)) rfl f)
theorem cc_0 {z : Mem} (h : Sh z) (f : Nat → Nat → Int32) : isC (mkM f z) 8 0 = true := ok_isC (q := (0, 8, 0, [3, 16, 29, 1, 30, 32, 34, 0, 35, 40, 42, 47, 53, 0, 0, 0, 0, 0, 0, 59])) (h 0 (by decide)) rfl f
theorem r_0_0 {z : Mem} (h : Sh z) (f : Nat → Nat → Int32) : gR (mkM f z) 8 0 0 = some 1 := ok_gR (q := (0, 8, 0, [3, 16, 29, 1, 30, 32, 34, 0, 35, 40, 42, 47, 53, 0, 0, 0, 0, 0, 0, 59])) (h 0 (by decide)) rfl f rfl
theorem r_0_1 {z : Mem} (h : Sh z) (f : Nat → Nat → Int32) : gR (mkM f z) 8 0 1 = some 14 := ok_gR (q := (0, 8, 0, [3, 16, 29, 1, 30, 32, 34, 0, 35, 40, 42, 47, 53, 0, 0, 0, 0, 0, 0, 59])) (h 0 (by decide)) rfl f rfl
theorem r_0_2 {z : Mem} (h : Sh z) (f : Nat → Nat → Int32) : gR (mkM f z) 8 0 2 = some 27 := ok_gR (q := (0, 8, 0, [3, 16, 29, 1, 30, 32, 34, 0, 35, 40, 42, 47, 53, 0, 0, 0, 0, 0, 0, 59])) (h 0 (by decide)) rfl f rfl
theorem v_0_3 {z : Mem} (h : Sh z) (f : Nat → Nat → Int32) : gR (mkM f z) 8 0 3 = rfo (f 0 3) := ok_gRv (q := (0, 8, 0, [3, 16, 29, 1, 30, 32, 34, 0, 35, 40, 42, 47, 53, 0, 0, 0, 0, 0, 0, 59])) (h 0 (by decide)) rfl f rfl
theorem w_0_3 {z : Mem} (h : Sh z) (f : Nat → Nat → Int32) : gQ (mkM f z) 8 0 3 = some (rfo (f 0 3)) := ok_gQ (q := (0, 8, 0, [3, 16, 29, 1, 30, 32, 34, 0, 35, 40, 42, 47, 53, 0, 0, 0, 0, 0, 0, 59])) (h 0 (by decide)) rfl f rfl
theorem p_0_3 {z : Mem} (h : Sh z) (f : Nat → Nat → Int32) {v : Nat} (hv : v ≠ 0) (hs : v < 2147483648) : pF (mkM f z) 8 0 3 (.ref v) = some (mkM (up f 0 (upd (f 0) 3 (wI v))) z) := ok_pR (q := (0, 8, 0, [3, 16, 29, 1, 30, 32, 34, 0, 35, 40, 42, 47, 53, 0, 0, 0, 0, 0, 0, 59])) (h 0 (by decide)) rfl f rfl hv hs
theorem r_0_4 {z : Mem} (h : Sh z) (f : Nat → Nat → Int32) : gR (mkM f z) 8 0 4 = some 28 := ok_gR (q := (0, 8, 0, [3, 16, 29, 1, 30, 32, 34, 0, 35, 40, 42, 47, 53, 0, 0, 0, 0, 0, 0, 59])) (h 0 (by decide)) rfl f rfl
theorem r_0_5 {z : Mem} (h : Sh z) (f : Nat → Nat → Int32) : gR (mkM f z) 8 0 5 = some 30 := ok_gR (q := (0, 8, 0, [3, 16, 29, 1, 30, 32, 34, 0, 35, 40, 42, 47, 53, 0, 0, 0, 0, 0, 0, 59])) (h 0 (by decide)) rfl f rfl
theorem r_0_6 {z : Mem} (h : Sh z) (f : Nat → Nat → Int32) : gR (mkM f z) 8 0 6 = some 32 := ok_gR (q := (0, 8, 0, [3, 16, 29, 1, 30, 32, 34, 0, 35, 40, 42, 47, 53, 0, 0, 0, 0, 0, 0, 59])) (h 0 (by decide)) rfl f rfl
theorem g_0_7 {z : Mem} (h : Sh z) (f : Nat → Nat → Int32) : gI (mkM f z) 8 0 7 = some (f 0 7) := ok_gI (q := (0, 8, 0, [3, 16, 29, 1, 30, 32, 34, 0, 35, 40, 42, 47, 53, 0, 0, 0, 0, 0, 0, 59])) (h 0 (by decide)) rfl f rfl
theorem p_0_7 {z : Mem} (h : Sh z) (f : Nat → Nat → Int32) (v : Int32) : pF (mkM f z) 8 0 7 (.int v) = some (mkM (up f 0 (upd (f 0) 7 v)) z) := ok_pF (q := (0, 8, 0, [3, 16, 29, 1, 30, 32, 34, 0, 35, 40, 42, 47, 53, 0, 0, 0, 0, 0, 0, 59])) (h 0 (by decide)) rfl f rfl v
theorem r_0_8 {z : Mem} (h : Sh z) (f : Nat → Nat → Int32) : gR (mkM f z) 8 0 8 = some 33 := ok_gR (q := (0, 8, 0, [3, 16, 29, 1, 30, 32, 34, 0, 35, 40, 42, 47, 53, 0, 0, 0, 0, 0, 0, 59])) (h 0 (by decide)) rfl f rfl
theorem r_0_9 {z : Mem} (h : Sh z) (f : Nat → Nat → Int32) : gR (mkM f z) 8 0 9 = some 38 := ok_gR (q := (0, 8, 0, [3, 16, 29, 1, 30, 32, 34, 0, 35, 40, 42, 47, 53, 0, 0, 0, 0, 0, 0, 59])) (h 0 (by decide)) rfl f rfl
theorem r_0_10 {z : Mem} (h : Sh z) (f : Nat → Nat → Int32) : gR (mkM f z) 8 0 10 = some 40 := ok_gR (q := (0, 8, 0, [3, 16, 29, 1, 30, 32, 34, 0, 35, 40, 42, 47, 53, 0, 0, 0, 0, 0, 0, 59])) (h 0 (by decide)) rfl f rfl
theorem r_0_11 {z : Mem} (h : Sh z) (f : Nat → Nat → Int32) : gR (mkM f z) 8 0 11 = some 45 := ok_gR (q := (0, 8, 0, [3, 16, 29, 1, 30, 32, 34, 0, 35, 40, 42, 47, 53, 0, 0, 0, 0, 0, 0, 59])) (h 0 (by decide)) rfl f rfl
theorem r_0_12 {z : Mem} (h : Sh z) (f : Nat → Nat → Int32) : gR (mkM f z) 8 0 12 = some 51 := ok_gR (q := (0, 8, 0, [3, 16, 29, 1, 30, 32, 34, 0, 35, 40, 42, 47, 53, 0, 0, 0, 0, 0, 0, 59])) (h 0 (by decide)) rfl f rfl
theorem g_0_13 {z : Mem} (h : Sh z) (f : Nat → Nat → Int32) : gI (mkM f z) 8 0 13 = some (f 0 13) := ok_gI (q := (0, 8, 0, [3, 16, 29, 1, 30, 32, 34, 0, 35, 40, 42, 47, 53, 0, 0, 0, 0, 0, 0, 59])) (h 0 (by decide)) rfl f rfl
theorem p_0_13 {z : Mem} (h : Sh z) (f : Nat → Nat → Int32) (v : Int32) : pF (mkM f z) 8 0 13 (.int v) = some (mkM (up f 0 (upd (f 0) 13 v)) z) := ok_pF (q := (0, 8, 0, [3, 16, 29, 1, 30, 32, 34, 0, 35, 40, 42, 47, 53, 0, 0, 0, 0, 0, 0, 59])) (h 0 (by decide)) rfl f rfl v
theorem g_0_14 {z : Mem} (h : Sh z) (f : Nat → Nat → Int32) : gI (mkM f z) 8 0 14 = some (f 0 14) := ok_gI (q := (0, 8, 0, [3, 16, 29, 1, 30, 32, 34, 0, 35, 40, 42, 47, 53, 0, 0, 0, 0, 0, 0, 59])) (h 0 (by decide)) rfl f rfl
theorem p_0_14 {z : Mem} (h : Sh z) (f : Nat → Nat → Int32) (v : Int32) : pF (mkM f z) 8 0 14 (.int v) = some (mkM (up f 0 (upd (f 0) 14 v)) z) := ok_pF (q := (0, 8, 0, [3, 16, 29, 1, 30, 32, 34, 0, 35, 40, 42, 47, 53, 0, 0, 0, 0, 0, 0, 59])) (h 0 (by decide)) rfl f rfl v
theorem g_0_15 {z : Mem} (h : Sh z) (f : Nat → Nat → Int32) : gI (mkM f z) 8 0 15 = some (f 0 15) := ok_gI (q := (0, 8, 0, [3, 16, 29, 1, 30, 32, 34, 0, 35, 40, 42, 47, 53, 0, 0, 0, 0, 0, 0, 59])) (h 0 (by decide)) rfl f rfl
theorem p_0_15 {z : Mem} (h : Sh z) (f : Nat → Nat → Int32) (v : Int32) : pF (mkM f z) 8 0 15 (.int v) = some (mkM (up f 0 (upd (f 0) 15 v)) z) := ok_pF (q := (0, 8, 0, [3, 16, 29, 1, 30, 32, 34, 0, 35, 40, 42, 47, 53, 0, 0, 0, 0, 0, 0, 59])) (h 0 (by decide)) rfl f rfl v
theorem g_0_16 {z : Mem} (h : Sh z) (f : Nat → Nat → Int32) : gI (mkM f z) 8 0 16 = some (f 0 16) := ok_gI (q := (0, 8, 0, [3, 16, 29, 1, 30, 32, 34, 0, 35, 40, 42, 47, 53, 0, 0, 0, 0, 0, 0, 59])) (h 0 (by decide)) rfl f rfl
theorem p_0_16 {z : Mem} (h : Sh z) (f : Nat → Nat → Int32) (v : Int32) : pF (mkM f z) 8 0 16 (.int v) = some (mkM (up f 0 (upd (f 0) 16 v)) z) := ok_pF (q := (0, 8, 0, [3, 16, 29, 1, 30, 32, 34, 0, 35, 40, 42, 47, 53, 0, 0, 0, 0, 0, 0, 59])) (h 0 (by decide)) rfl f rfl v
theorem g_0_17 {z : Mem} (h : Sh z) (f : Nat → Nat → Int32) : gI (mkM f z) 8 0 17 = some (f 0 17) := ok_gI (q := (0, 8, 0, [3, 16, 29, 1, 30, 32, 34, 0, 35, 40, 42, 47, 53, 0, 0, 0, 0, 0, 0, 59])) (h 0 (by decide)) rfl f rfl
theorem p_0_17 {z : Mem} (h : Sh z) (f : Nat → Nat → Int32) (v : Int32) : pF (mkM f z) 8 0 17 (.int v) = some (mkM (up f 0 (upd (f 0) 17 v)) z) := ok_pF (q := (0, 8, 0, [3, 16, 29, 1, 30, 32, 34, 0, 35, 40, 42, 47, 53, 0, 0, 0, 0, 0, 0, 59])) (h 0 (by decide)) rfl f rfl v
theorem g_0_18 {z : Mem} (h : Sh z) (f : Nat → Nat → Int32) : gI (mkM f z) 8 0 18 = some (f 0 18) := ok_gI (q := (0, 8, 0, [3, 16, 29, 1, 30, 32, 34, 0, 35, 40, 42, 47, 53, 0, 0, 0, 0, 0, 0, 59])) (h 0 (by decide)) rfl f rfl
theorem p_0_18 {z : Mem} (h : Sh z) (f : Nat → Nat → Int32) (v : Int32) : pF (mkM f z) 8 0 18 (.int v) = some (mkM (up f 0 (upd (f 0) 18 v)) z) := ok_pF (q := (0, 8, 0, [3, 16, 29, 1, 30, 32, 34, 0, 35, 40, 42, 47, 53, 0, 0, 0, 0, 0, 0, 59])) (h 0 (by decide)) rfl f rfl v
theorem r_0_19 {z : Mem} (h : Sh z) (f : Nat → Nat → Int32) : gR (mkM f z) 8 0 19 = some 57 := ok_gR (q := (0, 8, 0, [3, 16, 29, 1, 30, 32, 34, 0, 35, 40, 42, 47, 53, 0, 0, 0, 0, 0, 0, 59])) (h 0 (by decide)) rfl f rfl
theorem c_1 {z : Mem} (h : Sh z) (f : Nat → Nat → Int32) (A B : Option Rs) : (bif isC (mkM f z) 1 1 then A else B) = A := congrArg (fun b => cond b A B) (ok_isC (q := (0, 1, 0, [0, 4, 0, 5, 6, 7, 8, 9, 10, 11, 0, 12, 13, 14, 0, 15, 0])) (h 1 (by decide)) rfl f)
theorem cc_1 {z : Mem} (h : Sh z) (f : Nat → Nat → Int32) : isC (mkM f z) 1 1 = true := ok_isC (q := (0, 1, 0, [0, 4, 0, 5, 6, 7, 8, 9, 10, 11, 0, 12, 13, 14, 0, 15, 0])) (h 1 (by decide)) rfl f
theorem g_1_0 {z : Mem} (h : Sh z) (f : Nat → Nat → Int32) : gI (mkM f z) 1 1 0 = some (f 1 0) := ok_gI (q := (0, 1, 0, [0, 4, 0, 5, 6, 7, 8, 9, 10, 11, 0, 12, 13, 14, 0, 15, 0])) (h 1 (by decide)) rfl f rfl
theorem p_1_0 {z : Mem} (h : Sh z) (f : Nat → Nat → Int32) (v : Int32) : pF (mkM f z) 1 1 0 (.int v) = some (mkM (up f 1 (upd (f 1) 0 v)) z) := ok_pF (q := (0, 1, 0, [0, 4, 0, 5, 6, 7, 8, 9, 10, 11, 0, 12, 13, 14, 0, 15, 0])) (h 1 (by decide)) rfl f rfl v
theorem r_1_1 {z : Mem} (h : Sh z) (f : Nat → Nat → Int32) : gR (mkM f z) 1 1 1 = some 2 := ok_gR (q := (0, 1, 0, [0, 4, 0, 5, 6, 7, 8, 9, 10, 11, 0, 12, 13, 14, 0, 15, 0])) (h 1 (by decide)) rfl f rfl
theorem g_1_2 {z : Mem} (h : Sh z) (f : Nat → Nat → Int32) : gI (mkM f z) 1 1 2 = some (f 1 2) := ok_gI (q := (0, 1, 0, [0, 4, 0, 5, 6, 7, 8, 9, 10, 11, 0, 12, 13, 14, 0, 15, 0])) (h 1 (by decide)) rfl f rfl
theorem p_1_2 {z : Mem} (h : Sh z) (f : Nat → Nat → Int32) (v : Int32) : pF (mkM f z) 1 1 2 (.int v) = some (mkM (up f 1 (upd (f 1) 2 v)) z) := ok_pF (q := (0, 1, 0, [0, 4, 0, 5, 6, 7, 8, 9, 10, 11, 0, 12, 13, 14, 0, 15, 0])) (h 1 (by decide)) rfl f rfl v
theorem r_1_3 {z : Mem} (h : Sh z) (f : Nat → Nat → Int32) : gR (mkM f z) 1 1 3 = some 3 := ok_gR (q := (0, 1, 0, [0, 4, 0, 5, 6, 7, 8, 9, 10, 11, 0, 12, 13, 14, 0, 15, 0])) (h 1 (by decide)) rfl f rfl
theorem r_1_4 {z : Mem} (h : Sh z) (f : Nat → Nat → Int32) : gR (mkM f z) 1 1 4 = some 4 := ok_gR (q := (0, 1, 0, [0, 4, 0, 5, 6, 7, 8, 9, 10, 11, 0, 12, 13, 14, 0, 15, 0])) (h 1 (by decide)) rfl f rfl
theorem r_1_5 {z : Mem} (h : Sh z) (f : Nat → Nat → Int32) : gR (mkM f z) 1 1 5 = some 5 := ok_gR (q := (0, 1, 0, [0, 4, 0, 5, 6, 7, 8, 9, 10, 11, 0, 12, 13, 14, 0, 15, 0])) (h 1 (by decide)) rfl f rfl
theorem r_1_6 {z : Mem} (h : Sh z) (f : Nat → Nat → Int32) : gR (mkM f z) 1 1 6 = some 6 := ok_gR (q := (0, 1, 0, [0, 4, 0, 5, 6, 7, 8, 9, 10, 11, 0, 12, 13, 14, 0, 15, 0])) (h 1 (by decide)) rfl f rfl
theorem r_1_7 {z : Mem} (h : Sh z) (f : Nat → Nat → Int32) : gR (mkM f z) 1 1 7 = some 7 := ok_gR (q := (0, 1, 0, [0, 4, 0, 5, 6, 7, 8, 9, 10, 11, 0, 12, 13, 14, 0, 15, 0])) (h 1 (by decide)) rfl f rfl
theorem r_1_8 {z : Mem} (h : Sh z) (f : Nat → Nat → Int32) : gR (mkM f z) 1 1 8 = some 8 := ok_gR (q := (0, 1, 0, [0, 4, 0, 5, 6, 7, 8, 9, 10, 11, 0, 12, 13, 14, 0, 15, 0])) (h 1 (by decide)) rfl f rfl
theorem r_1_9 {z : Mem} (h : Sh z) (f : Nat → Nat → Int32) : gR (mkM f z) 1 1 9 = some 9 := ok_gR (q := (0, 1, 0, [0, 4, 0, 5, 6, 7, 8, 9, 10, 11, 0, 12, 13, 14, 0, 15, 0])) (h 1 (by decide)) rfl f rfl
theorem g_1_10 {z : Mem} (h : Sh z) (f : Nat → Nat → Int32) : gI (mkM f z) 1 1 10 = some (f 1 10) := ok_gI (q := (0, 1, 0, [0, 4, 0, 5, 6, 7, 8, 9, 10, 11, 0, 12, 13, 14, 0, 15, 0])) (h 1 (by decide)) rfl f rfl
theorem p_1_10 {z : Mem} (h : Sh z) (f : Nat → Nat → Int32) (v : Int32) : pF (mkM f z) 1 1 10 (.int v) = some (mkM (up f 1 (upd (f 1) 10 v)) z) := ok_pF (q := (0, 1, 0, [0, 4, 0, 5, 6, 7, 8, 9, 10, 11, 0, 12, 13, 14, 0, 15, 0])) (h 1 (by decide)) rfl f rfl v
theorem r_1_11 {z : Mem} (h : Sh z) (f : Nat → Nat → Int32) : gR (mkM f z) 1 1 11 = some 10 := ok_gR (q := (0, 1, 0, [0, 4, 0, 5, 6, 7, 8, 9, 10, 11, 0, 12, 13, 14, 0, 15, 0])) (h 1 (by decide)) rfl f rfl
theorem r_1_12 {z : Mem} (h : Sh z) (f : Nat → Nat → Int32) : gR (mkM f z) 1 1 12 = some 11 := ok_gR (q := (0, 1, 0, [0, 4, 0, 5, 6, 7, 8, 9, 10, 11, 0, 12, 13, 14, 0, 15, 0])) (h 1 (by decide)) rfl f rfl
theorem r_1_13 {z : Mem} (h : Sh z) (f : Nat → Nat → Int32) : gR (mkM f z) 1 1 13 = some 12 := ok_gR (q := (0, 1, 0, [0, 4, 0, 5, 6, 7, 8, 9, 10, 11, 0, 12, 13, 14, 0, 15, 0])) (h 1 (by decide)) rfl f rfl
theorem g_1_14 {z : Mem} (h : Sh z) (f : Nat → Nat → Int32) : gI (mkM f z) 1 1 14 = some (f 1 14) := ok_gI (q := (0, 1, 0, [0, 4, 0, 5, 6, 7, 8, 9, 10, 11, 0, 12, 13, 14, 0, 15, 0])) (h 1 (by decide)) rfl f rfl
theorem p_1_14 {z : Mem} (h : Sh z) (f : Nat → Nat → Int32) (v : Int32) : pF (mkM f z) 1 1 14 (.int v) = some (mkM (up f 1 (upd (f 1) 14 v)) z) := ok_pF (q := (0, 1, 0, [0, 4, 0, 5, 6, 7, 8, 9, 10, 11, 0, 12, 13, 14, 0, 15, 0])) (h 1 (by decide)) rfl f rfl v
theorem r_1_15 {z : Mem} (h : Sh z) (f : Nat → Nat → Int32) : gR (mkM f z) 1 1 15 = some 13 := ok_gR (q := (0, 1, 0, [0, 4, 0, 5, 6, 7, 8, 9, 10, 11, 0, 12, 13, 14, 0, 15, 0])) (h 1 (by decide)) rfl f rfl
theorem g_1_16 {z : Mem} (h : Sh z) (f : Nat → Nat → Int32) : gI (mkM f z) 1 1 16 = some (f 1 16) := ok_gI (q := (0, 1, 0, [0, 4, 0, 5, 6, 7, 8, 9, 10, 11, 0, 12, 13, 14, 0, 15, 0])) (h 1 (by decide)) rfl f rfl
theorem p_1_16 {z : Mem} (h : Sh z) (f : Nat → Nat → Int32) (v : Int32) : pF (mkM f z) 1 1 16 (.int v) = some (mkM (up f 1 (upd (f 1) 16 v)) z) := ok_pF (q := (0, 1, 0, [0, 4, 0, 5, 6, 7, 8, 9, 10, 11, 0, 12, 13, 14, 0, 15, 0])) (h 1 (by decide)) rfl f rfl v
theorem l_2 {z : Mem} (h : Sh z) (f : Nat → Nat → Int32) {k : Nat} (hk : k < 6) : lI (mkM f z) 2 (wI k) = some (f 2 k) := ok_lI (q := (1, 0, 6, [])) (h 2 (by decide)) rfl rfl f hk (by decide)
theorem s_2 {z : Mem} (h : Sh z) (f : Nat → Nat → Int32) {k : Nat} (v : Int32) (hk : k < 6) : sI (mkM f z) 2 (wI k) v = some (mkM (up f 2 (upd (f 2) k v)) z) := ok_sI (q := (1, 0, 6, [])) (h 2 (by decide)) rfl rfl f v hk (by decide)
theorem n_2 {z : Mem} (h : Sh z) (f : Nat → Nat → Int32) : aln (mkM f z) 2 = some (wI 6) := ok_aln (q := (1, 0, 6, [])) (h 2 (by decide)) rfl (show (0 : Nat) < 7 by decide) f
theorem l_3 {z : Mem} (h : Sh z) (f : Nat → Nat → Int32) {k : Nat} (hk : k < 10) : lI (mkM f z) 3 (wI k) = some (f 3 k) := ok_lI (q := (1, 0, 10, [])) (h 3 (by decide)) rfl rfl f hk (by decide)
theorem s_3 {z : Mem} (h : Sh z) (f : Nat → Nat → Int32) {k : Nat} (v : Int32) (hk : k < 10) : sI (mkM f z) 3 (wI k) v = some (mkM (up f 3 (upd (f 3) k v)) z) := ok_sI (q := (1, 0, 10, [])) (h 3 (by decide)) rfl rfl f v hk (by decide)
theorem n_3 {z : Mem} (h : Sh z) (f : Nat → Nat → Int32) : aln (mkM f z) 3 = some (wI 10) := ok_aln (q := (1, 0, 10, [])) (h 3 (by decide)) rfl (show (0 : Nat) < 7 by decide) f
theorem l_4 {z : Mem} (h : Sh z) (f : Nat → Nat → Int32) {k : Nat} (hk : k < 10) : lI (mkM f z) 4 (wI k) = some (f 4 k) := ok_lI (q := (1, 0, 10, [])) (h 4 (by decide)) rfl rfl f hk (by decide)
theorem s_4 {z : Mem} (h : Sh z) (f : Nat → Nat → Int32) {k : Nat} (v : Int32) (hk : k < 10) : sI (mkM f z) 4 (wI k) v = some (mkM (up f 4 (upd (f 4) k v)) z) := ok_sI (q := (1, 0, 10, [])) (h 4 (by decide)) rfl rfl f v hk (by decide)
theorem n_4 {z : Mem} (h : Sh z) (f : Nat → Nat → Int32) : aln (mkM f z) 4 = some (wI 10) := ok_aln (q := (1, 0, 10, [])) (h 4 (by decide)) rfl (show (0 : Nat) < 7 by decide) f
theorem l_5 {z : Mem} (h : Sh z) (f : Nat → Nat → Int32) {k : Nat} (hk : k < 10) : lI (mkM f z) 5 (wI k) = some (f 5 k) := ok_lI (q := (1, 0, 10, [])) (h 5 (by decide)) rfl rfl f hk (by decide)
theorem s_5 {z : Mem} (h : Sh z) (f : Nat → Nat → Int32) {k : Nat} (v : Int32) (hk : k < 10) : sI (mkM f z) 5 (wI k) v = some (mkM (up f 5 (upd (f 5) k v)) z) := ok_sI (q := (1, 0, 10, [])) (h 5 (by decide)) rfl rfl f v hk (by decide)
theorem n_5 {z : Mem} (h : Sh z) (f : Nat → Nat → Int32) : aln (mkM f z) 5 = some (wI 10) := ok_aln (q := (1, 0, 10, [])) (h 5 (by decide)) rfl (show (0 : Nat) < 7 by decide) f
theorem l_6 {z : Mem} (h : Sh z) (f : Nat → Nat → Int32) {k : Nat} (hk : k < 10) : lI (mkM f z) 6 (wI k) = some (f 6 k) := ok_lI (q := (1, 0, 10, [])) (h 6 (by decide)) rfl rfl f hk (by decide)
theorem s_6 {z : Mem} (h : Sh z) (f : Nat → Nat → Int32) {k : Nat} (v : Int32) (hk : k < 10) : sI (mkM f z) 6 (wI k) v = some (mkM (up f 6 (upd (f 6) k v)) z) := ok_sI (q := (1, 0, 10, [])) (h 6 (by decide)) rfl rfl f v hk (by decide)
theorem n_6 {z : Mem} (h : Sh z) (f : Nat → Nat → Int32) : aln (mkM f z) 6 = some (wI 10) := ok_aln (q := (1, 0, 10, [])) (h 6 (by decide)) rfl (show (0 : Nat) < 7 by decide) f
theorem l_7 {z : Mem} (h : Sh z) (f : Nat → Nat → Int32) {k : Nat} (hk : k < 10) : lI (mkM f z) 7 (wI k) = some (f 7 k) := ok_lI (q := (1, 0, 10, [])) (h 7 (by decide)) rfl rfl f hk (by decide)
theorem s_7 {z : Mem} (h : Sh z) (f : Nat → Nat → Int32) {k : Nat} (v : Int32) (hk : k < 10) : sI (mkM f z) 7 (wI k) v = some (mkM (up f 7 (upd (f 7) k v)) z) := ok_sI (q := (1, 0, 10, [])) (h 7 (by decide)) rfl rfl f v hk (by decide)
theorem n_7 {z : Mem} (h : Sh z) (f : Nat → Nat → Int32) : aln (mkM f z) 7 = some (wI 10) := ok_aln (q := (1, 0, 10, [])) (h 7 (by decide)) rfl (show (0 : Nat) < 7 by decide) f
theorem l_8 {z : Mem} (h : Sh z) (f : Nat → Nat → Int32) {k : Nat} (hk : k < 10) : lI (mkM f z) 8 (wI k) = some (f 8 k) := ok_lI (q := (1, 0, 10, [])) (h 8 (by decide)) rfl rfl f hk (by decide)
theorem s_8 {z : Mem} (h : Sh z) (f : Nat → Nat → Int32) {k : Nat} (v : Int32) (hk : k < 10) : sI (mkM f z) 8 (wI k) v = some (mkM (up f 8 (upd (f 8) k v)) z) := ok_sI (q := (1, 0, 10, [])) (h 8 (by decide)) rfl rfl f v hk (by decide)
theorem n_8 {z : Mem} (h : Sh z) (f : Nat → Nat → Int32) : aln (mkM f z) 8 = some (wI 10) := ok_aln (q := (1, 0, 10, [])) (h 8 (by decide)) rfl (show (0 : Nat) < 7 by decide) f
theorem l_9 {z : Mem} (h : Sh z) (f : Nat → Nat → Int32) {k : Nat} (hk : k < 10) : lI (mkM f z) 9 (wI k) = some (f 9 k) := ok_lI (q := (1, 0, 10, [])) (h 9 (by decide)) rfl rfl f hk (by decide)
theorem s_9 {z : Mem} (h : Sh z) (f : Nat → Nat → Int32) {k : Nat} (v : Int32) (hk : k < 10) : sI (mkM f z) 9 (wI k) v = some (mkM (up f 9 (upd (f 9) k v)) z) := ok_sI (q := (1, 0, 10, [])) (h 9 (by decide)) rfl rfl f v hk (by decide)
theorem n_9 {z : Mem} (h : Sh z) (f : Nat → Nat → Int32) : aln (mkM f z) 9 = some (wI 10) := ok_aln (q := (1, 0, 10, [])) (h 9 (by decide)) rfl (show (0 : Nat) < 7 by decide) f
theorem l_10 {z : Mem} (h : Sh z) (f : Nat → Nat → Int32) {k : Nat} (hk : k < 10) : lI (mkM f z) 10 (wI k) = some (f 10 k) := ok_lI (q := (1, 0, 10, [])) (h 10 (by decide)) rfl rfl f hk (by decide)
theorem s_10 {z : Mem} (h : Sh z) (f : Nat → Nat → Int32) {k : Nat} (v : Int32) (hk : k < 10) : sI (mkM f z) 10 (wI k) v = some (mkM (up f 10 (upd (f 10) k v)) z) := ok_sI (q := (1, 0, 10, [])) (h 10 (by decide)) rfl rfl f v hk (by decide)
theorem n_10 {z : Mem} (h : Sh z) (f : Nat → Nat → Int32) : aln (mkM f z) 10 = some (wI 10) := ok_aln (q := (1, 0, 10, [])) (h 10 (by decide)) rfl (show (0 : Nat) < 7 by decide) f
theorem l_11 {z : Mem} (h : Sh z) (f : Nat → Nat → Int32) {k : Nat} (hk : k < 10) : lI (mkM f z) 11 (wI k) = some (f 11 k) := ok_lI (q := (1, 0, 10, [])) (h 11 (by decide)) rfl rfl f hk (by decide)
theorem s_11 {z : Mem} (h : Sh z) (f : Nat → Nat → Int32) {k : Nat} (v : Int32) (hk : k < 10) : sI (mkM f z) 11 (wI k) v = some (mkM (up f 11 (upd (f 11) k v)) z) := ok_sI (q := (1, 0, 10, [])) (h 11 (by decide)) rfl rfl f v hk (by decide)
theorem n_11 {z : Mem} (h : Sh z) (f : Nat → Nat → Int32) : aln (mkM f z) 11 = some (wI 10) := ok_aln (q := (1, 0, 10, [])) (h 11 (by decide)) rfl (show (0 : Nat) < 7 by decide) f
theorem l_12 {z : Mem} (h : Sh z) (f : Nat → Nat → Int32) {k : Nat} (hk : k < 3) : lI (mkM f z) 12 (wI k) = some (f 12 k) := ok_lI (q := (1, 0, 3, [])) (h 12 (by decide)) rfl rfl f hk (by decide)
theorem s_12 {z : Mem} (h : Sh z) (f : Nat → Nat → Int32) {k : Nat} (v : Int32) (hk : k < 3) : sI (mkM f z) 12 (wI k) v = some (mkM (up f 12 (upd (f 12) k v)) z) := ok_sI (q := (1, 0, 3, [])) (h 12 (by decide)) rfl rfl f v hk (by decide)
theorem n_12 {z : Mem} (h : Sh z) (f : Nat → Nat → Int32) : aln (mkM f z) 12 = some (wI 3) := ok_aln (q := (1, 0, 3, [])) (h 12 (by decide)) rfl (show (0 : Nat) < 7 by decide) f
theorem l_13 {z : Mem} (h : Sh z) (f : Nat → Nat → Int32) {k : Nat} (hk : k < 6) : lQ (mkM f z) 13 (wI k) = some (rfo (f 13 k)) := ok_lQ (q := (3, 4, 6, [])) (h 13 (by decide)) rfl (by decide) f hk (by decide)
theorem s_13 {z : Mem} (h : Sh z) (f : Nat → Nat → Int32) {k : Nat} {x : Option Nat} {v : Int32} (hv : rfo v = x) (hx : ∀ y, x = some y → isC (mkM f z) 5 y = true) (hk : k < 6) : sQ (mkM f z) 13 (wI k) x = some (mkM (up f 13 (upd (f 13) k v)) z) := ok_sQ (q := (3, 4, 6, [])) (h 13 (by decide)) rfl (by decide) f hv hx hk (by decide)
theorem c_14 {z : Mem} (h : Sh z) (f : Nat → Nat → Int32) (A B : Option Rs) : (bif isC (mkM f z) 1 14 then A else B) = A := congrArg (fun b => cond b A B) (ok_isC (q := (0, 1, 0, [0, 17, 0, 18, 19, 20, 21, 22, 23, 24, 0, 25, 26, 27, 0, 28, 0])) (h 14 (by decide)) rfl f)
theorem cc_14 {z : Mem} (h : Sh z) (f : Nat → Nat → Int32) : isC (mkM f z) 1 14 = true := ok_isC (q := (0, 1, 0, [0, 17, 0, 18, 19, 20, 21, 22, 23, 24, 0, 25, 26, 27, 0, 28, 0])) (h 14 (by decide)) rfl f
theorem g_14_0 {z : Mem} (h : Sh z) (f : Nat → Nat → Int32) : gI (mkM f z) 1 14 0 = some (f 14 0) := ok_gI (q := (0, 1, 0, [0, 17, 0, 18, 19, 20, 21, 22, 23, 24, 0, 25, 26, 27, 0, 28, 0])) (h 14 (by decide)) rfl f rfl
theorem p_14_0 {z : Mem} (h : Sh z) (f : Nat → Nat → Int32) (v : Int32) : pF (mkM f z) 1 14 0 (.int v) = some (mkM (up f 14 (upd (f 14) 0 v)) z) := ok_pF (q := (0, 1, 0, [0, 17, 0, 18, 19, 20, 21, 22, 23, 24, 0, 25, 26, 27, 0, 28, 0])) (h 14 (by decide)) rfl f rfl v
theorem r_14_1 {z : Mem} (h : Sh z) (f : Nat → Nat → Int32) : gR (mkM f z) 1 14 1 = some 15 := ok_gR (q := (0, 1, 0, [0, 17, 0, 18, 19, 20, 21, 22, 23, 24, 0, 25, 26, 27, 0, 28, 0])) (h 14 (by decide)) rfl f rfl
theorem g_14_2 {z : Mem} (h : Sh z) (f : Nat → Nat → Int32) : gI (mkM f z) 1 14 2 = some (f 14 2) := ok_gI (q := (0, 1, 0, [0, 17, 0, 18, 19, 20, 21, 22, 23, 24, 0, 25, 26, 27, 0, 28, 0])) (h 14 (by decide)) rfl f rfl
theorem p_14_2 {z : Mem} (h : Sh z) (f : Nat → Nat → Int32) (v : Int32) : pF (mkM f z) 1 14 2 (.int v) = some (mkM (up f 14 (upd (f 14) 2 v)) z) := ok_pF (q := (0, 1, 0, [0, 17, 0, 18, 19, 20, 21, 22, 23, 24, 0, 25, 26, 27, 0, 28, 0])) (h 14 (by decide)) rfl f rfl v
theorem r_14_3 {z : Mem} (h : Sh z) (f : Nat → Nat → Int32) : gR (mkM f z) 1 14 3 = some 16 := ok_gR (q := (0, 1, 0, [0, 17, 0, 18, 19, 20, 21, 22, 23, 24, 0, 25, 26, 27, 0, 28, 0])) (h 14 (by decide)) rfl f rfl
theorem r_14_4 {z : Mem} (h : Sh z) (f : Nat → Nat → Int32) : gR (mkM f z) 1 14 4 = some 17 := ok_gR (q := (0, 1, 0, [0, 17, 0, 18, 19, 20, 21, 22, 23, 24, 0, 25, 26, 27, 0, 28, 0])) (h 14 (by decide)) rfl f rfl
theorem r_14_5 {z : Mem} (h : Sh z) (f : Nat → Nat → Int32) : gR (mkM f z) 1 14 5 = some 18 := ok_gR (q := (0, 1, 0, [0, 17, 0, 18, 19, 20, 21, 22, 23, 24, 0, 25, 26, 27, 0, 28, 0])) (h 14 (by decide)) rfl f rfl
theorem r_14_6 {z : Mem} (h : Sh z) (f : Nat → Nat → Int32) : gR (mkM f z) 1 14 6 = some 19 := ok_gR (q := (0, 1, 0, [0, 17, 0, 18, 19, 20, 21, 22, 23, 24, 0, 25, 26, 27, 0, 28, 0])) (h 14 (by decide)) rfl f rfl
theorem r_14_7 {z : Mem} (h : Sh z) (f : Nat → Nat → Int32) : gR (mkM f z) 1 14 7 = some 20 := ok_gR (q := (0, 1, 0, [0, 17, 0, 18, 19, 20, 21, 22, 23, 24, 0, 25, 26, 27, 0, 28, 0])) (h 14 (by decide)) rfl f rfl
theorem r_14_8 {z : Mem} (h : Sh z) (f : Nat → Nat → Int32) : gR (mkM f z) 1 14 8 = some 21 := ok_gR (q := (0, 1, 0, [0, 17, 0, 18, 19, 20, 21, 22, 23, 24, 0, 25, 26, 27, 0, 28, 0])) (h 14 (by decide)) rfl f rfl
theorem r_14_9 {z : Mem} (h : Sh z) (f : Nat → Nat → Int32) : gR (mkM f z) 1 14 9 = some 22 := ok_gR (q := (0, 1, 0, [0, 17, 0, 18, 19, 20, 21, 22, 23, 24, 0, 25, 26, 27, 0, 28, 0])) (h 14 (by decide)) rfl f rfl
theorem g_14_10 {z : Mem} (h : Sh z) (f : Nat → Nat → Int32) : gI (mkM f z) 1 14 10 = some (f 14 10) := ok_gI (q := (0, 1, 0, [0, 17, 0, 18, 19, 20, 21, 22, 23, 24, 0, 25, 26, 27, 0, 28, 0])) (h 14 (by decide)) rfl f rfl
theorem p_14_10 {z : Mem} (h : Sh z) (f : Nat → Nat → Int32) (v : Int32) : pF (mkM f z) 1 14 10 (.int v) = some (mkM (up f 14 (upd (f 14) 10 v)) z) := ok_pF (q := (0, 1, 0, [0, 17, 0, 18, 19, 20, 21, 22, 23, 24, 0, 25, 26, 27, 0, 28, 0])) (h 14 (by decide)) rfl f rfl v
theorem r_14_11 {z : Mem} (h : Sh z) (f : Nat → Nat → Int32) : gR (mkM f z) 1 14 11 = some 23 := ok_gR (q := (0, 1, 0, [0, 17, 0, 18, 19, 20, 21, 22, 23, 24, 0, 25, 26, 27, 0, 28, 0])) (h 14 (by decide)) rfl f rfl
theorem r_14_12 {z : Mem} (h : Sh z) (f : Nat → Nat → Int32) : gR (mkM f z) 1 14 12 = some 24 := ok_gR (q := (0, 1, 0, [0, 17, 0, 18, 19, 20, 21, 22, 23, 24, 0, 25, 26, 27, 0, 28, 0])) (h 14 (by decide)) rfl f rfl
theorem r_14_13 {z : Mem} (h : Sh z) (f : Nat → Nat → Int32) : gR (mkM f z) 1 14 13 = some 25 := ok_gR (q := (0, 1, 0, [0, 17, 0, 18, 19, 20, 21, 22, 23, 24, 0, 25, 26, 27, 0, 28, 0])) (h 14 (by decide)) rfl f rfl
theorem g_14_14 {z : Mem} (h : Sh z) (f : Nat → Nat → Int32) : gI (mkM f z) 1 14 14 = some (f 14 14) := ok_gI (q := (0, 1, 0, [0, 17, 0, 18, 19, 20, 21, 22, 23, 24, 0, 25, 26, 27, 0, 28, 0])) (h 14 (by decide)) rfl f rfl
theorem p_14_14 {z : Mem} (h : Sh z) (f : Nat → Nat → Int32) (v : Int32) : pF (mkM f z) 1 14 14 (.int v) = some (mkM (up f 14 (upd (f 14) 14 v)) z) := ok_pF (q := (0, 1, 0, [0, 17, 0, 18, 19, 20, 21, 22, 23, 24, 0, 25, 26, 27, 0, 28, 0])) (h 14 (by decide)) rfl f rfl v
theorem r_14_15 {z : Mem} (h : Sh z) (f : Nat → Nat → Int32) : gR (mkM f z) 1 14 15 = some 26 := ok_gR (q := (0, 1, 0, [0, 17, 0, 18, 19, 20, 21, 22, 23, 24, 0, 25, 26, 27, 0, 28, 0])) (h 14 (by decide)) rfl f rfl
theorem g_14_16 {z : Mem} (h : Sh z) (f : Nat → Nat → Int32) : gI (mkM f z) 1 14 16 = some (f 14 16) := ok_gI (q := (0, 1, 0, [0, 17, 0, 18, 19, 20, 21, 22, 23, 24, 0, 25, 26, 27, 0, 28, 0])) (h 14 (by decide)) rfl f rfl
theorem p_14_16 {z : Mem} (h : Sh z) (f : Nat → Nat → Int32) (v : Int32) : pF (mkM f z) 1 14 16 (.int v) = some (mkM (up f 14 (upd (f 14) 16 v)) z) := ok_pF (q := (0, 1, 0, [0, 17, 0, 18, 19, 20, 21, 22, 23, 24, 0, 25, 26, 27, 0, 28, 0])) (h 14 (by decide)) rfl f rfl v
theorem l_15 {z : Mem} (h : Sh z) (f : Nat → Nat → Int32) {k : Nat} (hk : k < 6) : lI (mkM f z) 15 (wI k) = some (f 15 k) := ok_lI (q := (1, 0, 6, [])) (h 15 (by decide)) rfl rfl f hk (by decide)
theorem s_15 {z : Mem} (h : Sh z) (f : Nat → Nat → Int32) {k : Nat} (v : Int32) (hk : k < 6) : sI (mkM f z) 15 (wI k) v = some (mkM (up f 15 (upd (f 15) k v)) z) := ok_sI (q := (1, 0, 6, [])) (h 15 (by decide)) rfl rfl f v hk (by decide)
theorem n_15 {z : Mem} (h : Sh z) (f : Nat → Nat → Int32) : aln (mkM f z) 15 = some (wI 6) := ok_aln (q := (1, 0, 6, [])) (h 15 (by decide)) rfl (show (0 : Nat) < 7 by decide) f
theorem l_16 {z : Mem} (h : Sh z) (f : Nat → Nat → Int32) {k : Nat} (hk : k < 10) : lI (mkM f z) 16 (wI k) = some (f 16 k) := ok_lI (q := (1, 0, 10, [])) (h 16 (by decide)) rfl rfl f hk (by decide)
theorem s_16 {z : Mem} (h : Sh z) (f : Nat → Nat → Int32) {k : Nat} (v : Int32) (hk : k < 10) : sI (mkM f z) 16 (wI k) v = some (mkM (up f 16 (upd (f 16) k v)) z) := ok_sI (q := (1, 0, 10, [])) (h 16 (by decide)) rfl rfl f v hk (by decide)
theorem n_16 {z : Mem} (h : Sh z) (f : Nat → Nat → Int32) : aln (mkM f z) 16 = some (wI 10) := ok_aln (q := (1, 0, 10, [])) (h 16 (by decide)) rfl (show (0 : Nat) < 7 by decide) f
theorem l_17 {z : Mem} (h : Sh z) (f : Nat → Nat → Int32) {k : Nat} (hk : k < 10) : lI (mkM f z) 17 (wI k) = some (f 17 k) := ok_lI (q := (1, 0, 10, [])) (h 17 (by decide)) rfl rfl f hk (by decide)
theorem s_17 {z : Mem} (h : Sh z) (f : Nat → Nat → Int32) {k : Nat} (v : Int32) (hk : k < 10) : sI (mkM f z) 17 (wI k) v = some (mkM (up f 17 (upd (f 17) k v)) z) := ok_sI (q := (1, 0, 10, [])) (h 17 (by decide)) rfl rfl f v hk (by decide)
theorem n_17 {z : Mem} (h : Sh z) (f : Nat → Nat → Int32) : aln (mkM f z) 17 = some (wI 10) := ok_aln (q := (1, 0, 10, [])) (h 17 (by decide)) rfl (show (0 : Nat) < 7 by decide) f
theorem l_18 {z : Mem} (h : Sh z) (f : Nat → Nat → Int32) {k : Nat} (hk : k < 10) : lI (mkM f z) 18 (wI k) = some (f 18 k) := ok_lI (q := (1, 0, 10, [])) (h 18 (by decide)) rfl rfl f hk (by decide)
theorem s_18 {z : Mem} (h : Sh z) (f : Nat → Nat → Int32) {k : Nat} (v : Int32) (hk : k < 10) : sI (mkM f z) 18 (wI k) v = some (mkM (up f 18 (upd (f 18) k v)) z) := ok_sI (q := (1, 0, 10, [])) (h 18 (by decide)) rfl rfl f v hk (by decide)
theorem n_18 {z : Mem} (h : Sh z) (f : Nat → Nat → Int32) : aln (mkM f z) 18 = some (wI 10) := ok_aln (q := (1, 0, 10, [])) (h 18 (by decide)) rfl (show (0 : Nat) < 7 by decide) f
theorem l_19 {z : Mem} (h : Sh z) (f : Nat → Nat → Int32) {k : Nat} (hk : k < 10) : lI (mkM f z) 19 (wI k) = some (f 19 k) := ok_lI (q := (1, 0, 10, [])) (h 19 (by decide)) rfl rfl f hk (by decide)
theorem s_19 {z : Mem} (h : Sh z) (f : Nat → Nat → Int32) {k : Nat} (v : Int32) (hk : k < 10) : sI (mkM f z) 19 (wI k) v = some (mkM (up f 19 (upd (f 19) k v)) z) := ok_sI (q := (1, 0, 10, [])) (h 19 (by decide)) rfl rfl f v hk (by decide)
theorem n_19 {z : Mem} (h : Sh z) (f : Nat → Nat → Int32) : aln (mkM f z) 19 = some (wI 10) := ok_aln (q := (1, 0, 10, [])) (h 19 (by decide)) rfl (show (0 : Nat) < 7 by decide) f
theorem l_20 {z : Mem} (h : Sh z) (f : Nat → Nat → Int32) {k : Nat} (hk : k < 10) : lI (mkM f z) 20 (wI k) = some (f 20 k) := ok_lI (q := (1, 0, 10, [])) (h 20 (by decide)) rfl rfl f hk (by decide)
theorem s_20 {z : Mem} (h : Sh z) (f : Nat → Nat → Int32) {k : Nat} (v : Int32) (hk : k < 10) : sI (mkM f z) 20 (wI k) v = some (mkM (up f 20 (upd (f 20) k v)) z) := ok_sI (q := (1, 0, 10, [])) (h 20 (by decide)) rfl rfl f v hk (by decide)
theorem n_20 {z : Mem} (h : Sh z) (f : Nat → Nat → Int32) : aln (mkM f z) 20 = some (wI 10) := ok_aln (q := (1, 0, 10, [])) (h 20 (by decide)) rfl (show (0 : Nat) < 7 by decide) f
theorem l_21 {z : Mem} (h : Sh z) (f : Nat → Nat → Int32) {k : Nat} (hk : k < 10) : lI (mkM f z) 21 (wI k) = some (f 21 k) := ok_lI (q := (1, 0, 10, [])) (h 21 (by decide)) rfl rfl f hk (by decide)
theorem s_21 {z : Mem} (h : Sh z) (f : Nat → Nat → Int32) {k : Nat} (v : Int32) (hk : k < 10) : sI (mkM f z) 21 (wI k) v = some (mkM (up f 21 (upd (f 21) k v)) z) := ok_sI (q := (1, 0, 10, [])) (h 21 (by decide)) rfl rfl f v hk (by decide)
theorem n_21 {z : Mem} (h : Sh z) (f : Nat → Nat → Int32) : aln (mkM f z) 21 = some (wI 10) := ok_aln (q := (1, 0, 10, [])) (h 21 (by decide)) rfl (show (0 : Nat) < 7 by decide) f
theorem l_22 {z : Mem} (h : Sh z) (f : Nat → Nat → Int32) {k : Nat} (hk : k < 10) : lI (mkM f z) 22 (wI k) = some (f 22 k) := ok_lI (q := (1, 0, 10, [])) (h 22 (by decide)) rfl rfl f hk (by decide)
theorem s_22 {z : Mem} (h : Sh z) (f : Nat → Nat → Int32) {k : Nat} (v : Int32) (hk : k < 10) : sI (mkM f z) 22 (wI k) v = some (mkM (up f 22 (upd (f 22) k v)) z) := ok_sI (q := (1, 0, 10, [])) (h 22 (by decide)) rfl rfl f v hk (by decide)
theorem n_22 {z : Mem} (h : Sh z) (f : Nat → Nat → Int32) : aln (mkM f z) 22 = some (wI 10) := ok_aln (q := (1, 0, 10, [])) (h 22 (by decide)) rfl (show (0 : Nat) < 7 by decide) f
theorem l_23 {z : Mem} (h : Sh z) (f : Nat → Nat → Int32) {k : Nat} (hk : k < 10) : lI (mkM f z) 23 (wI k) = some (f 23 k) := ok_lI (q := (1, 0, 10, [])) (h 23 (by decide)) rfl rfl f hk (by decide)
theorem s_23 {z : Mem} (h : Sh z) (f : Nat → Nat → Int32) {k : Nat} (v : Int32) (hk : k < 10) : sI (mkM f z) 23 (wI k) v = some (mkM (up f 23 (upd (f 23) k v)) z) := ok_sI (q := (1, 0, 10, [])) (h 23 (by decide)) rfl rfl f v hk (by decide)
theorem n_23 {z : Mem} (h : Sh z) (f : Nat → Nat → Int32) : aln (mkM f z) 23 = some (wI 10) := ok_aln (q := (1, 0, 10, [])) (h 23 (by decide)) rfl (show (0 : Nat) < 7 by decide) f
theorem l_24 {z : Mem} (h : Sh z) (f : Nat → Nat → Int32) {k : Nat} (hk : k < 10) : lI (mkM f z) 24 (wI k) = some (f 24 k) := ok_lI (q := (1, 0, 10, [])) (h 24 (by decide)) rfl rfl f hk (by decide)
theorem s_24 {z : Mem} (h : Sh z) (f : Nat → Nat → Int32) {k : Nat} (v : Int32) (hk : k < 10) : sI (mkM f z) 24 (wI k) v = some (mkM (up f 24 (upd (f 24) k v)) z) := ok_sI (q := (1, 0, 10, [])) (h 24 (by decide)) rfl rfl f v hk (by decide)
theorem n_24 {z : Mem} (h : Sh z) (f : Nat → Nat → Int32) : aln (mkM f z) 24 = some (wI 10) := ok_aln (q := (1, 0, 10, [])) (h 24 (by decide)) rfl (show (0 : Nat) < 7 by decide) f
theorem l_25 {z : Mem} (h : Sh z) (f : Nat → Nat → Int32) {k : Nat} (hk : k < 3) : lI (mkM f z) 25 (wI k) = some (f 25 k) := ok_lI (q := (1, 0, 3, [])) (h 25 (by decide)) rfl rfl f hk (by decide)
theorem s_25 {z : Mem} (h : Sh z) (f : Nat → Nat → Int32) {k : Nat} (v : Int32) (hk : k < 3) : sI (mkM f z) 25 (wI k) v = some (mkM (up f 25 (upd (f 25) k v)) z) := ok_sI (q := (1, 0, 3, [])) (h 25 (by decide)) rfl rfl f v hk (by decide)
theorem n_25 {z : Mem} (h : Sh z) (f : Nat → Nat → Int32) : aln (mkM f z) 25 = some (wI 3) := ok_aln (q := (1, 0, 3, [])) (h 25 (by decide)) rfl (show (0 : Nat) < 7 by decide) f
theorem l_26 {z : Mem} (h : Sh z) (f : Nat → Nat → Int32) {k : Nat} (hk : k < 6) : lQ (mkM f z) 26 (wI k) = some (rfo (f 26 k)) := ok_lQ (q := (3, 4, 6, [])) (h 26 (by decide)) rfl (by decide) f hk (by decide)
theorem s_26 {z : Mem} (h : Sh z) (f : Nat → Nat → Int32) {k : Nat} {x : Option Nat} {v : Int32} (hv : rfo v = x) (hx : ∀ y, x = some y → isC (mkM f z) 5 y = true) (hk : k < 6) : sQ (mkM f z) 26 (wI k) x = some (mkM (up f 26 (upd (f 26) k v)) z) := ok_sQ (q := (3, 4, 6, [])) (h 26 (by decide)) rfl (by decide) f hv hx hk (by decide)
theorem l_27 {z : Mem} (h : Sh z) (f : Nat → Nat → Int32) {k : Nat} (hk : k < 2) : lQ (mkM f z) 27 (wI k) = some (rfo (f 27 k)) := ok_lQ (q := (3, 5, 2, [])) (h 27 (by decide)) rfl (by decide) f hk (by decide)
theorem s_27 {z : Mem} (h : Sh z) (f : Nat → Nat → Int32) {k : Nat} {x : Option Nat} {v : Int32} (hv : rfo v = x) (hx : ∀ y, x = some y → isC (mkM f z) 1 y = true) (hk : k < 2) : sQ (mkM f z) 27 (wI k) x = some (mkM (up f 27 (upd (f 27) k v)) z) := ok_sQ (q := (3, 5, 2, [])) (h 27 (by decide)) rfl (by decide) f hv hx hk (by decide)
theorem c_28 {z : Mem} (h : Sh z) (f : Nat → Nat → Int32) (A B : Option Rs) : (bif isC (mkM f z) 3 28 then A else B) = A := congrArg (fun b => cond b A B) (ok_isC (q := (0, 3, 0, [31, 0, 0])) (h 28 (by decide)) rfl f)
theorem cc_28 {z : Mem} (h : Sh z) (f : Nat → Nat → Int32) : isC (mkM f z) 3 28 = true := ok_isC (q := (0, 3, 0, [31, 0, 0])) (h 28 (by decide)) rfl f
theorem r_28_0 {z : Mem} (h : Sh z) (f : Nat → Nat → Int32) : gR (mkM f z) 3 28 0 = some 29 := ok_gR (q := (0, 3, 0, [31, 0, 0])) (h 28 (by decide)) rfl f rfl
theorem g_28_1 {z : Mem} (h : Sh z) (f : Nat → Nat → Int32) : gI (mkM f z) 3 28 1 = some (f 28 1) := ok_gI (q := (0, 3, 0, [31, 0, 0])) (h 28 (by decide)) rfl f rfl
theorem p_28_1 {z : Mem} (h : Sh z) (f : Nat → Nat → Int32) (v : Int32) : pF (mkM f z) 3 28 1 (.int v) = some (mkM (up f 28 (upd (f 28) 1 v)) z) := ok_pF (q := (0, 3, 0, [31, 0, 0])) (h 28 (by decide)) rfl f rfl v
theorem g_28_2 {z : Mem} (h : Sh z) (f : Nat → Nat → Int32) : gI (mkM f z) 3 28 2 = some (f 28 2) := ok_gI (q := (0, 3, 0, [31, 0, 0])) (h 28 (by decide)) rfl f rfl
theorem p_28_2 {z : Mem} (h : Sh z) (f : Nat → Nat → Int32) (v : Int32) : pF (mkM f z) 3 28 2 (.int v) = some (mkM (up f 28 (upd (f 28) 2 v)) z) := ok_pF (q := (0, 3, 0, [31, 0, 0])) (h 28 (by decide)) rfl f rfl v
theorem l_29 {z : Mem} (h : Sh z) (f : Nat → Nat → Int32) {k : Nat} (hk : k < 119) : lI (mkM f z) 29 (wI k) = some (f 29 k) := ok_lI (q := (1, 0, 119, [])) (h 29 (by decide)) rfl rfl f hk (by decide)
theorem s_29 {z : Mem} (h : Sh z) (f : Nat → Nat → Int32) {k : Nat} (v : Int32) (hk : k < 119) : sI (mkM f z) 29 (wI k) v = some (mkM (up f 29 (upd (f 29) k v)) z) := ok_sI (q := (1, 0, 119, [])) (h 29 (by decide)) rfl rfl f v hk (by decide)
theorem n_29 {z : Mem} (h : Sh z) (f : Nat → Nat → Int32) : aln (mkM f z) 29 = some (wI 119) := ok_aln (q := (1, 0, 119, [])) (h 29 (by decide)) rfl (show (0 : Nat) < 7 by decide) f
theorem c_30 {z : Mem} (h : Sh z) (f : Nat → Nat → Int32) (A B : Option Rs) : (bif isC (mkM f z) 3 30 then A else B) = A := congrArg (fun b => cond b A B) (ok_isC (q := (0, 3, 0, [33, 0, 0])) (h 30 (by decide)) rfl f)
theorem cc_30 {z : Mem} (h : Sh z) (f : Nat → Nat → Int32) : isC (mkM f z) 3 30 = true := ok_isC (q := (0, 3, 0, [33, 0, 0])) (h 30 (by decide)) rfl f
theorem r_30_0 {z : Mem} (h : Sh z) (f : Nat → Nat → Int32) : gR (mkM f z) 3 30 0 = some 31 := ok_gR (q := (0, 3, 0, [33, 0, 0])) (h 30 (by decide)) rfl f rfl
theorem g_30_1 {z : Mem} (h : Sh z) (f : Nat → Nat → Int32) : gI (mkM f z) 3 30 1 = some (f 30 1) := ok_gI (q := (0, 3, 0, [33, 0, 0])) (h 30 (by decide)) rfl f rfl
theorem p_30_1 {z : Mem} (h : Sh z) (f : Nat → Nat → Int32) (v : Int32) : pF (mkM f z) 3 30 1 (.int v) = some (mkM (up f 30 (upd (f 30) 1 v)) z) := ok_pF (q := (0, 3, 0, [33, 0, 0])) (h 30 (by decide)) rfl f rfl v
theorem g_30_2 {z : Mem} (h : Sh z) (f : Nat → Nat → Int32) : gI (mkM f z) 3 30 2 = some (f 30 2) := ok_gI (q := (0, 3, 0, [33, 0, 0])) (h 30 (by decide)) rfl f rfl
theorem p_30_2 {z : Mem} (h : Sh z) (f : Nat → Nat → Int32) (v : Int32) : pF (mkM f z) 3 30 2 (.int v) = some (mkM (up f 30 (upd (f 30) 2 v)) z) := ok_pF (q := (0, 3, 0, [33, 0, 0])) (h 30 (by decide)) rfl f rfl v
theorem l_31 {z : Mem} (h : Sh z) (f : Nat → Nat → Int32) {k : Nat} (hk : k < 119) : lI (mkM f z) 31 (wI k) = some (f 31 k) := ok_lI (q := (1, 0, 119, [])) (h 31 (by decide)) rfl rfl f hk (by decide)
theorem s_31 {z : Mem} (h : Sh z) (f : Nat → Nat → Int32) {k : Nat} (v : Int32) (hk : k < 119) : sI (mkM f z) 31 (wI k) v = some (mkM (up f 31 (upd (f 31) k v)) z) := ok_sI (q := (1, 0, 119, [])) (h 31 (by decide)) rfl rfl f v hk (by decide)
theorem n_31 {z : Mem} (h : Sh z) (f : Nat → Nat → Int32) : aln (mkM f z) 31 = some (wI 119) := ok_aln (q := (1, 0, 119, [])) (h 31 (by decide)) rfl (show (0 : Nat) < 7 by decide) f
theorem l_32 {z : Mem} (h : Sh z) (f : Nat → Nat → Int32) {k : Nat} (hk : k < 400) : lI (mkM f z) 32 (wI k) = some (f 32 k) := ok_lI (q := (1, 0, 400, [])) (h 32 (by decide)) rfl rfl f hk (by decide)
theorem s_32 {z : Mem} (h : Sh z) (f : Nat → Nat → Int32) {k : Nat} (v : Int32) (hk : k < 400) : sI (mkM f z) 32 (wI k) v = some (mkM (up f 32 (upd (f 32) k v)) z) := ok_sI (q := (1, 0, 400, [])) (h 32 (by decide)) rfl rfl f v hk (by decide)
theorem n_32 {z : Mem} (h : Sh z) (f : Nat → Nat → Int32) : aln (mkM f z) 32 = some (wI 400) := ok_aln (q := (1, 0, 400, [])) (h 32 (by decide)) rfl (show (0 : Nat) < 7 by decide) f
theorem c_33 {z : Mem} (h : Sh z) (f : Nat → Nat → Int32) (A B : Option Rs) : (bif isC (mkM f z) 6 33 then A else B) = A := congrArg (fun b => cond b A B) (ok_isC (q := (0, 6, 0, [36, 1, 0, 0, 0, 0, 0, 0, 0, 0])) (h 33 (by decide)) rfl f)
theorem cc_33 {z : Mem} (h : Sh z) (f : Nat → Nat → Int32) : isC (mkM f z) 6 33 = true := ok_isC (q := (0, 6, 0, [36, 1, 0, 0, 0, 0, 0, 0, 0, 0])) (h 33 (by decide)) rfl f
theorem r_33_0 {z : Mem} (h : Sh z) (f : Nat → Nat → Int32) : gR (mkM f z) 6 33 0 = some 34 := ok_gR (q := (0, 6, 0, [36, 1, 0, 0, 0, 0, 0, 0, 0, 0])) (h 33 (by decide)) rfl f rfl
theorem v_33_1 {z : Mem} (h : Sh z) (f : Nat → Nat → Int32) : gR (mkM f z) 6 33 1 = rfo (f 33 1) := ok_gRv (q := (0, 6, 0, [36, 1, 0, 0, 0, 0, 0, 0, 0, 0])) (h 33 (by decide)) rfl f rfl
theorem w_33_1 {z : Mem} (h : Sh z) (f : Nat → Nat → Int32) : gQ (mkM f z) 6 33 1 = some (rfo (f 33 1)) := ok_gQ (q := (0, 6, 0, [36, 1, 0, 0, 0, 0, 0, 0, 0, 0])) (h 33 (by decide)) rfl f rfl
theorem p_33_1 {z : Mem} (h : Sh z) (f : Nat → Nat → Int32) {v : Nat} (hv : v ≠ 0) (hs : v < 2147483648) : pF (mkM f z) 6 33 1 (.ref v) = some (mkM (up f 33 (upd (f 33) 1 (wI v))) z) := ok_pR (q := (0, 6, 0, [36, 1, 0, 0, 0, 0, 0, 0, 0, 0])) (h 33 (by decide)) rfl f rfl hv hs
theorem g_33_2 {z : Mem} (h : Sh z) (f : Nat → Nat → Int32) : gI (mkM f z) 6 33 2 = some (f 33 2) := ok_gI (q := (0, 6, 0, [36, 1, 0, 0, 0, 0, 0, 0, 0, 0])) (h 33 (by decide)) rfl f rfl
theorem p_33_2 {z : Mem} (h : Sh z) (f : Nat → Nat → Int32) (v : Int32) : pF (mkM f z) 6 33 2 (.int v) = some (mkM (up f 33 (upd (f 33) 2 v)) z) := ok_pF (q := (0, 6, 0, [36, 1, 0, 0, 0, 0, 0, 0, 0, 0])) (h 33 (by decide)) rfl f rfl v
theorem g_33_3 {z : Mem} (h : Sh z) (f : Nat → Nat → Int32) : gI (mkM f z) 6 33 3 = some (f 33 3) := ok_gI (q := (0, 6, 0, [36, 1, 0, 0, 0, 0, 0, 0, 0, 0])) (h 33 (by decide)) rfl f rfl
theorem p_33_3 {z : Mem} (h : Sh z) (f : Nat → Nat → Int32) (v : Int32) : pF (mkM f z) 6 33 3 (.int v) = some (mkM (up f 33 (upd (f 33) 3 v)) z) := ok_pF (q := (0, 6, 0, [36, 1, 0, 0, 0, 0, 0, 0, 0, 0])) (h 33 (by decide)) rfl f rfl v
theorem g_33_4 {z : Mem} (h : Sh z) (f : Nat → Nat → Int32) : gI (mkM f z) 6 33 4 = some (f 33 4) := ok_gI (q := (0, 6, 0, [36, 1, 0, 0, 0, 0, 0, 0, 0, 0])) (h 33 (by decide)) rfl f rfl
theorem p_33_4 {z : Mem} (h : Sh z) (f : Nat → Nat → Int32) (v : Int32) : pF (mkM f z) 6 33 4 (.int v) = some (mkM (up f 33 (upd (f 33) 4 v)) z) := ok_pF (q := (0, 6, 0, [36, 1, 0, 0, 0, 0, 0, 0, 0, 0])) (h 33 (by decide)) rfl f rfl v
theorem g_33_5 {z : Mem} (h : Sh z) (f : Nat → Nat → Int32) : gI (mkM f z) 6 33 5 = some (f 33 5) := ok_gI (q := (0, 6, 0, [36, 1, 0, 0, 0, 0, 0, 0, 0, 0])) (h 33 (by decide)) rfl f rfl
theorem p_33_5 {z : Mem} (h : Sh z) (f : Nat → Nat → Int32) (v : Int32) : pF (mkM f z) 6 33 5 (.int v) = some (mkM (up f 33 (upd (f 33) 5 v)) z) := ok_pF (q := (0, 6, 0, [36, 1, 0, 0, 0, 0, 0, 0, 0, 0])) (h 33 (by decide)) rfl f rfl v
theorem g_33_6 {z : Mem} (h : Sh z) (f : Nat → Nat → Int32) : gI (mkM f z) 6 33 6 = some (f 33 6) := ok_gI (q := (0, 6, 0, [36, 1, 0, 0, 0, 0, 0, 0, 0, 0])) (h 33 (by decide)) rfl f rfl
theorem p_33_6 {z : Mem} (h : Sh z) (f : Nat → Nat → Int32) (v : Int32) : pF (mkM f z) 6 33 6 (.int v) = some (mkM (up f 33 (upd (f 33) 6 v)) z) := ok_pF (q := (0, 6, 0, [36, 1, 0, 0, 0, 0, 0, 0, 0, 0])) (h 33 (by decide)) rfl f rfl v
theorem g_33_7 {z : Mem} (h : Sh z) (f : Nat → Nat → Int32) : gI (mkM f z) 6 33 7 = some (f 33 7) := ok_gI (q := (0, 6, 0, [36, 1, 0, 0, 0, 0, 0, 0, 0, 0])) (h 33 (by decide)) rfl f rfl
theorem p_33_7 {z : Mem} (h : Sh z) (f : Nat → Nat → Int32) (v : Int32) : pF (mkM f z) 6 33 7 (.int v) = some (mkM (up f 33 (upd (f 33) 7 v)) z) := ok_pF (q := (0, 6, 0, [36, 1, 0, 0, 0, 0, 0, 0, 0, 0])) (h 33 (by decide)) rfl f rfl v
theorem g_33_8 {z : Mem} (h : Sh z) (f : Nat → Nat → Int32) : gI (mkM f z) 6 33 8 = some (f 33 8) := ok_gI (q := (0, 6, 0, [36, 1, 0, 0, 0, 0, 0, 0, 0, 0])) (h 33 (by decide)) rfl f rfl
theorem p_33_8 {z : Mem} (h : Sh z) (f : Nat → Nat → Int32) (v : Int32) : pF (mkM f z) 6 33 8 (.int v) = some (mkM (up f 33 (upd (f 33) 8 v)) z) := ok_pF (q := (0, 6, 0, [36, 1, 0, 0, 0, 0, 0, 0, 0, 0])) (h 33 (by decide)) rfl f rfl v
theorem g_33_9 {z : Mem} (h : Sh z) (f : Nat → Nat → Int32) : gI (mkM f z) 6 33 9 = some (f 33 9) := ok_gI (q := (0, 6, 0, [36, 1, 0, 0, 0, 0, 0, 0, 0, 0])) (h 33 (by decide)) rfl f rfl
theorem p_33_9 {z : Mem} (h : Sh z) (f : Nat → Nat → Int32) (v : Int32) : pF (mkM f z) 6 33 9 (.int v) = some (mkM (up f 33 (upd (f 33) 9 v)) z) := ok_pF (q := (0, 6, 0, [36, 1, 0, 0, 0, 0, 0, 0, 0, 0])) (h 33 (by decide)) rfl f rfl v
theorem c_34 {z : Mem} (h : Sh z) (f : Nat → Nat → Int32) (A B : Option Rs) : (bif isC (mkM f z) 5 34 then A else B) = A := congrArg (fun b => cond b A B) (ok_isC (q := (0, 5, 0, [0, 0, 37, 38])) (h 34 (by decide)) rfl f)
theorem cc_34 {z : Mem} (h : Sh z) (f : Nat → Nat → Int32) : isC (mkM f z) 5 34 = true := ok_isC (q := (0, 5, 0, [0, 0, 37, 38])) (h 34 (by decide)) rfl f
theorem g_34_0 {z : Mem} (h : Sh z) (f : Nat → Nat → Int32) : gI (mkM f z) 5 34 0 = some (f 34 0) := ok_gI (q := (0, 5, 0, [0, 0, 37, 38])) (h 34 (by decide)) rfl f rfl
theorem p_34_0 {z : Mem} (h : Sh z) (f : Nat → Nat → Int32) (v : Int32) : pF (mkM f z) 5 34 0 (.int v) = some (mkM (up f 34 (upd (f 34) 0 v)) z) := ok_pF (q := (0, 5, 0, [0, 0, 37, 38])) (h 34 (by decide)) rfl f rfl v
theorem g_34_1 {z : Mem} (h : Sh z) (f : Nat → Nat → Int32) : gI (mkM f z) 5 34 1 = some (f 34 1) := ok_gI (q := (0, 5, 0, [0, 0, 37, 38])) (h 34 (by decide)) rfl f rfl
theorem p_34_1 {z : Mem} (h : Sh z) (f : Nat → Nat → Int32) (v : Int32) : pF (mkM f z) 5 34 1 (.int v) = some (mkM (up f 34 (upd (f 34) 1 v)) z) := ok_pF (q := (0, 5, 0, [0, 0, 37, 38])) (h 34 (by decide)) rfl f rfl v
theorem r_34_2 {z : Mem} (h : Sh z) (f : Nat → Nat → Int32) : gR (mkM f z) 5 34 2 = some 35 := ok_gR (q := (0, 5, 0, [0, 0, 37, 38])) (h 34 (by decide)) rfl f rfl
theorem r_34_3 {z : Mem} (h : Sh z) (f : Nat → Nat → Int32) : gR (mkM f z) 5 34 3 = some 36 := ok_gR (q := (0, 5, 0, [0, 0, 37, 38])) (h 34 (by decide)) rfl f rfl
theorem l_35 {z : Mem} (h : Sh z) (f : Nat → Nat → Int32) {k : Nat} (hk : k < 72) : lI (mkM f z) 35 (wI k) = some (f 35 k) := ok_lI (q := (1, 0, 72, [])) (h 35 (by decide)) rfl rfl f hk (by decide)
theorem s_35 {z : Mem} (h : Sh z) (f : Nat → Nat → Int32) {k : Nat} (v : Int32) (hk : k < 72) : sI (mkM f z) 35 (wI k) v = some (mkM (up f 35 (upd (f 35) k v)) z) := ok_sI (q := (1, 0, 72, [])) (h 35 (by decide)) rfl rfl f v hk (by decide)
theorem n_35 {z : Mem} (h : Sh z) (f : Nat → Nat → Int32) : aln (mkM f z) 35 = some (wI 72) := ok_aln (q := (1, 0, 72, [])) (h 35 (by decide)) rfl (show (0 : Nat) < 7 by decide) f
theorem l_36 {z : Mem} (h : Sh z) (f : Nat → Nat → Int32) {k : Nat} (hk : k < 400) : lI (mkM f z) 36 (wI k) = some (f 36 k) := ok_lI (q := (1, 0, 400, [])) (h 36 (by decide)) rfl rfl f hk (by decide)
theorem s_36 {z : Mem} (h : Sh z) (f : Nat → Nat → Int32) {k : Nat} (v : Int32) (hk : k < 400) : sI (mkM f z) 36 (wI k) v = some (mkM (up f 36 (upd (f 36) k v)) z) := ok_sI (q := (1, 0, 400, [])) (h 36 (by decide)) rfl rfl f v hk (by decide)
theorem n_36 {z : Mem} (h : Sh z) (f : Nat → Nat → Int32) : aln (mkM f z) 36 = some (wI 400) := ok_aln (q := (1, 0, 400, [])) (h 36 (by decide)) rfl (show (0 : Nat) < 7 by decide) f
theorem c_38 {z : Mem} (h : Sh z) (f : Nat → Nat → Int32) (A B : Option Rs) : (bif isC (mkM f z) 7 38 then A else B) = A := congrArg (fun b => cond b A B) (ok_isC (q := (0, 7, 0, [41, 1, 0, 0, 0, 0])) (h 38 (by decide)) rfl f)
theorem cc_38 {z : Mem} (h : Sh z) (f : Nat → Nat → Int32) : isC (mkM f z) 7 38 = true := ok_isC (q := (0, 7, 0, [41, 1, 0, 0, 0, 0])) (h 38 (by decide)) rfl f
theorem r_38_0 {z : Mem} (h : Sh z) (f : Nat → Nat → Int32) : gR (mkM f z) 7 38 0 = some 39 := ok_gR (q := (0, 7, 0, [41, 1, 0, 0, 0, 0])) (h 38 (by decide)) rfl f rfl
theorem v_38_1 {z : Mem} (h : Sh z) (f : Nat → Nat → Int32) : gR (mkM f z) 7 38 1 = rfo (f 38 1) := ok_gRv (q := (0, 7, 0, [41, 1, 0, 0, 0, 0])) (h 38 (by decide)) rfl f rfl
theorem w_38_1 {z : Mem} (h : Sh z) (f : Nat → Nat → Int32) : gQ (mkM f z) 7 38 1 = some (rfo (f 38 1)) := ok_gQ (q := (0, 7, 0, [41, 1, 0, 0, 0, 0])) (h 38 (by decide)) rfl f rfl
theorem p_38_1 {z : Mem} (h : Sh z) (f : Nat → Nat → Int32) {v : Nat} (hv : v ≠ 0) (hs : v < 2147483648) : pF (mkM f z) 7 38 1 (.ref v) = some (mkM (up f 38 (upd (f 38) 1 (wI v))) z) := ok_pR (q := (0, 7, 0, [41, 1, 0, 0, 0, 0])) (h 38 (by decide)) rfl f rfl hv hs
theorem g_38_2 {z : Mem} (h : Sh z) (f : Nat → Nat → Int32) : gI (mkM f z) 7 38 2 = some (f 38 2) := ok_gI (q := (0, 7, 0, [41, 1, 0, 0, 0, 0])) (h 38 (by decide)) rfl f rfl
theorem p_38_2 {z : Mem} (h : Sh z) (f : Nat → Nat → Int32) (v : Int32) : pF (mkM f z) 7 38 2 (.int v) = some (mkM (up f 38 (upd (f 38) 2 v)) z) := ok_pF (q := (0, 7, 0, [41, 1, 0, 0, 0, 0])) (h 38 (by decide)) rfl f rfl v
theorem g_38_3 {z : Mem} (h : Sh z) (f : Nat → Nat → Int32) : gI (mkM f z) 7 38 3 = some (f 38 3) := ok_gI (q := (0, 7, 0, [41, 1, 0, 0, 0, 0])) (h 38 (by decide)) rfl f rfl
theorem p_38_3 {z : Mem} (h : Sh z) (f : Nat → Nat → Int32) (v : Int32) : pF (mkM f z) 7 38 3 (.int v) = some (mkM (up f 38 (upd (f 38) 3 v)) z) := ok_pF (q := (0, 7, 0, [41, 1, 0, 0, 0, 0])) (h 38 (by decide)) rfl f rfl v
theorem g_38_4 {z : Mem} (h : Sh z) (f : Nat → Nat → Int32) : gI (mkM f z) 7 38 4 = some (f 38 4) := ok_gI (q := (0, 7, 0, [41, 1, 0, 0, 0, 0])) (h 38 (by decide)) rfl f rfl
theorem p_38_4 {z : Mem} (h : Sh z) (f : Nat → Nat → Int32) (v : Int32) : pF (mkM f z) 7 38 4 (.int v) = some (mkM (up f 38 (upd (f 38) 4 v)) z) := ok_pF (q := (0, 7, 0, [41, 1, 0, 0, 0, 0])) (h 38 (by decide)) rfl f rfl v
theorem g_38_5 {z : Mem} (h : Sh z) (f : Nat → Nat → Int32) : gI (mkM f z) 7 38 5 = some (f 38 5) := ok_gI (q := (0, 7, 0, [41, 1, 0, 0, 0, 0])) (h 38 (by decide)) rfl f rfl
theorem p_38_5 {z : Mem} (h : Sh z) (f : Nat → Nat → Int32) (v : Int32) : pF (mkM f z) 7 38 5 (.int v) = some (mkM (up f 38 (upd (f 38) 5 v)) z) := ok_pF (q := (0, 7, 0, [41, 1, 0, 0, 0, 0])) (h 38 (by decide)) rfl f rfl v
theorem l_39 {z : Mem} (h : Sh z) (f : Nat → Nat → Int32) {k : Nat} (hk : k < 64) : lI (mkM f z) 39 (wI k) = some (f 39 k) := ok_lI (q := (1, 0, 64, [])) (h 39 (by decide)) rfl rfl f hk (by decide)
theorem s_39 {z : Mem} (h : Sh z) (f : Nat → Nat → Int32) {k : Nat} (v : Int32) (hk : k < 64) : sI (mkM f z) 39 (wI k) v = some (mkM (up f 39 (upd (f 39) k v)) z) := ok_sI (q := (1, 0, 64, [])) (h 39 (by decide)) rfl rfl f v hk (by decide)
theorem n_39 {z : Mem} (h : Sh z) (f : Nat → Nat → Int32) : aln (mkM f z) 39 = some (wI 64) := ok_aln (q := (1, 0, 64, [])) (h 39 (by decide)) rfl (show (0 : Nat) < 7 by decide) f
theorem c_40 {z : Mem} (h : Sh z) (f : Nat → Nat → Int32) (A B : Option Rs) : (bif isC (mkM f z) 4 40 then A else B) = A := congrArg (fun b => cond b A B) (ok_isC (q := (0, 4, 0, [43, 44, 45, 46, 0])) (h 40 (by decide)) rfl f)
theorem cc_40 {z : Mem} (h : Sh z) (f : Nat → Nat → Int32) : isC (mkM f z) 4 40 = true := ok_isC (q := (0, 4, 0, [43, 44, 45, 46, 0])) (h 40 (by decide)) rfl f
theorem r_40_0 {z : Mem} (h : Sh z) (f : Nat → Nat → Int32) : gR (mkM f z) 4 40 0 = some 41 := ok_gR (q := (0, 4, 0, [43, 44, 45, 46, 0])) (h 40 (by decide)) rfl f rfl
theorem r_40_1 {z : Mem} (h : Sh z) (f : Nat → Nat → Int32) : gR (mkM f z) 4 40 1 = some 42 := ok_gR (q := (0, 4, 0, [43, 44, 45, 46, 0])) (h 40 (by decide)) rfl f rfl
theorem r_40_2 {z : Mem} (h : Sh z) (f : Nat → Nat → Int32) : gR (mkM f z) 4 40 2 = some 43 := ok_gR (q := (0, 4, 0, [43, 44, 45, 46, 0])) (h 40 (by decide)) rfl f rfl
theorem r_40_3 {z : Mem} (h : Sh z) (f : Nat → Nat → Int32) : gR (mkM f z) 4 40 3 = some 44 := ok_gR (q := (0, 4, 0, [43, 44, 45, 46, 0])) (h 40 (by decide)) rfl f rfl
theorem g_40_4 {z : Mem} (h : Sh z) (f : Nat → Nat → Int32) : gI (mkM f z) 4 40 4 = some (f 40 4) := ok_gI (q := (0, 4, 0, [43, 44, 45, 46, 0])) (h 40 (by decide)) rfl f rfl
theorem p_40_4 {z : Mem} (h : Sh z) (f : Nat → Nat → Int32) (v : Int32) : pF (mkM f z) 4 40 4 (.int v) = some (mkM (up f 40 (upd (f 40) 4 v)) z) := ok_pF (q := (0, 4, 0, [43, 44, 45, 46, 0])) (h 40 (by decide)) rfl f rfl v
theorem l_41 {z : Mem} (h : Sh z) (f : Nat → Nat → Int32) {k : Nat} (hk : k < 10) : lI (mkM f z) 41 (wI k) = some (f 41 k) := ok_lI (q := (1, 0, 10, [])) (h 41 (by decide)) rfl rfl f hk (by decide)
theorem s_41 {z : Mem} (h : Sh z) (f : Nat → Nat → Int32) {k : Nat} (v : Int32) (hk : k < 10) : sI (mkM f z) 41 (wI k) v = some (mkM (up f 41 (upd (f 41) k v)) z) := ok_sI (q := (1, 0, 10, [])) (h 41 (by decide)) rfl rfl f v hk (by decide)
theorem n_41 {z : Mem} (h : Sh z) (f : Nat → Nat → Int32) : aln (mkM f z) 41 = some (wI 10) := ok_aln (q := (1, 0, 10, [])) (h 41 (by decide)) rfl (show (0 : Nat) < 7 by decide) f
theorem l_42 {z : Mem} (h : Sh z) (f : Nat → Nat → Int32) {k : Nat} (hk : k < 10) : lI (mkM f z) 42 (wI k) = some (f 42 k) := ok_lI (q := (1, 0, 10, [])) (h 42 (by decide)) rfl rfl f hk (by decide)
theorem s_42 {z : Mem} (h : Sh z) (f : Nat → Nat → Int32) {k : Nat} (v : Int32) (hk : k < 10) : sI (mkM f z) 42 (wI k) v = some (mkM (up f 42 (upd (f 42) k v)) z) := ok_sI (q := (1, 0, 10, [])) (h 42 (by decide)) rfl rfl f v hk (by decide)
theorem n_42 {z : Mem} (h : Sh z) (f : Nat → Nat → Int32) : aln (mkM f z) 42 = some (wI 10) := ok_aln (q := (1, 0, 10, [])) (h 42 (by decide)) rfl (show (0 : Nat) < 7 by decide) f
theorem l_43 {z : Mem} (h : Sh z) (f : Nat → Nat → Int32) {k : Nat} (hk : k < 10) : lI (mkM f z) 43 (wI k) = some (f 43 k) := ok_lI (q := (1, 0, 10, [])) (h 43 (by decide)) rfl rfl f hk (by decide)
theorem s_43 {z : Mem} (h : Sh z) (f : Nat → Nat → Int32) {k : Nat} (v : Int32) (hk : k < 10) : sI (mkM f z) 43 (wI k) v = some (mkM (up f 43 (upd (f 43) k v)) z) := ok_sI (q := (1, 0, 10, [])) (h 43 (by decide)) rfl rfl f v hk (by decide)
theorem n_43 {z : Mem} (h : Sh z) (f : Nat → Nat → Int32) : aln (mkM f z) 43 = some (wI 10) := ok_aln (q := (1, 0, 10, [])) (h 43 (by decide)) rfl (show (0 : Nat) < 7 by decide) f
theorem l_44 {z : Mem} (h : Sh z) (f : Nat → Nat → Int32) {k : Nat} (hk : k < 45) : lI (mkM f z) 44 (wI k) = some (f 44 k) := ok_lI (q := (1, 0, 45, [])) (h 44 (by decide)) rfl rfl f hk (by decide)
theorem s_44 {z : Mem} (h : Sh z) (f : Nat → Nat → Int32) {k : Nat} (v : Int32) (hk : k < 45) : sI (mkM f z) 44 (wI k) v = some (mkM (up f 44 (upd (f 44) k v)) z) := ok_sI (q := (1, 0, 45, [])) (h 44 (by decide)) rfl rfl f v hk (by decide)
theorem n_44 {z : Mem} (h : Sh z) (f : Nat → Nat → Int32) : aln (mkM f z) 44 = some (wI 45) := ok_aln (q := (1, 0, 45, [])) (h 44 (by decide)) rfl (show (0 : Nat) < 7 by decide) f
theorem c_45 {z : Mem} (h : Sh z) (f : Nat → Nat → Int32) (A B : Option Rs) : (bif isC (mkM f z) 2 45 then A else B) = A := congrArg (fun b => cond b A B) (ok_isC (q := (0, 2, 0, [48, 49, 50, 51, 52, 0])) (h 45 (by decide)) rfl f)
theorem cc_45 {z : Mem} (h : Sh z) (f : Nat → Nat → Int32) : isC (mkM f z) 2 45 = true := ok_isC (q := (0, 2, 0, [48, 49, 50, 51, 52, 0])) (h 45 (by decide)) rfl f
theorem r_45_0 {z : Mem} (h : Sh z) (f : Nat → Nat → Int32) : gR (mkM f z) 2 45 0 = some 46 := ok_gR (q := (0, 2, 0, [48, 49, 50, 51, 52, 0])) (h 45 (by decide)) rfl f rfl
theorem r_45_1 {z : Mem} (h : Sh z) (f : Nat → Nat → Int32) : gR (mkM f z) 2 45 1 = some 47 := ok_gR (q := (0, 2, 0, [48, 49, 50, 51, 52, 0])) (h 45 (by decide)) rfl f rfl
theorem r_45_2 {z : Mem} (h : Sh z) (f : Nat → Nat → Int32) : gR (mkM f z) 2 45 2 = some 48 := ok_gR (q := (0, 2, 0, [48, 49, 50, 51, 52, 0])) (h 45 (by decide)) rfl f rfl
theorem r_45_3 {z : Mem} (h : Sh z) (f : Nat → Nat → Int32) : gR (mkM f z) 2 45 3 = some 49 := ok_gR (q := (0, 2, 0, [48, 49, 50, 51, 52, 0])) (h 45 (by decide)) rfl f rfl
theorem r_45_4 {z : Mem} (h : Sh z) (f : Nat → Nat → Int32) : gR (mkM f z) 2 45 4 = some 50 := ok_gR (q := (0, 2, 0, [48, 49, 50, 51, 52, 0])) (h 45 (by decide)) rfl f rfl
theorem g_45_5 {z : Mem} (h : Sh z) (f : Nat → Nat → Int32) : gI (mkM f z) 2 45 5 = some (f 45 5) := ok_gI (q := (0, 2, 0, [48, 49, 50, 51, 52, 0])) (h 45 (by decide)) rfl f rfl
theorem p_45_5 {z : Mem} (h : Sh z) (f : Nat → Nat → Int32) (v : Int32) : pF (mkM f z) 2 45 5 (.int v) = some (mkM (up f 45 (upd (f 45) 5 v)) z) := ok_pF (q := (0, 2, 0, [48, 49, 50, 51, 52, 0])) (h 45 (by decide)) rfl f rfl v
theorem l_46 {z : Mem} (h : Sh z) (f : Nat → Nat → Int32) {k : Nat} (hk : k < 6) : lI (mkM f z) 46 (wI k) = some (f 46 k) := ok_lI (q := (1, 0, 6, [])) (h 46 (by decide)) rfl rfl f hk (by decide)
theorem s_46 {z : Mem} (h : Sh z) (f : Nat → Nat → Int32) {k : Nat} (v : Int32) (hk : k < 6) : sI (mkM f z) 46 (wI k) v = some (mkM (up f 46 (upd (f 46) k v)) z) := ok_sI (q := (1, 0, 6, [])) (h 46 (by decide)) rfl rfl f v hk (by decide)
theorem n_46 {z : Mem} (h : Sh z) (f : Nat → Nat → Int32) : aln (mkM f z) 46 = some (wI 6) := ok_aln (q := (1, 0, 6, [])) (h 46 (by decide)) rfl (show (0 : Nat) < 7 by decide) f
theorem l_47 {z : Mem} (h : Sh z) (f : Nat → Nat → Int32) {k : Nat} (hk : k < 6) : lI (mkM f z) 47 (wI k) = some (f 47 k) := ok_lI (q := (1, 0, 6, [])) (h 47 (by decide)) rfl rfl f hk (by decide)
theorem s_47 {z : Mem} (h : Sh z) (f : Nat → Nat → Int32) {k : Nat} (v : Int32) (hk : k < 6) : sI (mkM f z) 47 (wI k) v = some (mkM (up f 47 (upd (f 47) k v)) z) := ok_sI (q := (1, 0, 6, [])) (h 47 (by decide)) rfl rfl f v hk (by decide)
theorem n_47 {z : Mem} (h : Sh z) (f : Nat → Nat → Int32) : aln (mkM f z) 47 = some (wI 6) := ok_aln (q := (1, 0, 6, [])) (h 47 (by decide)) rfl (show (0 : Nat) < 7 by decide) f
theorem l_48 {z : Mem} (h : Sh z) (f : Nat → Nat → Int32) {k : Nat} (hk : k < 6) : lI (mkM f z) 48 (wI k) = some (f 48 k) := ok_lI (q := (1, 0, 6, [])) (h 48 (by decide)) rfl rfl f hk (by decide)
theorem s_48 {z : Mem} (h : Sh z) (f : Nat → Nat → Int32) {k : Nat} (v : Int32) (hk : k < 6) : sI (mkM f z) 48 (wI k) v = some (mkM (up f 48 (upd (f 48) k v)) z) := ok_sI (q := (1, 0, 6, [])) (h 48 (by decide)) rfl rfl f v hk (by decide)
theorem n_48 {z : Mem} (h : Sh z) (f : Nat → Nat → Int32) : aln (mkM f z) 48 = some (wI 6) := ok_aln (q := (1, 0, 6, [])) (h 48 (by decide)) rfl (show (0 : Nat) < 7 by decide) f
theorem l_49 {z : Mem} (h : Sh z) (f : Nat → Nat → Int32) {k : Nat} (hk : k < 6) : lI (mkM f z) 49 (wI k) = some (f 49 k) := ok_lI (q := (1, 0, 6, [])) (h 49 (by decide)) rfl rfl f hk (by decide)
theorem s_49 {z : Mem} (h : Sh z) (f : Nat → Nat → Int32) {k : Nat} (v : Int32) (hk : k < 6) : sI (mkM f z) 49 (wI k) v = some (mkM (up f 49 (upd (f 49) k v)) z) := ok_sI (q := (1, 0, 6, [])) (h 49 (by decide)) rfl rfl f v hk (by decide)
theorem n_49 {z : Mem} (h : Sh z) (f : Nat → Nat → Int32) : aln (mkM f z) 49 = some (wI 6) := ok_aln (q := (1, 0, 6, [])) (h 49 (by decide)) rfl (show (0 : Nat) < 7 by decide) f
theorem l_50 {z : Mem} (h : Sh z) (f : Nat → Nat → Int32) {k : Nat} (hk : k < 6) : lI (mkM f z) 50 (wI k) = some (f 50 k) := ok_lI (q := (1, 0, 6, [])) (h 50 (by decide)) rfl rfl f hk (by decide)
theorem s_50 {z : Mem} (h : Sh z) (f : Nat → Nat → Int32) {k : Nat} (v : Int32) (hk : k < 6) : sI (mkM f z) 50 (wI k) v = some (mkM (up f 50 (upd (f 50) k v)) z) := ok_sI (q := (1, 0, 6, [])) (h 50 (by decide)) rfl rfl f v hk (by decide)
theorem n_50 {z : Mem} (h : Sh z) (f : Nat → Nat → Int32) : aln (mkM f z) 50 = some (wI 6) := ok_aln (q := (1, 0, 6, [])) (h 50 (by decide)) rfl (show (0 : Nat) < 7 by decide) f
theorem c_51 {z : Mem} (h : Sh z) (f : Nat → Nat → Int32) (A B : Option Rs) : (bif isC (mkM f z) 0 51 then A else B) = A := congrArg (fun b => cond b A B) (ok_isC (q := (0, 0, 0, [54, 55, 56, 57, 58, 0, 0])) (h 51 (by decide)) rfl f)
theorem cc_51 {z : Mem} (h : Sh z) (f : Nat → Nat → Int32) : isC (mkM f z) 0 51 = true := ok_isC (q := (0, 0, 0, [54, 55, 56, 57, 58, 0, 0])) (h 51 (by decide)) rfl f
theorem r_51_0 {z : Mem} (h : Sh z) (f : Nat → Nat → Int32) : gR (mkM f z) 0 51 0 = some 52 := ok_gR (q := (0, 0, 0, [54, 55, 56, 57, 58, 0, 0])) (h 51 (by decide)) rfl f rfl
theorem r_51_1 {z : Mem} (h : Sh z) (f : Nat → Nat → Int32) : gR (mkM f z) 0 51 1 = some 53 := ok_gR (q := (0, 0, 0, [54, 55, 56, 57, 58, 0, 0])) (h 51 (by decide)) rfl f rfl
theorem r_51_2 {z : Mem} (h : Sh z) (f : Nat → Nat → Int32) : gR (mkM f z) 0 51 2 = some 54 := ok_gR (q := (0, 0, 0, [54, 55, 56, 57, 58, 0, 0])) (h 51 (by decide)) rfl f rfl
theorem r_51_3 {z : Mem} (h : Sh z) (f : Nat → Nat → Int32) : gR (mkM f z) 0 51 3 = some 55 := ok_gR (q := (0, 0, 0, [54, 55, 56, 57, 58, 0, 0])) (h 51 (by decide)) rfl f rfl
theorem r_51_4 {z : Mem} (h : Sh z) (f : Nat → Nat → Int32) : gR (mkM f z) 0 51 4 = some 56 := ok_gR (q := (0, 0, 0, [54, 55, 56, 57, 58, 0, 0])) (h 51 (by decide)) rfl f rfl
theorem g_51_5 {z : Mem} (h : Sh z) (f : Nat → Nat → Int32) : gI (mkM f z) 0 51 5 = some (f 51 5) := ok_gI (q := (0, 0, 0, [54, 55, 56, 57, 58, 0, 0])) (h 51 (by decide)) rfl f rfl
theorem p_51_5 {z : Mem} (h : Sh z) (f : Nat → Nat → Int32) (v : Int32) : pF (mkM f z) 0 51 5 (.int v) = some (mkM (up f 51 (upd (f 51) 5 v)) z) := ok_pF (q := (0, 0, 0, [54, 55, 56, 57, 58, 0, 0])) (h 51 (by decide)) rfl f rfl v
theorem g_51_6 {z : Mem} (h : Sh z) (f : Nat → Nat → Int32) : gI (mkM f z) 0 51 6 = some (f 51 6) := ok_gI (q := (0, 0, 0, [54, 55, 56, 57, 58, 0, 0])) (h 51 (by decide)) rfl f rfl
theorem p_51_6 {z : Mem} (h : Sh z) (f : Nat → Nat → Int32) (v : Int32) : pF (mkM f z) 0 51 6 (.int v) = some (mkM (up f 51 (upd (f 51) 6 v)) z) := ok_pF (q := (0, 0, 0, [54, 55, 56, 57, 58, 0, 0])) (h 51 (by decide)) rfl f rfl v
theorem l_52 {z : Mem} (h : Sh z) (f : Nat → Nat → Int32) {k : Nat} (hk : k < 7) : lI (mkM f z) 52 (wI k) = some (f 52 k) := ok_lI (q := (1, 0, 7, [])) (h 52 (by decide)) rfl rfl f hk (by decide)
theorem s_52 {z : Mem} (h : Sh z) (f : Nat → Nat → Int32) {k : Nat} (v : Int32) (hk : k < 7) : sI (mkM f z) 52 (wI k) v = some (mkM (up f 52 (upd (f 52) k v)) z) := ok_sI (q := (1, 0, 7, [])) (h 52 (by decide)) rfl rfl f v hk (by decide)
theorem n_52 {z : Mem} (h : Sh z) (f : Nat → Nat → Int32) : aln (mkM f z) 52 = some (wI 7) := ok_aln (q := (1, 0, 7, [])) (h 52 (by decide)) rfl (show (0 : Nat) < 7 by decide) f
theorem l_53 {z : Mem} (h : Sh z) (f : Nat → Nat → Int32) {k : Nat} (hk : k < 7) : lI (mkM f z) 53 (wI k) = some (f 53 k) := ok_lI (q := (1, 0, 7, [])) (h 53 (by decide)) rfl rfl f hk (by decide)
theorem s_53 {z : Mem} (h : Sh z) (f : Nat → Nat → Int32) {k : Nat} (v : Int32) (hk : k < 7) : sI (mkM f z) 53 (wI k) v = some (mkM (up f 53 (upd (f 53) k v)) z) := ok_sI (q := (1, 0, 7, [])) (h 53 (by decide)) rfl rfl f v hk (by decide)
theorem n_53 {z : Mem} (h : Sh z) (f : Nat → Nat → Int32) : aln (mkM f z) 53 = some (wI 7) := ok_aln (q := (1, 0, 7, [])) (h 53 (by decide)) rfl (show (0 : Nat) < 7 by decide) f
theorem l_54 {z : Mem} (h : Sh z) (f : Nat → Nat → Int32) {k : Nat} (hk : k < 7) : lI (mkM f z) 54 (wI k) = some (f 54 k) := ok_lI (q := (1, 0, 7, [])) (h 54 (by decide)) rfl rfl f hk (by decide)
theorem s_54 {z : Mem} (h : Sh z) (f : Nat → Nat → Int32) {k : Nat} (v : Int32) (hk : k < 7) : sI (mkM f z) 54 (wI k) v = some (mkM (up f 54 (upd (f 54) k v)) z) := ok_sI (q := (1, 0, 7, [])) (h 54 (by decide)) rfl rfl f v hk (by decide)
theorem n_54 {z : Mem} (h : Sh z) (f : Nat → Nat → Int32) : aln (mkM f z) 54 = some (wI 7) := ok_aln (q := (1, 0, 7, [])) (h 54 (by decide)) rfl (show (0 : Nat) < 7 by decide) f
theorem l_55 {z : Mem} (h : Sh z) (f : Nat → Nat → Int32) {k : Nat} (hk : k < 10) : lI (mkM f z) 55 (wI k) = some (f 55 k) := ok_lI (q := (1, 0, 10, [])) (h 55 (by decide)) rfl rfl f hk (by decide)
theorem s_55 {z : Mem} (h : Sh z) (f : Nat → Nat → Int32) {k : Nat} (v : Int32) (hk : k < 10) : sI (mkM f z) 55 (wI k) v = some (mkM (up f 55 (upd (f 55) k v)) z) := ok_sI (q := (1, 0, 10, [])) (h 55 (by decide)) rfl rfl f v hk (by decide)
theorem n_55 {z : Mem} (h : Sh z) (f : Nat → Nat → Int32) : aln (mkM f z) 55 = some (wI 10) := ok_aln (q := (1, 0, 10, [])) (h 55 (by decide)) rfl (show (0 : Nat) < 7 by decide) f
theorem l_56 {z : Mem} (h : Sh z) (f : Nat → Nat → Int32) {k : Nat} (hk : k < 10) : lI (mkM f z) 56 (wI k) = some (f 56 k) := ok_lI (q := (1, 0, 10, [])) (h 56 (by decide)) rfl rfl f hk (by decide)
theorem s_56 {z : Mem} (h : Sh z) (f : Nat → Nat → Int32) {k : Nat} (v : Int32) (hk : k < 10) : sI (mkM f z) 56 (wI k) v = some (mkM (up f 56 (upd (f 56) k v)) z) := ok_sI (q := (1, 0, 10, [])) (h 56 (by decide)) rfl rfl f v hk (by decide)
theorem n_56 {z : Mem} (h : Sh z) (f : Nat → Nat → Int32) : aln (mkM f z) 56 = some (wI 10) := ok_aln (q := (1, 0, 10, [])) (h 56 (by decide)) rfl (show (0 : Nat) < 7 by decide) f
theorem l_57 {z : Mem} (h : Sh z) (f : Nat → Nat → Int32) {k : Nat} (hk : k < 5) : lI (mkM f z) 57 (wI k) = some (f 57 k) := ok_lI (q := (1, 0, 5, [])) (h 57 (by decide)) rfl rfl f hk (by decide)
theorem s_57 {z : Mem} (h : Sh z) (f : Nat → Nat → Int32) {k : Nat} (v : Int32) (hk : k < 5) : sI (mkM f z) 57 (wI k) v = some (mkM (up f 57 (upd (f 57) k v)) z) := ok_sI (q := (1, 0, 5, [])) (h 57 (by decide)) rfl rfl f v hk (by decide)
theorem n_57 {z : Mem} (h : Sh z) (f : Nat → Nat → Int32) : aln (mkM f z) 57 = some (wI 5) := ok_aln (q := (1, 0, 5, [])) (h 57 (by decide)) rfl (show (0 : Nat) < 7 by decide) f
theorem c_58 {z : Mem} (h : Sh z) (f : Nat → Nat → Int32) (A B : Option Rs) : (bif isC (mkM f z) 9 58 then A else B) = A := congrArg (fun b => cond b A B) (ok_isC (q := (0, 9, 0, [0, 61, 62, 63, 64, 65, 0, 66, 0, 0, 0, 67, 68, 0, 0, 69, 70, 71, 0, 0, 0, 0, 0, 0, 0, 0, 72, 0, 0, 73, 74, 0, 75, 76, 77, 78, 79, 80, 0, 81, 82, 83, 0, 0, 0, 0, 0, 0, 0, 84, 85, 86, 87, 0, 0, 0])) (h 58 (by decide)) rfl f)
theorem cc_58 {z : Mem} (h : Sh z) (f : Nat → Nat → Int32) : isC (mkM f z) 9 58 = true := ok_isC (q := (0, 9, 0, [0, 61, 62, 63, 64, 65, 0, 66, 0, 0, 0, 67, 68, 0, 0, 69, 70, 71, 0, 0, 0, 0, 0, 0, 0, 0, 72, 0, 0, 73, 74, 0, 75, 76, 77, 78, 79, 80, 0, 81, 82, 83, 0, 0, 0, 0, 0, 0, 0, 84, 85, 86, 87, 0, 0, 0])) (h 58 (by decide)) rfl f
theorem g_58_0 {z : Mem} (h : Sh z) (f : Nat → Nat → Int32) : gI (mkM f z) 9 58 0 = some (f 58 0) := ok_gI (q := (0, 9, 0, [0, 61, 62, 63, 64, 65, 0, 66, 0, 0, 0, 67, 68, 0, 0, 69, 70, 71, 0, 0, 0, 0, 0, 0, 0, 0, 72, 0, 0, 73, 74, 0, 75, 76, 77, 78, 79, 80, 0, 81, 82, 83, 0, 0, 0, 0, 0, 0, 0, 84, 85, 86, 87, 0, 0, 0])) (h 58 (by decide)) rfl f rfl
theorem p_58_0 {z : Mem} (h : Sh z) (f : Nat → Nat → Int32) (v : Int32) : pF (mkM f z) 9 58 0 (.int v) = some (mkM (up f 58 (upd (f 58) 0 v)) z) := ok_pF (q := (0, 9, 0, [0, 61, 62, 63, 64, 65, 0, 66, 0, 0, 0, 67, 68, 0, 0, 69, 70, 71, 0, 0, 0, 0, 0, 0, 0, 0, 72, 0, 0, 73, 74, 0, 75, 76, 77, 78, 79, 80, 0, 81, 82, 83, 0, 0, 0, 0, 0, 0, 0, 84, 85, 86, 87, 0, 0, 0])) (h 58 (by decide)) rfl f rfl v
theorem r_58_1 {z : Mem} (h : Sh z) (f : Nat → Nat → Int32) : gR (mkM f z) 9 58 1 = some 59 := ok_gR (q := (0, 9, 0, [0, 61, 62, 63, 64, 65, 0, 66, 0, 0, 0, 67, 68, 0, 0, 69, 70, 71, 0, 0, 0, 0, 0, 0, 0, 0, 72, 0, 0, 73, 74, 0, 75, 76, 77, 78, 79, 80, 0, 81, 82, 83, 0, 0, 0, 0, 0, 0, 0, 84, 85, 86, 87, 0, 0, 0])) (h 58 (by decide)) rfl f rfl
theorem r_58_2 {z : Mem} (h : Sh z) (f : Nat → Nat → Int32) : gR (mkM f z) 9 58 2 = some 60 := ok_gR (q := (0, 9, 0, [0, 61, 62, 63, 64, 65, 0, 66, 0, 0, 0, 67, 68, 0, 0, 69, 70, 71, 0, 0, 0, 0, 0, 0, 0, 0, 72, 0, 0, 73, 74, 0, 75, 76, 77, 78, 79, 80, 0, 81, 82, 83, 0, 0, 0, 0, 0, 0, 0, 84, 85, 86, 87, 0, 0, 0])) (h 58 (by decide)) rfl f rfl
theorem r_58_3 {z : Mem} (h : Sh z) (f : Nat → Nat → Int32) : gR (mkM f z) 9 58 3 = some 61 := ok_gR (q := (0, 9, 0, [0, 61, 62, 63, 64, 65, 0, 66, 0, 0, 0, 67, 68, 0, 0, 69, 70, 71, 0, 0, 0, 0, 0, 0, 0, 0, 72, 0, 0, 73, 74, 0, 75, 76, 77, 78, 79, 80, 0, 81, 82, 83, 0, 0, 0, 0, 0, 0, 0, 84, 85, 86, 87, 0, 0, 0])) (h 58 (by decide)) rfl f rfl
theorem r_58_4 {z : Mem} (h : Sh z) (f : Nat → Nat → Int32) : gR (mkM f z) 9 58 4 = some 62 := ok_gR (q := (0, 9, 0, [0, 61, 62, 63, 64, 65, 0, 66, 0, 0, 0, 67, 68, 0, 0, 69, 70, 71, 0, 0, 0, 0, 0, 0, 0, 0, 72, 0, 0, 73, 74, 0, 75, 76, 77, 78, 79, 80, 0, 81, 82, 83, 0, 0, 0, 0, 0, 0, 0, 84, 85, 86, 87, 0, 0, 0])) (h 58 (by decide)) rfl f rfl
theorem r_58_5 {z : Mem} (h : Sh z) (f : Nat → Nat → Int32) : gR (mkM f z) 9 58 5 = some 63 := ok_gR (q := (0, 9, 0, [0, 61, 62, 63, 64, 65, 0, 66, 0, 0, 0, 67, 68, 0, 0, 69, 70, 71, 0, 0, 0, 0, 0, 0, 0, 0, 72, 0, 0, 73, 74, 0, 75, 76, 77, 78, 79, 80, 0, 81, 82, 83, 0, 0, 0, 0, 0, 0, 0, 84, 85, 86, 87, 0, 0, 0])) (h 58 (by decide)) rfl f rfl
theorem g_58_6 {z : Mem} (h : Sh z) (f : Nat → Nat → Int32) : gI (mkM f z) 9 58 6 = some (f 58 6) := ok_gI (q := (0, 9, 0, [0, 61, 62, 63, 64, 65, 0, 66, 0, 0, 0, 67, 68, 0, 0, 69, 70, 71, 0, 0, 0, 0, 0, 0, 0, 0, 72, 0, 0, 73, 74, 0, 75, 76, 77, 78, 79, 80, 0, 81, 82, 83, 0, 0, 0, 0, 0, 0, 0, 84, 85, 86, 87, 0, 0, 0])) (h 58 (by decide)) rfl f rfl
theorem p_58_6 {z : Mem} (h : Sh z) (f : Nat → Nat → Int32) (v : Int32) : pF (mkM f z) 9 58 6 (.int v) = some (mkM (up f 58 (upd (f 58) 6 v)) z) := ok_pF (q := (0, 9, 0, [0, 61, 62, 63, 64, 65, 0, 66, 0, 0, 0, 67, 68, 0, 0, 69, 70, 71, 0, 0, 0, 0, 0, 0, 0, 0, 72, 0, 0, 73, 74, 0, 75, 76, 77, 78, 79, 80, 0, 81, 82, 83, 0, 0, 0, 0, 0, 0, 0, 84, 85, 86, 87, 0, 0, 0])) (h 58 (by decide)) rfl f rfl v
theorem r_58_7 {z : Mem} (h : Sh z) (f : Nat → Nat → Int32) : gR (mkM f z) 9 58 7 = some 64 := ok_gR (q := (0, 9, 0, [0, 61, 62, 63, 64, 65, 0, 66, 0, 0, 0, 67, 68, 0, 0, 69, 70, 71, 0, 0, 0, 0, 0, 0, 0, 0, 72, 0, 0, 73, 74, 0, 75, 76, 77, 78, 79, 80, 0, 81, 82, 83, 0, 0, 0, 0, 0, 0, 0, 84, 85, 86, 87, 0, 0, 0])) (h 58 (by decide)) rfl f rfl
theorem g_58_8 {z : Mem} (h : Sh z) (f : Nat → Nat → Int32) : gI (mkM f z) 9 58 8 = some (f 58 8) := ok_gI (q := (0, 9, 0, [0, 61, 62, 63, 64, 65, 0, 66, 0, 0, 0, 67, 68, 0, 0, 69, 70, 71, 0, 0, 0, 0, 0, 0, 0, 0, 72, 0, 0, 73, 74, 0, 75, 76, 77, 78, 79, 80, 0, 81, 82, 83, 0, 0, 0, 0, 0, 0, 0, 84, 85, 86, 87, 0, 0, 0])) (h 58 (by decide)) rfl f rfl
theorem p_58_8 {z : Mem} (h : Sh z) (f : Nat → Nat → Int32) (v : Int32) : pF (mkM f z) 9 58 8 (.int v) = some (mkM (up f 58 (upd (f 58) 8 v)) z) := ok_pF (q := (0, 9, 0, [0, 61, 62, 63, 64, 65, 0, 66, 0, 0, 0, 67, 68, 0, 0, 69, 70, 71, 0, 0, 0, 0, 0, 0, 0, 0, 72, 0, 0, 73, 74, 0, 75, 76, 77, 78, 79, 80, 0, 81, 82, 83, 0, 0, 0, 0, 0, 0, 0, 84, 85, 86, 87, 0, 0, 0])) (h 58 (by decide)) rfl f rfl v
theorem g_58_9 {z : Mem} (h : Sh z) (f : Nat → Nat → Int32) : gI (mkM f z) 9 58 9 = some (f 58 9) := ok_gI (q := (0, 9, 0, [0, 61, 62, 63, 64, 65, 0, 66, 0, 0, 0, 67, 68, 0, 0, 69, 70, 71, 0, 0, 0, 0, 0, 0, 0, 0, 72, 0, 0, 73, 74, 0, 75, 76, 77, 78, 79, 80, 0, 81, 82, 83, 0, 0, 0, 0, 0, 0, 0, 84, 85, 86, 87, 0, 0, 0])) (h 58 (by decide)) rfl f rfl
theorem p_58_9 {z : Mem} (h : Sh z) (f : Nat → Nat → Int32) (v : Int32) : pF (mkM f z) 9 58 9 (.int v) = some (mkM (up f 58 (upd (f 58) 9 v)) z) := ok_pF (q := (0, 9, 0, [0, 61, 62, 63, 64, 65, 0, 66, 0, 0, 0, 67, 68, 0, 0, 69, 70, 71, 0, 0, 0, 0, 0, 0, 0, 0, 72, 0, 0, 73, 74, 0, 75, 76, 77, 78, 79, 80, 0, 81, 82, 83, 0, 0, 0, 0, 0, 0, 0, 84, 85, 86, 87, 0, 0, 0])) (h 58 (by decide)) rfl f rfl v
theorem g_58_10 {z : Mem} (h : Sh z) (f : Nat → Nat → Int32) : gI (mkM f z) 9 58 10 = some (f 58 10) := ok_gI (q := (0, 9, 0, [0, 61, 62, 63, 64, 65, 0, 66, 0, 0, 0, 67, 68, 0, 0, 69, 70, 71, 0, 0, 0, 0, 0, 0, 0, 0, 72, 0, 0, 73, 74, 0, 75, 76, 77, 78, 79, 80, 0, 81, 82, 83, 0, 0, 0, 0, 0, 0, 0, 84, 85, 86, 87, 0, 0, 0])) (h 58 (by decide)) rfl f rfl
theorem p_58_10 {z : Mem} (h : Sh z) (f : Nat → Nat → Int32) (v : Int32) : pF (mkM f z) 9 58 10 (.int v) = some (mkM (up f 58 (upd (f 58) 10 v)) z) := ok_pF (q := (0, 9, 0, [0, 61, 62, 63, 64, 65, 0, 66, 0, 0, 0, 67, 68, 0, 0, 69, 70, 71, 0, 0, 0, 0, 0, 0, 0, 0, 72, 0, 0, 73, 74, 0, 75, 76, 77, 78, 79, 80, 0, 81, 82, 83, 0, 0, 0, 0, 0, 0, 0, 84, 85, 86, 87, 0, 0, 0])) (h 58 (by decide)) rfl f rfl v
theorem r_58_11 {z : Mem} (h : Sh z) (f : Nat → Nat → Int32) : gR (mkM f z) 9 58 11 = some 65 := ok_gR (q := (0, 9, 0, [0, 61, 62, 63, 64, 65, 0, 66, 0, 0, 0, 67, 68, 0, 0, 69, 70, 71, 0, 0, 0, 0, 0, 0, 0, 0, 72, 0, 0, 73, 74, 0, 75, 76, 77, 78, 79, 80, 0, 81, 82, 83, 0, 0, 0, 0, 0, 0, 0, 84, 85, 86, 87, 0, 0, 0])) (h 58 (by decide)) rfl f rfl
theorem r_58_12 {z : Mem} (h : Sh z) (f : Nat → Nat → Int32) : gR (mkM f z) 9 58 12 = some 66 := ok_gR (q := (0, 9, 0, [0, 61, 62, 63, 64, 65, 0, 66, 0, 0, 0, 67, 68, 0, 0, 69, 70, 71, 0, 0, 0, 0, 0, 0, 0, 0, 72, 0, 0, 73, 74, 0, 75, 76, 77, 78, 79, 80, 0, 81, 82, 83, 0, 0, 0, 0, 0, 0, 0, 84, 85, 86, 87, 0, 0, 0])) (h 58 (by decide)) rfl f rfl
theorem g_58_13 {z : Mem} (h : Sh z) (f : Nat → Nat → Int32) : gI (mkM f z) 9 58 13 = some (f 58 13) := ok_gI (q := (0, 9, 0, [0, 61, 62, 63, 64, 65, 0, 66, 0, 0, 0, 67, 68, 0, 0, 69, 70, 71, 0, 0, 0, 0, 0, 0, 0, 0, 72, 0, 0, 73, 74, 0, 75, 76, 77, 78, 79, 80, 0, 81, 82, 83, 0, 0, 0, 0, 0, 0, 0, 84, 85, 86, 87, 0, 0, 0])) (h 58 (by decide)) rfl f rfl
theorem p_58_13 {z : Mem} (h : Sh z) (f : Nat → Nat → Int32) (v : Int32) : pF (mkM f z) 9 58 13 (.int v) = some (mkM (up f 58 (upd (f 58) 13 v)) z) := ok_pF (q := (0, 9, 0, [0, 61, 62, 63, 64, 65, 0, 66, 0, 0, 0, 67, 68, 0, 0, 69, 70, 71, 0, 0, 0, 0, 0, 0, 0, 0, 72, 0, 0, 73, 74, 0, 75, 76, 77, 78, 79, 80, 0, 81, 82, 83, 0, 0, 0, 0, 0, 0, 0, 84, 85, 86, 87, 0, 0, 0])) (h 58 (by decide)) rfl f rfl v
theorem g_58_14 {z : Mem} (h : Sh z) (f : Nat → Nat → Int32) : gI (mkM f z) 9 58 14 = some (f 58 14) := ok_gI (q := (0, 9, 0, [0, 61, 62, 63, 64, 65, 0, 66, 0, 0, 0, 67, 68, 0, 0, 69, 70, 71, 0, 0, 0, 0, 0, 0, 0, 0, 72, 0, 0, 73, 74, 0, 75, 76, 77, 78, 79, 80, 0, 81, 82, 83, 0, 0, 0, 0, 0, 0, 0, 84, 85, 86, 87, 0, 0, 0])) (h 58 (by decide)) rfl f rfl
theorem p_58_14 {z : Mem} (h : Sh z) (f : Nat → Nat → Int32) (v : Int32) : pF (mkM f z) 9 58 14 (.int v) = some (mkM (up f 58 (upd (f 58) 14 v)) z) := ok_pF (q := (0, 9, 0, [0, 61, 62, 63, 64, 65, 0, 66, 0, 0, 0, 67, 68, 0, 0, 69, 70, 71, 0, 0, 0, 0, 0, 0, 0, 0, 72, 0, 0, 73, 74, 0, 75, 76, 77, 78, 79, 80, 0, 81, 82, 83, 0, 0, 0, 0, 0, 0, 0, 84, 85, 86, 87, 0, 0, 0])) (h 58 (by decide)) rfl f rfl v
theorem r_58_15 {z : Mem} (h : Sh z) (f : Nat → Nat → Int32) : gR (mkM f z) 9 58 15 = some 67 := ok_gR (q := (0, 9, 0, [0, 61, 62, 63, 64, 65, 0, 66, 0, 0, 0, 67, 68, 0, 0, 69, 70, 71, 0, 0, 0, 0, 0, 0, 0, 0, 72, 0, 0, 73, 74, 0, 75, 76, 77, 78, 79, 80, 0, 81, 82, 83, 0, 0, 0, 0, 0, 0, 0, 84, 85, 86, 87, 0, 0, 0])) (h 58 (by decide)) rfl f rfl
theorem r_58_16 {z : Mem} (h : Sh z) (f : Nat → Nat → Int32) : gR (mkM f z) 9 58 16 = some 68 := ok_gR (q := (0, 9, 0, [0, 61, 62, 63, 64, 65, 0, 66, 0, 0, 0, 67, 68, 0, 0, 69, 70, 71, 0, 0, 0, 0, 0, 0, 0, 0, 72, 0, 0, 73, 74, 0, 75, 76, 77, 78, 79, 80, 0, 81, 82, 83, 0, 0, 0, 0, 0, 0, 0, 84, 85, 86, 87, 0, 0, 0])) (h 58 (by decide)) rfl f rfl
theorem r_58_17 {z : Mem} (h : Sh z) (f : Nat → Nat → Int32) : gR (mkM f z) 9 58 17 = some 69 := ok_gR (q := (0, 9, 0, [0, 61, 62, 63, 64, 65, 0, 66, 0, 0, 0, 67, 68, 0, 0, 69, 70, 71, 0, 0, 0, 0, 0, 0, 0, 0, 72, 0, 0, 73, 74, 0, 75, 76, 77, 78, 79, 80, 0, 81, 82, 83, 0, 0, 0, 0, 0, 0, 0, 84, 85, 86, 87, 0, 0, 0])) (h 58 (by decide)) rfl f rfl
theorem g_58_18 {z : Mem} (h : Sh z) (f : Nat → Nat → Int32) : gI (mkM f z) 9 58 18 = some (f 58 18) := ok_gI (q := (0, 9, 0, [0, 61, 62, 63, 64, 65, 0, 66, 0, 0, 0, 67, 68, 0, 0, 69, 70, 71, 0, 0, 0, 0, 0, 0, 0, 0, 72, 0, 0, 73, 74, 0, 75, 76, 77, 78, 79, 80, 0, 81, 82, 83, 0, 0, 0, 0, 0, 0, 0, 84, 85, 86, 87, 0, 0, 0])) (h 58 (by decide)) rfl f rfl
theorem p_58_18 {z : Mem} (h : Sh z) (f : Nat → Nat → Int32) (v : Int32) : pF (mkM f z) 9 58 18 (.int v) = some (mkM (up f 58 (upd (f 58) 18 v)) z) := ok_pF (q := (0, 9, 0, [0, 61, 62, 63, 64, 65, 0, 66, 0, 0, 0, 67, 68, 0, 0, 69, 70, 71, 0, 0, 0, 0, 0, 0, 0, 0, 72, 0, 0, 73, 74, 0, 75, 76, 77, 78, 79, 80, 0, 81, 82, 83, 0, 0, 0, 0, 0, 0, 0, 84, 85, 86, 87, 0, 0, 0])) (h 58 (by decide)) rfl f rfl v
theorem g_58_19 {z : Mem} (h : Sh z) (f : Nat → Nat → Int32) : gI (mkM f z) 9 58 19 = some (f 58 19) := ok_gI (q := (0, 9, 0, [0, 61, 62, 63, 64, 65, 0, 66, 0, 0, 0, 67, 68, 0, 0, 69, 70, 71, 0, 0, 0, 0, 0, 0, 0, 0, 72, 0, 0, 73, 74, 0, 75, 76, 77, 78, 79, 80, 0, 81, 82, 83, 0, 0, 0, 0, 0, 0, 0, 84, 85, 86, 87, 0, 0, 0])) (h 58 (by decide)) rfl f rfl
theorem p_58_19 {z : Mem} (h : Sh z) (f : Nat → Nat → Int32) (v : Int32) : pF (mkM f z) 9 58 19 (.int v) = some (mkM (up f 58 (upd (f 58) 19 v)) z) := ok_pF (q := (0, 9, 0, [0, 61, 62, 63, 64, 65, 0, 66, 0, 0, 0, 67, 68, 0, 0, 69, 70, 71, 0, 0, 0, 0, 0, 0, 0, 0, 72, 0, 0, 73, 74, 0, 75, 76, 77, 78, 79, 80, 0, 81, 82, 83, 0, 0, 0, 0, 0, 0, 0, 84, 85, 86, 87, 0, 0, 0])) (h 58 (by decide)) rfl f rfl v
theorem g_58_20 {z : Mem} (h : Sh z) (f : Nat → Nat → Int32) : gI (mkM f z) 9 58 20 = some (f 58 20) := ok_gI (q := (0, 9, 0, [0, 61, 62, 63, 64, 65, 0, 66, 0, 0, 0, 67, 68, 0, 0, 69, 70, 71, 0, 0, 0, 0, 0, 0, 0, 0, 72, 0, 0, 73, 74, 0, 75, 76, 77, 78, 79, 80, 0, 81, 82, 83, 0, 0, 0, 0, 0, 0, 0, 84, 85, 86, 87, 0, 0, 0])) (h 58 (by decide)) rfl f rfl
theorem p_58_20 {z : Mem} (h : Sh z) (f : Nat → Nat → Int32) (v : Int32) : pF (mkM f z) 9 58 20 (.int v) = some (mkM (up f 58 (upd (f 58) 20 v)) z) := ok_pF (q := (0, 9, 0, [0, 61, 62, 63, 64, 65, 0, 66, 0, 0, 0, 67, 68, 0, 0, 69, 70, 71, 0, 0, 0, 0, 0, 0, 0, 0, 72, 0, 0, 73, 74, 0, 75, 76, 77, 78, 79, 80, 0, 81, 82, 83, 0, 0, 0, 0, 0, 0, 0, 84, 85, 86, 87, 0, 0, 0])) (h 58 (by decide)) rfl f rfl v
theorem g_58_21 {z : Mem} (h : Sh z) (f : Nat → Nat → Int32) : gI (mkM f z) 9 58 21 = some (f 58 21) := ok_gI (q := (0, 9, 0, [0, 61, 62, 63, 64, 65, 0, 66, 0, 0, 0, 67, 68, 0, 0, 69, 70, 71, 0, 0, 0, 0, 0, 0, 0, 0, 72, 0, 0, 73, 74, 0, 75, 76, 77, 78, 79, 80, 0, 81, 82, 83, 0, 0, 0, 0, 0, 0, 0, 84, 85, 86, 87, 0, 0, 0])) (h 58 (by decide)) rfl f rfl
theorem p_58_21 {z : Mem} (h : Sh z) (f : Nat → Nat → Int32) (v : Int32) : pF (mkM f z) 9 58 21 (.int v) = some (mkM (up f 58 (upd (f 58) 21 v)) z) := ok_pF (q := (0, 9, 0, [0, 61, 62, 63, 64, 65, 0, 66, 0, 0, 0, 67, 68, 0, 0, 69, 70, 71, 0, 0, 0, 0, 0, 0, 0, 0, 72, 0, 0, 73, 74, 0, 75, 76, 77, 78, 79, 80, 0, 81, 82, 83, 0, 0, 0, 0, 0, 0, 0, 84, 85, 86, 87, 0, 0, 0])) (h 58 (by decide)) rfl f rfl v
theorem g_58_22 {z : Mem} (h : Sh z) (f : Nat → Nat → Int32) : gI (mkM f z) 9 58 22 = some (f 58 22) := ok_gI (q := (0, 9, 0, [0, 61, 62, 63, 64, 65, 0, 66, 0, 0, 0, 67, 68, 0, 0, 69, 70, 71, 0, 0, 0, 0, 0, 0, 0, 0, 72, 0, 0, 73, 74, 0, 75, 76, 77, 78, 79, 80, 0, 81, 82, 83, 0, 0, 0, 0, 0, 0, 0, 84, 85, 86, 87, 0, 0, 0])) (h 58 (by decide)) rfl f rfl
theorem p_58_22 {z : Mem} (h : Sh z) (f : Nat → Nat → Int32) (v : Int32) : pF (mkM f z) 9 58 22 (.int v) = some (mkM (up f 58 (upd (f 58) 22 v)) z) := ok_pF (q := (0, 9, 0, [0, 61, 62, 63, 64, 65, 0, 66, 0, 0, 0, 67, 68, 0, 0, 69, 70, 71, 0, 0, 0, 0, 0, 0, 0, 0, 72, 0, 0, 73, 74, 0, 75, 76, 77, 78, 79, 80, 0, 81, 82, 83, 0, 0, 0, 0, 0, 0, 0, 84, 85, 86, 87, 0, 0, 0])) (h 58 (by decide)) rfl f rfl v
theorem g_58_23 {z : Mem} (h : Sh z) (f : Nat → Nat → Int32) : gI (mkM f z) 9 58 23 = some (f 58 23) := ok_gI (q := (0, 9, 0, [0, 61, 62, 63, 64, 65, 0, 66, 0, 0, 0, 67, 68, 0, 0, 69, 70, 71, 0, 0, 0, 0, 0, 0, 0, 0, 72, 0, 0, 73, 74, 0, 75, 76, 77, 78, 79, 80, 0, 81, 82, 83, 0, 0, 0, 0, 0, 0, 0, 84, 85, 86, 87, 0, 0, 0])) (h 58 (by decide)) rfl f rfl
theorem p_58_23 {z : Mem} (h : Sh z) (f : Nat → Nat → Int32) (v : Int32) : pF (mkM f z) 9 58 23 (.int v) = some (mkM (up f 58 (upd (f 58) 23 v)) z) := ok_pF (q := (0, 9, 0, [0, 61, 62, 63, 64, 65, 0, 66, 0, 0, 0, 67, 68, 0, 0, 69, 70, 71, 0, 0, 0, 0, 0, 0, 0, 0, 72, 0, 0, 73, 74, 0, 75, 76, 77, 78, 79, 80, 0, 81, 82, 83, 0, 0, 0, 0, 0, 0, 0, 84, 85, 86, 87, 0, 0, 0])) (h 58 (by decide)) rfl f rfl v
theorem g_58_24 {z : Mem} (h : Sh z) (f : Nat → Nat → Int32) : gI (mkM f z) 9 58 24 = some (f 58 24) := ok_gI (q := (0, 9, 0, [0, 61, 62, 63, 64, 65, 0, 66, 0, 0, 0, 67, 68, 0, 0, 69, 70, 71, 0, 0, 0, 0, 0, 0, 0, 0, 72, 0, 0, 73, 74, 0, 75, 76, 77, 78, 79, 80, 0, 81, 82, 83, 0, 0, 0, 0, 0, 0, 0, 84, 85, 86, 87, 0, 0, 0])) (h 58 (by decide)) rfl f rfl
theorem p_58_24 {z : Mem} (h : Sh z) (f : Nat → Nat → Int32) (v : Int32) : pF (mkM f z) 9 58 24 (.int v) = some (mkM (up f 58 (upd (f 58) 24 v)) z) := ok_pF (q := (0, 9, 0, [0, 61, 62, 63, 64, 65, 0, 66, 0, 0, 0, 67, 68, 0, 0, 69, 70, 71, 0, 0, 0, 0, 0, 0, 0, 0, 72, 0, 0, 73, 74, 0, 75, 76, 77, 78, 79, 80, 0, 81, 82, 83, 0, 0, 0, 0, 0, 0, 0, 84, 85, 86, 87, 0, 0, 0])) (h 58 (by decide)) rfl f rfl v
theorem g_58_25 {z : Mem} (h : Sh z) (f : Nat → Nat → Int32) : gI (mkM f z) 9 58 25 = some (f 58 25) := ok_gI (q := (0, 9, 0, [0, 61, 62, 63, 64, 65, 0, 66, 0, 0, 0, 67, 68, 0, 0, 69, 70, 71, 0, 0, 0, 0, 0, 0, 0, 0, 72, 0, 0, 73, 74, 0, 75, 76, 77, 78, 79, 80, 0, 81, 82, 83, 0, 0, 0, 0, 0, 0, 0, 84, 85, 86, 87, 0, 0, 0])) (h 58 (by decide)) rfl f rfl
theorem p_58_25 {z : Mem} (h : Sh z) (f : Nat → Nat → Int32) (v : Int32) : pF (mkM f z) 9 58 25 (.int v) = some (mkM (up f 58 (upd (f 58) 25 v)) z) := ok_pF (q := (0, 9, 0, [0, 61, 62, 63, 64, 65, 0, 66, 0, 0, 0, 67, 68, 0, 0, 69, 70, 71, 0, 0, 0, 0, 0, 0, 0, 0, 72, 0, 0, 73, 74, 0, 75, 76, 77, 78, 79, 80, 0, 81, 82, 83, 0, 0, 0, 0, 0, 0, 0, 84, 85, 86, 87, 0, 0, 0])) (h 58 (by decide)) rfl f rfl v
theorem r_58_26 {z : Mem} (h : Sh z) (f : Nat → Nat → Int32) : gR (mkM f z) 9 58 26 = some 70 := ok_gR (q := (0, 9, 0, [0, 61, 62, 63, 64, 65, 0, 66, 0, 0, 0, 67, 68, 0, 0, 69, 70, 71, 0, 0, 0, 0, 0, 0, 0, 0, 72, 0, 0, 73, 74, 0, 75, 76, 77, 78, 79, 80, 0, 81, 82, 83, 0, 0, 0, 0, 0, 0, 0, 84, 85, 86, 87, 0, 0, 0])) (h 58 (by decide)) rfl f rfl
theorem g_58_27 {z : Mem} (h : Sh z) (f : Nat → Nat → Int32) : gI (mkM f z) 9 58 27 = some (f 58 27) := ok_gI (q := (0, 9, 0, [0, 61, 62, 63, 64, 65, 0, 66, 0, 0, 0, 67, 68, 0, 0, 69, 70, 71, 0, 0, 0, 0, 0, 0, 0, 0, 72, 0, 0, 73, 74, 0, 75, 76, 77, 78, 79, 80, 0, 81, 82, 83, 0, 0, 0, 0, 0, 0, 0, 84, 85, 86, 87, 0, 0, 0])) (h 58 (by decide)) rfl f rfl
theorem p_58_27 {z : Mem} (h : Sh z) (f : Nat → Nat → Int32) (v : Int32) : pF (mkM f z) 9 58 27 (.int v) = some (mkM (up f 58 (upd (f 58) 27 v)) z) := ok_pF (q := (0, 9, 0, [0, 61, 62, 63, 64, 65, 0, 66, 0, 0, 0, 67, 68, 0, 0, 69, 70, 71, 0, 0, 0, 0, 0, 0, 0, 0, 72, 0, 0, 73, 74, 0, 75, 76, 77, 78, 79, 80, 0, 81, 82, 83, 0, 0, 0, 0, 0, 0, 0, 84, 85, 86, 87, 0, 0, 0])) (h 58 (by decide)) rfl f rfl v
theorem g_58_28 {z : Mem} (h : Sh z) (f : Nat → Nat → Int32) : gI (mkM f z) 9 58 28 = some (f 58 28) := ok_gI (q := (0, 9, 0, [0, 61, 62, 63, 64, 65, 0, 66, 0, 0, 0, 67, 68, 0, 0, 69, 70, 71, 0, 0, 0, 0, 0, 0, 0, 0, 72, 0, 0, 73, 74, 0, 75, 76, 77, 78, 79, 80, 0, 81, 82, 83, 0, 0, 0, 0, 0, 0, 0, 84, 85, 86, 87, 0, 0, 0])) (h 58 (by decide)) rfl f rfl
theorem p_58_28 {z : Mem} (h : Sh z) (f : Nat → Nat → Int32) (v : Int32) : pF (mkM f z) 9 58 28 (.int v) = some (mkM (up f 58 (upd (f 58) 28 v)) z) := ok_pF (q := (0, 9, 0, [0, 61, 62, 63, 64, 65, 0, 66, 0, 0, 0, 67, 68, 0, 0, 69, 70, 71, 0, 0, 0, 0, 0, 0, 0, 0, 72, 0, 0, 73, 74, 0, 75, 76, 77, 78, 79, 80, 0, 81, 82, 83, 0, 0, 0, 0, 0, 0, 0, 84, 85, 86, 87, 0, 0, 0])) (h 58 (by decide)) rfl f rfl v
theorem r_58_29 {z : Mem} (h : Sh z) (f : Nat → Nat → Int32) : gR (mkM f z) 9 58 29 = some 71 := ok_gR (q := (0, 9, 0, [0, 61, 62, 63, 64, 65, 0, 66, 0, 0, 0, 67, 68, 0, 0, 69, 70, 71, 0, 0, 0, 0, 0, 0, 0, 0, 72, 0, 0, 73, 74, 0, 75, 76, 77, 78, 79, 80, 0, 81, 82, 83, 0, 0, 0, 0, 0, 0, 0, 84, 85, 86, 87, 0, 0, 0])) (h 58 (by decide)) rfl f rfl
theorem r_58_30 {z : Mem} (h : Sh z) (f : Nat → Nat → Int32) : gR (mkM f z) 9 58 30 = some 72 := ok_gR (q := (0, 9, 0, [0, 61, 62, 63, 64, 65, 0, 66, 0, 0, 0, 67, 68, 0, 0, 69, 70, 71, 0, 0, 0, 0, 0, 0, 0, 0, 72, 0, 0, 73, 74, 0, 75, 76, 77, 78, 79, 80, 0, 81, 82, 83, 0, 0, 0, 0, 0, 0, 0, 84, 85, 86, 87, 0, 0, 0])) (h 58 (by decide)) rfl f rfl
theorem g_58_31 {z : Mem} (h : Sh z) (f : Nat → Nat → Int32) : gI (mkM f z) 9 58 31 = some (f 58 31) := ok_gI (q := (0, 9, 0, [0, 61, 62, 63, 64, 65, 0, 66, 0, 0, 0, 67, 68, 0, 0, 69, 70, 71, 0, 0, 0, 0, 0, 0, 0, 0, 72, 0, 0, 73, 74, 0, 75, 76, 77, 78, 79, 80, 0, 81, 82, 83, 0, 0, 0, 0, 0, 0, 0, 84, 85, 86, 87, 0, 0, 0])) (h 58 (by decide)) rfl f rfl
theorem p_58_31 {z : Mem} (h : Sh z) (f : Nat → Nat → Int32) (v : Int32) : pF (mkM f z) 9 58 31 (.int v) = some (mkM (up f 58 (upd (f 58) 31 v)) z) := ok_pF (q := (0, 9, 0, [0, 61, 62, 63, 64, 65, 0, 66, 0, 0, 0, 67, 68, 0, 0, 69, 70, 71, 0, 0, 0, 0, 0, 0, 0, 0, 72, 0, 0, 73, 74, 0, 75, 76, 77, 78, 79, 80, 0, 81, 82, 83, 0, 0, 0, 0, 0, 0, 0, 84, 85, 86, 87, 0, 0, 0])) (h 58 (by decide)) rfl f rfl v
theorem r_58_32 {z : Mem} (h : Sh z) (f : Nat → Nat → Int32) : gR (mkM f z) 9 58 32 = some 73 := ok_gR (q := (0, 9, 0, [0, 61, 62, 63, 64, 65, 0, 66, 0, 0, 0, 67, 68, 0, 0, 69, 70, 71, 0, 0, 0, 0, 0, 0, 0, 0, 72, 0, 0, 73, 74, 0, 75, 76, 77, 78, 79, 80, 0, 81, 82, 83, 0, 0, 0, 0, 0, 0, 0, 84, 85, 86, 87, 0, 0, 0])) (h 58 (by decide)) rfl f rfl
theorem r_58_33 {z : Mem} (h : Sh z) (f : Nat → Nat → Int32) : gR (mkM f z) 9 58 33 = some 74 := ok_gR (q := (0, 9, 0, [0, 61, 62, 63, 64, 65, 0, 66, 0, 0, 0, 67, 68, 0, 0, 69, 70, 71, 0, 0, 0, 0, 0, 0, 0, 0, 72, 0, 0, 73, 74, 0, 75, 76, 77, 78, 79, 80, 0, 81, 82, 83, 0, 0, 0, 0, 0, 0, 0, 84, 85, 86, 87, 0, 0, 0])) (h 58 (by decide)) rfl f rfl
theorem r_58_34 {z : Mem} (h : Sh z) (f : Nat → Nat → Int32) : gR (mkM f z) 9 58 34 = some 75 := ok_gR (q := (0, 9, 0, [0, 61, 62, 63, 64, 65, 0, 66, 0, 0, 0, 67, 68, 0, 0, 69, 70, 71, 0, 0, 0, 0, 0, 0, 0, 0, 72, 0, 0, 73, 74, 0, 75, 76, 77, 78, 79, 80, 0, 81, 82, 83, 0, 0, 0, 0, 0, 0, 0, 84, 85, 86, 87, 0, 0, 0])) (h 58 (by decide)) rfl f rfl
theorem r_58_35 {z : Mem} (h : Sh z) (f : Nat → Nat → Int32) : gR (mkM f z) 9 58 35 = some 76 := ok_gR (q := (0, 9, 0, [0, 61, 62, 63, 64, 65, 0, 66, 0, 0, 0, 67, 68, 0, 0, 69, 70, 71, 0, 0, 0, 0, 0, 0, 0, 0, 72, 0, 0, 73, 74, 0, 75, 76, 77, 78, 79, 80, 0, 81, 82, 83, 0, 0, 0, 0, 0, 0, 0, 84, 85, 86, 87, 0, 0, 0])) (h 58 (by decide)) rfl f rfl
theorem r_58_36 {z : Mem} (h : Sh z) (f : Nat → Nat → Int32) : gR (mkM f z) 9 58 36 = some 77 := ok_gR (q := (0, 9, 0, [0, 61, 62, 63, 64, 65, 0, 66, 0, 0, 0, 67, 68, 0, 0, 69, 70, 71, 0, 0, 0, 0, 0, 0, 0, 0, 72, 0, 0, 73, 74, 0, 75, 76, 77, 78, 79, 80, 0, 81, 82, 83, 0, 0, 0, 0, 0, 0, 0, 84, 85, 86, 87, 0, 0, 0])) (h 58 (by decide)) rfl f rfl
theorem r_58_37 {z : Mem} (h : Sh z) (f : Nat → Nat → Int32) : gR (mkM f z) 9 58 37 = some 78 := ok_gR (q := (0, 9, 0, [0, 61, 62, 63, 64, 65, 0, 66, 0, 0, 0, 67, 68, 0, 0, 69, 70, 71, 0, 0, 0, 0, 0, 0, 0, 0, 72, 0, 0, 73, 74, 0, 75, 76, 77, 78, 79, 80, 0, 81, 82, 83, 0, 0, 0, 0, 0, 0, 0, 84, 85, 86, 87, 0, 0, 0])) (h 58 (by decide)) rfl f rfl
theorem g_58_38 {z : Mem} (h : Sh z) (f : Nat → Nat → Int32) : gI (mkM f z) 9 58 38 = some (f 58 38) := ok_gI (q := (0, 9, 0, [0, 61, 62, 63, 64, 65, 0, 66, 0, 0, 0, 67, 68, 0, 0, 69, 70, 71, 0, 0, 0, 0, 0, 0, 0, 0, 72, 0, 0, 73, 74, 0, 75, 76, 77, 78, 79, 80, 0, 81, 82, 83, 0, 0, 0, 0, 0, 0, 0, 84, 85, 86, 87, 0, 0, 0])) (h 58 (by decide)) rfl f rfl
theorem p_58_38 {z : Mem} (h : Sh z) (f : Nat → Nat → Int32) (v : Int32) : pF (mkM f z) 9 58 38 (.int v) = some (mkM (up f 58 (upd (f 58) 38 v)) z) := ok_pF (q := (0, 9, 0, [0, 61, 62, 63, 64, 65, 0, 66, 0, 0, 0, 67, 68, 0, 0, 69, 70, 71, 0, 0, 0, 0, 0, 0, 0, 0, 72, 0, 0, 73, 74, 0, 75, 76, 77, 78, 79, 80, 0, 81, 82, 83, 0, 0, 0, 0, 0, 0, 0, 84, 85, 86, 87, 0, 0, 0])) (h 58 (by decide)) rfl f rfl v
theorem r_58_39 {z : Mem} (h : Sh z) (f : Nat → Nat → Int32) : gR (mkM f z) 9 58 39 = some 79 := ok_gR (q := (0, 9, 0, [0, 61, 62, 63, 64, 65, 0, 66, 0, 0, 0, 67, 68, 0, 0, 69, 70, 71, 0, 0, 0, 0, 0, 0, 0, 0, 72, 0, 0, 73, 74, 0, 75, 76, 77, 78, 79, 80, 0, 81, 82, 83, 0, 0, 0, 0, 0, 0, 0, 84, 85, 86, 87, 0, 0, 0])) (h 58 (by decide)) rfl f rfl
theorem r_58_40 {z : Mem} (h : Sh z) (f : Nat → Nat → Int32) : gR (mkM f z) 9 58 40 = some 80 := ok_gR (q := (0, 9, 0, [0, 61, 62, 63, 64, 65, 0, 66, 0, 0, 0, 67, 68, 0, 0, 69, 70, 71, 0, 0, 0, 0, 0, 0, 0, 0, 72, 0, 0, 73, 74, 0, 75, 76, 77, 78, 79, 80, 0, 81, 82, 83, 0, 0, 0, 0, 0, 0, 0, 84, 85, 86, 87, 0, 0, 0])) (h 58 (by decide)) rfl f rfl
theorem r_58_41 {z : Mem} (h : Sh z) (f : Nat → Nat → Int32) : gR (mkM f z) 9 58 41 = some 81 := ok_gR (q := (0, 9, 0, [0, 61, 62, 63, 64, 65, 0, 66, 0, 0, 0, 67, 68, 0, 0, 69, 70, 71, 0, 0, 0, 0, 0, 0, 0, 0, 72, 0, 0, 73, 74, 0, 75, 76, 77, 78, 79, 80, 0, 81, 82, 83, 0, 0, 0, 0, 0, 0, 0, 84, 85, 86, 87, 0, 0, 0])) (h 58 (by decide)) rfl f rfl
theorem g_58_42 {z : Mem} (h : Sh z) (f : Nat → Nat → Int32) : gI (mkM f z) 9 58 42 = some (f 58 42) := ok_gI (q := (0, 9, 0, [0, 61, 62, 63, 64, 65, 0, 66, 0, 0, 0, 67, 68, 0, 0, 69, 70, 71, 0, 0, 0, 0, 0, 0, 0, 0, 72, 0, 0, 73, 74, 0, 75, 76, 77, 78, 79, 80, 0, 81, 82, 83, 0, 0, 0, 0, 0, 0, 0, 84, 85, 86, 87, 0, 0, 0])) (h 58 (by decide)) rfl f rfl
theorem p_58_42 {z : Mem} (h : Sh z) (f : Nat → Nat → Int32) (v : Int32) : pF (mkM f z) 9 58 42 (.int v) = some (mkM (up f 58 (upd (f 58) 42 v)) z) := ok_pF (q := (0, 9, 0, [0, 61, 62, 63, 64, 65, 0, 66, 0, 0, 0, 67, 68, 0, 0, 69, 70, 71, 0, 0, 0, 0, 0, 0, 0, 0, 72, 0, 0, 73, 74, 0, 75, 76, 77, 78, 79, 80, 0, 81, 82, 83, 0, 0, 0, 0, 0, 0, 0, 84, 85, 86, 87, 0, 0, 0])) (h 58 (by decide)) rfl f rfl v
theorem g_58_43 {z : Mem} (h : Sh z) (f : Nat → Nat → Int32) : gI (mkM f z) 9 58 43 = some (f 58 43) := ok_gI (q := (0, 9, 0, [0, 61, 62, 63, 64, 65, 0, 66, 0, 0, 0, 67, 68, 0, 0, 69, 70, 71, 0, 0, 0, 0, 0, 0, 0, 0, 72, 0, 0, 73, 74, 0, 75, 76, 77, 78, 79, 80, 0, 81, 82, 83, 0, 0, 0, 0, 0, 0, 0, 84, 85, 86, 87, 0, 0, 0])) (h 58 (by decide)) rfl f rfl
theorem p_58_43 {z : Mem} (h : Sh z) (f : Nat → Nat → Int32) (v : Int32) : pF (mkM f z) 9 58 43 (.int v) = some (mkM (up f 58 (upd (f 58) 43 v)) z) := ok_pF (q := (0, 9, 0, [0, 61, 62, 63, 64, 65, 0, 66, 0, 0, 0, 67, 68, 0, 0, 69, 70, 71, 0, 0, 0, 0, 0, 0, 0, 0, 72, 0, 0, 73, 74, 0, 75, 76, 77, 78, 79, 80, 0, 81, 82, 83, 0, 0, 0, 0, 0, 0, 0, 84, 85, 86, 87, 0, 0, 0])) (h 58 (by decide)) rfl f rfl v
theorem g_58_44 {z : Mem} (h : Sh z) (f : Nat → Nat → Int32) : gI (mkM f z) 9 58 44 = some (f 58 44) := ok_gI (q := (0, 9, 0, [0, 61, 62, 63, 64, 65, 0, 66, 0, 0, 0, 67, 68, 0, 0, 69, 70, 71, 0, 0, 0, 0, 0, 0, 0, 0, 72, 0, 0, 73, 74, 0, 75, 76, 77, 78, 79, 80, 0, 81, 82, 83, 0, 0, 0, 0, 0, 0, 0, 84, 85, 86, 87, 0, 0, 0])) (h 58 (by decide)) rfl f rfl
theorem p_58_44 {z : Mem} (h : Sh z) (f : Nat → Nat → Int32) (v : Int32) : pF (mkM f z) 9 58 44 (.int v) = some (mkM (up f 58 (upd (f 58) 44 v)) z) := ok_pF (q := (0, 9, 0, [0, 61, 62, 63, 64, 65, 0, 66, 0, 0, 0, 67, 68, 0, 0, 69, 70, 71, 0, 0, 0, 0, 0, 0, 0, 0, 72, 0, 0, 73, 74, 0, 75, 76, 77, 78, 79, 80, 0, 81, 82, 83, 0, 0, 0, 0, 0, 0, 0, 84, 85, 86, 87, 0, 0, 0])) (h 58 (by decide)) rfl f rfl v
theorem g_58_45 {z : Mem} (h : Sh z) (f : Nat → Nat → Int32) : gI (mkM f z) 9 58 45 = some (f 58 45) := ok_gI (q := (0, 9, 0, [0, 61, 62, 63, 64, 65, 0, 66, 0, 0, 0, 67, 68, 0, 0, 69, 70, 71, 0, 0, 0, 0, 0, 0, 0, 0, 72, 0, 0, 73, 74, 0, 75, 76, 77, 78, 79, 80, 0, 81, 82, 83, 0, 0, 0, 0, 0, 0, 0, 84, 85, 86, 87, 0, 0, 0])) (h 58 (by decide)) rfl f rfl
theorem p_58_45 {z : Mem} (h : Sh z) (f : Nat → Nat → Int32) (v : Int32) : pF (mkM f z) 9 58 45 (.int v) = some (mkM (up f 58 (upd (f 58) 45 v)) z) := ok_pF (q := (0, 9, 0, [0, 61, 62, 63, 64, 65, 0, 66, 0, 0, 0, 67, 68, 0, 0, 69, 70, 71, 0, 0, 0, 0, 0, 0, 0, 0, 72, 0, 0, 73, 74, 0, 75, 76, 77, 78, 79, 80, 0, 81, 82, 83, 0, 0, 0, 0, 0, 0, 0, 84, 85, 86, 87, 0, 0, 0])) (h 58 (by decide)) rfl f rfl v
theorem g_58_46 {z : Mem} (h : Sh z) (f : Nat → Nat → Int32) : gI (mkM f z) 9 58 46 = some (f 58 46) := ok_gI (q := (0, 9, 0, [0, 61, 62, 63, 64, 65, 0, 66, 0, 0, 0, 67, 68, 0, 0, 69, 70, 71, 0, 0, 0, 0, 0, 0, 0, 0, 72, 0, 0, 73, 74, 0, 75, 76, 77, 78, 79, 80, 0, 81, 82, 83, 0, 0, 0, 0, 0, 0, 0, 84, 85, 86, 87, 0, 0, 0])) (h 58 (by decide)) rfl f rfl
theorem p_58_46 {z : Mem} (h : Sh z) (f : Nat → Nat → Int32) (v : Int32) : pF (mkM f z) 9 58 46 (.int v) = some (mkM (up f 58 (upd (f 58) 46 v)) z) := ok_pF (q := (0, 9, 0, [0, 61, 62, 63, 64, 65, 0, 66, 0, 0, 0, 67, 68, 0, 0, 69, 70, 71, 0, 0, 0, 0, 0, 0, 0, 0, 72, 0, 0, 73, 74, 0, 75, 76, 77, 78, 79, 80, 0, 81, 82, 83, 0, 0, 0, 0, 0, 0, 0, 84, 85, 86, 87, 0, 0, 0])) (h 58 (by decide)) rfl f rfl v
theorem g_58_47 {z : Mem} (h : Sh z) (f : Nat → Nat → Int32) : gI (mkM f z) 9 58 47 = some (f 58 47) := ok_gI (q := (0, 9, 0, [0, 61, 62, 63, 64, 65, 0, 66, 0, 0, 0, 67, 68, 0, 0, 69, 70, 71, 0, 0, 0, 0, 0, 0, 0, 0, 72, 0, 0, 73, 74, 0, 75, 76, 77, 78, 79, 80, 0, 81, 82, 83, 0, 0, 0, 0, 0, 0, 0, 84, 85, 86, 87, 0, 0, 0])) (h 58 (by decide)) rfl f rfl
theorem p_58_47 {z : Mem} (h : Sh z) (f : Nat → Nat → Int32) (v : Int32) : pF (mkM f z) 9 58 47 (.int v) = some (mkM (up f 58 (upd (f 58) 47 v)) z) := ok_pF (q := (0, 9, 0, [0, 61, 62, 63, 64, 65, 0, 66, 0, 0, 0, 67, 68, 0, 0, 69, 70, 71, 0, 0, 0, 0, 0, 0, 0, 0, 72, 0, 0, 73, 74, 0, 75, 76, 77, 78, 79, 80, 0, 81, 82, 83, 0, 0, 0, 0, 0, 0, 0, 84, 85, 86, 87, 0, 0, 0])) (h 58 (by decide)) rfl f rfl v
theorem g_58_48 {z : Mem} (h : Sh z) (f : Nat → Nat → Int32) : gI (mkM f z) 9 58 48 = some (f 58 48) := ok_gI (q := (0, 9, 0, [0, 61, 62, 63, 64, 65, 0, 66, 0, 0, 0, 67, 68, 0, 0, 69, 70, 71, 0, 0, 0, 0, 0, 0, 0, 0, 72, 0, 0, 73, 74, 0, 75, 76, 77, 78, 79, 80, 0, 81, 82, 83, 0, 0, 0, 0, 0, 0, 0, 84, 85, 86, 87, 0, 0, 0])) (h 58 (by decide)) rfl f rfl
theorem p_58_48 {z : Mem} (h : Sh z) (f : Nat → Nat → Int32) (v : Int32) : pF (mkM f z) 9 58 48 (.int v) = some (mkM (up f 58 (upd (f 58) 48 v)) z) := ok_pF (q := (0, 9, 0, [0, 61, 62, 63, 64, 65, 0, 66, 0, 0, 0, 67, 68, 0, 0, 69, 70, 71, 0, 0, 0, 0, 0, 0, 0, 0, 72, 0, 0, 73, 74, 0, 75, 76, 77, 78, 79, 80, 0, 81, 82, 83, 0, 0, 0, 0, 0, 0, 0, 84, 85, 86, 87, 0, 0, 0])) (h 58 (by decide)) rfl f rfl v
theorem r_58_49 {z : Mem} (h : Sh z) (f : Nat → Nat → Int32) : gR (mkM f z) 9 58 49 = some 82 := ok_gR (q := (0, 9, 0, [0, 61, 62, 63, 64, 65, 0, 66, 0, 0, 0, 67, 68, 0, 0, 69, 70, 71, 0, 0, 0, 0, 0, 0, 0, 0, 72, 0, 0, 73, 74, 0, 75, 76, 77, 78, 79, 80, 0, 81, 82, 83, 0, 0, 0, 0, 0, 0, 0, 84, 85, 86, 87, 0, 0, 0])) (h 58 (by decide)) rfl f rfl
theorem r_58_50 {z : Mem} (h : Sh z) (f : Nat → Nat → Int32) : gR (mkM f z) 9 58 50 = some 83 := ok_gR (q := (0, 9, 0, [0, 61, 62, 63, 64, 65, 0, 66, 0, 0, 0, 67, 68, 0, 0, 69, 70, 71, 0, 0, 0, 0, 0, 0, 0, 0, 72, 0, 0, 73, 74, 0, 75, 76, 77, 78, 79, 80, 0, 81, 82, 83, 0, 0, 0, 0, 0, 0, 0, 84, 85, 86, 87, 0, 0, 0])) (h 58 (by decide)) rfl f rfl
theorem r_58_51 {z : Mem} (h : Sh z) (f : Nat → Nat → Int32) : gR (mkM f z) 9 58 51 = some 84 := ok_gR (q := (0, 9, 0, [0, 61, 62, 63, 64, 65, 0, 66, 0, 0, 0, 67, 68, 0, 0, 69, 70, 71, 0, 0, 0, 0, 0, 0, 0, 0, 72, 0, 0, 73, 74, 0, 75, 76, 77, 78, 79, 80, 0, 81, 82, 83, 0, 0, 0, 0, 0, 0, 0, 84, 85, 86, 87, 0, 0, 0])) (h 58 (by decide)) rfl f rfl
theorem r_58_52 {z : Mem} (h : Sh z) (f : Nat → Nat → Int32) : gR (mkM f z) 9 58 52 = some 85 := ok_gR (q := (0, 9, 0, [0, 61, 62, 63, 64, 65, 0, 66, 0, 0, 0, 67, 68, 0, 0, 69, 70, 71, 0, 0, 0, 0, 0, 0, 0, 0, 72, 0, 0, 73, 74, 0, 75, 76, 77, 78, 79, 80, 0, 81, 82, 83, 0, 0, 0, 0, 0, 0, 0, 84, 85, 86, 87, 0, 0, 0])) (h 58 (by decide)) rfl f rfl
theorem g_58_53 {z : Mem} (h : Sh z) (f : Nat → Nat → Int32) : gI (mkM f z) 9 58 53 = some (f 58 53) := ok_gI (q := (0, 9, 0, [0, 61, 62, 63, 64, 65, 0, 66, 0, 0, 0, 67, 68, 0, 0, 69, 70, 71, 0, 0, 0, 0, 0, 0, 0, 0, 72, 0, 0, 73, 74, 0, 75, 76, 77, 78, 79, 80, 0, 81, 82, 83, 0, 0, 0, 0, 0, 0, 0, 84, 85, 86, 87, 0, 0, 0])) (h 58 (by decide)) rfl f rfl
theorem p_58_53 {z : Mem} (h : Sh z) (f : Nat → Nat → Int32) (v : Int32) : pF (mkM f z) 9 58 53 (.int v) = some (mkM (up f 58 (upd (f 58) 53 v)) z) := ok_pF (q := (0, 9, 0, [0, 61, 62, 63, 64, 65, 0, 66, 0, 0, 0, 67, 68, 0, 0, 69, 70, 71, 0, 0, 0, 0, 0, 0, 0, 0, 72, 0, 0, 73, 74, 0, 75, 76, 77, 78, 79, 80, 0, 81, 82, 83, 0, 0, 0, 0, 0, 0, 0, 84, 85, 86, 87, 0, 0, 0])) (h 58 (by decide)) rfl f rfl v
theorem g_58_54 {z : Mem} (h : Sh z) (f : Nat → Nat → Int32) : gI (mkM f z) 9 58 54 = some (f 58 54) := ok_gI (q := (0, 9, 0, [0, 61, 62, 63, 64, 65, 0, 66, 0, 0, 0, 67, 68, 0, 0, 69, 70, 71, 0, 0, 0, 0, 0, 0, 0, 0, 72, 0, 0, 73, 74, 0, 75, 76, 77, 78, 79, 80, 0, 81, 82, 83, 0, 0, 0, 0, 0, 0, 0, 84, 85, 86, 87, 0, 0, 0])) (h 58 (by decide)) rfl f rfl
theorem p_58_54 {z : Mem} (h : Sh z) (f : Nat → Nat → Int32) (v : Int32) : pF (mkM f z) 9 58 54 (.int v) = some (mkM (up f 58 (upd (f 58) 54 v)) z) := ok_pF (q := (0, 9, 0, [0, 61, 62, 63, 64, 65, 0, 66, 0, 0, 0, 67, 68, 0, 0, 69, 70, 71, 0, 0, 0, 0, 0, 0, 0, 0, 72, 0, 0, 73, 74, 0, 75, 76, 77, 78, 79, 80, 0, 81, 82, 83, 0, 0, 0, 0, 0, 0, 0, 84, 85, 86, 87, 0, 0, 0])) (h 58 (by decide)) rfl f rfl v
theorem g_58_55 {z : Mem} (h : Sh z) (f : Nat → Nat → Int32) : gI (mkM f z) 9 58 55 = some (f 58 55) := ok_gI (q := (0, 9, 0, [0, 61, 62, 63, 64, 65, 0, 66, 0, 0, 0, 67, 68, 0, 0, 69, 70, 71, 0, 0, 0, 0, 0, 0, 0, 0, 72, 0, 0, 73, 74, 0, 75, 76, 77, 78, 79, 80, 0, 81, 82, 83, 0, 0, 0, 0, 0, 0, 0, 84, 85, 86, 87, 0, 0, 0])) (h 58 (by decide)) rfl f rfl
theorem p_58_55 {z : Mem} (h : Sh z) (f : Nat → Nat → Int32) (v : Int32) : pF (mkM f z) 9 58 55 (.int v) = some (mkM (up f 58 (upd (f 58) 55 v)) z) := ok_pF (q := (0, 9, 0, [0, 61, 62, 63, 64, 65, 0, 66, 0, 0, 0, 67, 68, 0, 0, 69, 70, 71, 0, 0, 0, 0, 0, 0, 0, 0, 72, 0, 0, 73, 74, 0, 75, 76, 77, 78, 79, 80, 0, 81, 82, 83, 0, 0, 0, 0, 0, 0, 0, 84, 85, 86, 87, 0, 0, 0])) (h 58 (by decide)) rfl f rfl v
theorem l_59 {z : Mem} (h : Sh z) (f : Nat → Nat → Int32) {k : Nat} (hk : k < 7) : lI (mkM f z) 59 (wI k) = some (f 59 k) := ok_lI (q := (1, 0, 7, [])) (h 59 (by decide)) rfl rfl f hk (by decide)
theorem s_59 {z : Mem} (h : Sh z) (f : Nat → Nat → Int32) {k : Nat} (v : Int32) (hk : k < 7) : sI (mkM f z) 59 (wI k) v = some (mkM (up f 59 (upd (f 59) k v)) z) := ok_sI (q := (1, 0, 7, [])) (h 59 (by decide)) rfl rfl f v hk (by decide)
theorem n_59 {z : Mem} (h : Sh z) (f : Nat → Nat → Int32) : aln (mkM f z) 59 = some (wI 7) := ok_aln (q := (1, 0, 7, [])) (h 59 (by decide)) rfl (show (0 : Nat) < 7 by decide) f
theorem l_60 {z : Mem} (h : Sh z) (f : Nat → Nat → Int32) {k : Nat} (hk : k < 5711) : lI (mkM f z) 60 (wI k) = some (f 60 k) := ok_lI (q := (1, 0, 5711, [])) (h 60 (by decide)) rfl rfl f hk (by decide)
theorem s_60 {z : Mem} (h : Sh z) (f : Nat → Nat → Int32) {k : Nat} (v : Int32) (hk : k < 5711) : sI (mkM f z) 60 (wI k) v = some (mkM (up f 60 (upd (f 60) k v)) z) := ok_sI (q := (1, 0, 5711, [])) (h 60 (by decide)) rfl rfl f v hk (by decide)
theorem n_60 {z : Mem} (h : Sh z) (f : Nat → Nat → Int32) : aln (mkM f z) 60 = some (wI 5711) := ok_aln (q := (1, 0, 5711, [])) (h 60 (by decide)) rfl (show (0 : Nat) < 7 by decide) f
theorem l_61 {z : Mem} (h : Sh z) (f : Nat → Nat → Int32) {k : Nat} (hk : k < 11422) : lI (mkM f z) 61 (wI k) = some (f 61 k) := ok_lI (q := (1, 0, 11422, [])) (h 61 (by decide)) rfl rfl f hk (by decide)
theorem s_61 {z : Mem} (h : Sh z) (f : Nat → Nat → Int32) {k : Nat} (v : Int32) (hk : k < 11422) : sI (mkM f z) 61 (wI k) v = some (mkM (up f 61 (upd (f 61) k v)) z) := ok_sI (q := (1, 0, 11422, [])) (h 61 (by decide)) rfl rfl f v hk (by decide)
theorem n_61 {z : Mem} (h : Sh z) (f : Nat → Nat → Int32) : aln (mkM f z) 61 = some (wI 11422) := ok_aln (q := (1, 0, 11422, [])) (h 61 (by decide)) rfl (show (0 : Nat) < 7 by decide) f
theorem l_62 {z : Mem} (h : Sh z) (f : Nat → Nat → Int32) {k : Nat} (hk : k < 2) : lB (mkM f z) 62 (wI k) = some (f 62 k) := ok_lB (q := (1, 2, 2, [])) (h 62 (by decide)) rfl (by decide) f hk (by decide)
theorem s_62 {z : Mem} (h : Sh z) (f : Nat → Nat → Int32) {k : Nat} (v : Int32) (hk : k < 2) : sB (mkM f z) 62 (wI k) v = some (mkM (up f 62 (upd (f 62) k (vp_nar .boolean v))) z) := ok_sB2 (q := (1, 2, 2, [])) (h 62 (by decide)) rfl rfl f v hk (by decide)
theorem n_62 {z : Mem} (h : Sh z) (f : Nat → Nat → Int32) : aln (mkM f z) 62 = some (wI 2) := ok_aln (q := (1, 2, 2, [])) (h 62 (by decide)) rfl (show (2 : Nat) < 7 by decide) f
theorem l_63 {z : Mem} (h : Sh z) (f : Nat → Nat → Int32) {k : Nat} (hk : k < 333) : lI (mkM f z) 63 (wI k) = some (f 63 k) := ok_lI (q := (1, 0, 333, [])) (h 63 (by decide)) rfl rfl f hk (by decide)
theorem s_63 {z : Mem} (h : Sh z) (f : Nat → Nat → Int32) {k : Nat} (v : Int32) (hk : k < 333) : sI (mkM f z) 63 (wI k) v = some (mkM (up f 63 (upd (f 63) k v)) z) := ok_sI (q := (1, 0, 333, [])) (h 63 (by decide)) rfl rfl f v hk (by decide)
theorem n_63 {z : Mem} (h : Sh z) (f : Nat → Nat → Int32) : aln (mkM f z) 63 = some (wI 333) := ok_aln (q := (1, 0, 333, [])) (h 63 (by decide)) rfl (show (0 : Nat) < 7 by decide) f
theorem l_64 {z : Mem} (h : Sh z) (f : Nat → Nat → Int32) {k : Nat} (hk : k < 122) : lB (mkM f z) 64 (wI k) = some (f 64 k) := ok_lB (q := (1, 1, 122, [])) (h 64 (by decide)) rfl (by decide) f hk (by decide)
theorem s_64 {z : Mem} (h : Sh z) (f : Nat → Nat → Int32) {k : Nat} (v : Int32) (hk : k < 122) : sB (mkM f z) 64 (wI k) v = some (mkM (up f 64 (upd (f 64) k (vp_nar .byte v))) z) := ok_sB1 (q := (1, 1, 122, [])) (h 64 (by decide)) rfl rfl f v hk (by decide)
theorem n_64 {z : Mem} (h : Sh z) (f : Nat → Nat → Int32) : aln (mkM f z) 64 = some (wI 122) := ok_aln (q := (1, 1, 122, [])) (h 64 (by decide)) rfl (show (1 : Nat) < 7 by decide) f
theorem l_65 {z : Mem} (h : Sh z) (f : Nat → Nat → Int32) {k : Nat} (hk : k < 400) : lB (mkM f z) 65 (wI k) = some (f 65 k) := ok_lB (q := (1, 1, 400, [])) (h 65 (by decide)) rfl (by decide) f hk (by decide)
theorem s_65 {z : Mem} (h : Sh z) (f : Nat → Nat → Int32) {k : Nat} (v : Int32) (hk : k < 400) : sB (mkM f z) 65 (wI k) v = some (mkM (up f 65 (upd (f 65) k (vp_nar .byte v))) z) := ok_sB1 (q := (1, 1, 400, [])) (h 65 (by decide)) rfl rfl f v hk (by decide)
theorem n_65 {z : Mem} (h : Sh z) (f : Nat → Nat → Int32) : aln (mkM f z) 65 = some (wI 400) := ok_aln (q := (1, 1, 400, [])) (h 65 (by decide)) rfl (show (1 : Nat) < 7 by decide) f
theorem l_66 {z : Mem} (h : Sh z) (f : Nat → Nat → Int32) {k : Nat} (hk : k < 5) : lI (mkM f z) 66 (wI k) = some (f 66 k) := ok_lI (q := (1, 0, 5, [])) (h 66 (by decide)) rfl rfl f hk (by decide)
theorem s_66 {z : Mem} (h : Sh z) (f : Nat → Nat → Int32) {k : Nat} (v : Int32) (hk : k < 5) : sI (mkM f z) 66 (wI k) v = some (mkM (up f 66 (upd (f 66) k v)) z) := ok_sI (q := (1, 0, 5, [])) (h 66 (by decide)) rfl rfl f v hk (by decide)
theorem n_66 {z : Mem} (h : Sh z) (f : Nat → Nat → Int32) : aln (mkM f z) 66 = some (wI 5) := ok_aln (q := (1, 0, 5, [])) (h 66 (by decide)) rfl (show (0 : Nat) < 7 by decide) f
theorem l_67 {z : Mem} (h : Sh z) (f : Nat → Nat → Int32) {k : Nat} (hk : k < 401) : lI (mkM f z) 67 (wI k) = some (f 67 k) := ok_lI (q := (1, 0, 401, [])) (h 67 (by decide)) rfl rfl f hk (by decide)
theorem s_67 {z : Mem} (h : Sh z) (f : Nat → Nat → Int32) {k : Nat} (v : Int32) (hk : k < 401) : sI (mkM f z) 67 (wI k) v = some (mkM (up f 67 (upd (f 67) k v)) z) := ok_sI (q := (1, 0, 401, [])) (h 67 (by decide)) rfl rfl f v hk (by decide)
theorem n_67 {z : Mem} (h : Sh z) (f : Nat → Nat → Int32) : aln (mkM f z) 67 = some (wI 401) := ok_aln (q := (1, 0, 401, [])) (h 67 (by decide)) rfl (show (0 : Nat) < 7 by decide) f
theorem l_68 {z : Mem} (h : Sh z) (f : Nat → Nat → Int32) {k : Nat} (hk : k < 401) : lI (mkM f z) 68 (wI k) = some (f 68 k) := ok_lI (q := (1, 0, 401, [])) (h 68 (by decide)) rfl rfl f hk (by decide)
theorem s_68 {z : Mem} (h : Sh z) (f : Nat → Nat → Int32) {k : Nat} (v : Int32) (hk : k < 401) : sI (mkM f z) 68 (wI k) v = some (mkM (up f 68 (upd (f 68) k v)) z) := ok_sI (q := (1, 0, 401, [])) (h 68 (by decide)) rfl rfl f v hk (by decide)
theorem n_68 {z : Mem} (h : Sh z) (f : Nat → Nat → Int32) : aln (mkM f z) 68 = some (wI 401) := ok_aln (q := (1, 0, 401, [])) (h 68 (by decide)) rfl (show (0 : Nat) < 7 by decide) f
theorem l_69 {z : Mem} (h : Sh z) (f : Nat → Nat → Int32) {k : Nat} (hk : k < 401) : lI (mkM f z) 69 (wI k) = some (f 69 k) := ok_lI (q := (1, 0, 401, [])) (h 69 (by decide)) rfl rfl f hk (by decide)
theorem s_69 {z : Mem} (h : Sh z) (f : Nat → Nat → Int32) {k : Nat} (v : Int32) (hk : k < 401) : sI (mkM f z) 69 (wI k) v = some (mkM (up f 69 (upd (f 69) k v)) z) := ok_sI (q := (1, 0, 401, [])) (h 69 (by decide)) rfl rfl f v hk (by decide)
theorem n_69 {z : Mem} (h : Sh z) (f : Nat → Nat → Int32) : aln (mkM f z) 69 = some (wI 401) := ok_aln (q := (1, 0, 401, [])) (h 69 (by decide)) rfl (show (0 : Nat) < 7 by decide) f
theorem l_70 {z : Mem} (h : Sh z) (f : Nat → Nat → Int32) {k : Nat} (hk : k < 9) : lI (mkM f z) 70 (wI k) = some (f 70 k) := ok_lI (q := (1, 0, 9, [])) (h 70 (by decide)) rfl rfl f hk (by decide)
theorem s_70 {z : Mem} (h : Sh z) (f : Nat → Nat → Int32) {k : Nat} (v : Int32) (hk : k < 9) : sI (mkM f z) 70 (wI k) v = some (mkM (up f 70 (upd (f 70) k v)) z) := ok_sI (q := (1, 0, 9, [])) (h 70 (by decide)) rfl rfl f v hk (by decide)
theorem n_70 {z : Mem} (h : Sh z) (f : Nat → Nat → Int32) : aln (mkM f z) 70 = some (wI 9) := ok_aln (q := (1, 0, 9, [])) (h 70 (by decide)) rfl (show (0 : Nat) < 7 by decide) f
theorem l_71 {z : Mem} (h : Sh z) (f : Nat → Nat → Int32) {k : Nat} (hk : k < 608) : lI (mkM f z) 71 (wI k) = some (f 71 k) := ok_lI (q := (1, 0, 608, [])) (h 71 (by decide)) rfl rfl f hk (by decide)
theorem s_71 {z : Mem} (h : Sh z) (f : Nat → Nat → Int32) {k : Nat} (v : Int32) (hk : k < 608) : sI (mkM f z) 71 (wI k) v = some (mkM (up f 71 (upd (f 71) k v)) z) := ok_sI (q := (1, 0, 608, [])) (h 71 (by decide)) rfl rfl f v hk (by decide)
theorem n_71 {z : Mem} (h : Sh z) (f : Nat → Nat → Int32) : aln (mkM f z) 71 = some (wI 608) := ok_aln (q := (1, 0, 608, [])) (h 71 (by decide)) rfl (show (0 : Nat) < 7 by decide) f
theorem l_72 {z : Mem} (h : Sh z) (f : Nat → Nat → Int32) {k : Nat} (hk : k < 608) : lI (mkM f z) 72 (wI k) = some (f 72 k) := ok_lI (q := (1, 0, 608, [])) (h 72 (by decide)) rfl rfl f hk (by decide)
theorem s_72 {z : Mem} (h : Sh z) (f : Nat → Nat → Int32) {k : Nat} (v : Int32) (hk : k < 608) : sI (mkM f z) 72 (wI k) v = some (mkM (up f 72 (upd (f 72) k v)) z) := ok_sI (q := (1, 0, 608, [])) (h 72 (by decide)) rfl rfl f v hk (by decide)
theorem n_72 {z : Mem} (h : Sh z) (f : Nat → Nat → Int32) : aln (mkM f z) 72 = some (wI 608) := ok_aln (q := (1, 0, 608, [])) (h 72 (by decide)) rfl (show (0 : Nat) < 7 by decide) f
theorem l_73 {z : Mem} (h : Sh z) (f : Nat → Nat → Int32) {k : Nat} (hk : k < 100) : lB (mkM f z) 73 (wI k) = some (f 73 k) := ok_lB (q := (1, 2, 100, [])) (h 73 (by decide)) rfl (by decide) f hk (by decide)
theorem s_73 {z : Mem} (h : Sh z) (f : Nat → Nat → Int32) {k : Nat} (v : Int32) (hk : k < 100) : sB (mkM f z) 73 (wI k) v = some (mkM (up f 73 (upd (f 73) k (vp_nar .boolean v))) z) := ok_sB2 (q := (1, 2, 100, [])) (h 73 (by decide)) rfl rfl f v hk (by decide)
theorem n_73 {z : Mem} (h : Sh z) (f : Nat → Nat → Int32) : aln (mkM f z) 73 = some (wI 100) := ok_aln (q := (1, 2, 100, [])) (h 73 (by decide)) rfl (show (2 : Nat) < 7 by decide) f
theorem l_74 {z : Mem} (h : Sh z) (f : Nat → Nat → Int32) {k : Nat} (hk : k < 11264) : lB (mkM f z) 74 (wI k) = some (f 74 k) := ok_lB (q := (1, 1, 11264, [])) (h 74 (by decide)) rfl (by decide) f hk (by decide)
theorem s_74 {z : Mem} (h : Sh z) (f : Nat → Nat → Int32) {k : Nat} (v : Int32) (hk : k < 11264) : sB (mkM f z) 74 (wI k) v = some (mkM (up f 74 (upd (f 74) k (vp_nar .byte v))) z) := ok_sB1 (q := (1, 1, 11264, [])) (h 74 (by decide)) rfl rfl f v hk (by decide)
theorem n_74 {z : Mem} (h : Sh z) (f : Nat → Nat → Int32) : aln (mkM f z) 74 = some (wI 11264) := ok_aln (q := (1, 1, 11264, [])) (h 74 (by decide)) rfl (show (1 : Nat) < 7 by decide) f
theorem l_75 {z : Mem} (h : Sh z) (f : Nat → Nat → Int32) {k : Nat} (hk : k < 6) : lI (mkM f z) 75 (wI k) = some (f 75 k) := ok_lI (q := (1, 0, 6, [])) (h 75 (by decide)) rfl rfl f hk (by decide)
theorem s_75 {z : Mem} (h : Sh z) (f : Nat → Nat → Int32) {k : Nat} (v : Int32) (hk : k < 6) : sI (mkM f z) 75 (wI k) v = some (mkM (up f 75 (upd (f 75) k v)) z) := ok_sI (q := (1, 0, 6, [])) (h 75 (by decide)) rfl rfl f v hk (by decide)
theorem n_75 {z : Mem} (h : Sh z) (f : Nat → Nat → Int32) : aln (mkM f z) 75 = some (wI 6) := ok_aln (q := (1, 0, 6, [])) (h 75 (by decide)) rfl (show (0 : Nat) < 7 by decide) f
theorem l_76 {z : Mem} (h : Sh z) (f : Nat → Nat → Int32) {k : Nat} (hk : k < 6) : lI (mkM f z) 76 (wI k) = some (f 76 k) := ok_lI (q := (1, 0, 6, [])) (h 76 (by decide)) rfl rfl f hk (by decide)
theorem s_76 {z : Mem} (h : Sh z) (f : Nat → Nat → Int32) {k : Nat} (v : Int32) (hk : k < 6) : sI (mkM f z) 76 (wI k) v = some (mkM (up f 76 (upd (f 76) k v)) z) := ok_sI (q := (1, 0, 6, [])) (h 76 (by decide)) rfl rfl f v hk (by decide)
theorem n_76 {z : Mem} (h : Sh z) (f : Nat → Nat → Int32) : aln (mkM f z) 76 = some (wI 6) := ok_aln (q := (1, 0, 6, [])) (h 76 (by decide)) rfl (show (0 : Nat) < 7 by decide) f
theorem l_77 {z : Mem} (h : Sh z) (f : Nat → Nat → Int32) {k : Nat} (hk : k < 6) : lI (mkM f z) 77 (wI k) = some (f 77 k) := ok_lI (q := (1, 0, 6, [])) (h 77 (by decide)) rfl rfl f hk (by decide)
theorem s_77 {z : Mem} (h : Sh z) (f : Nat → Nat → Int32) {k : Nat} (v : Int32) (hk : k < 6) : sI (mkM f z) 77 (wI k) v = some (mkM (up f 77 (upd (f 77) k v)) z) := ok_sI (q := (1, 0, 6, [])) (h 77 (by decide)) rfl rfl f v hk (by decide)
theorem n_77 {z : Mem} (h : Sh z) (f : Nat → Nat → Int32) : aln (mkM f z) 77 = some (wI 6) := ok_aln (q := (1, 0, 6, [])) (h 77 (by decide)) rfl (show (0 : Nat) < 7 by decide) f
theorem l_78 {z : Mem} (h : Sh z) (f : Nat → Nat → Int32) {k : Nat} (hk : k < 6) : lI (mkM f z) 78 (wI k) = some (f 78 k) := ok_lI (q := (1, 0, 6, [])) (h 78 (by decide)) rfl rfl f hk (by decide)
theorem s_78 {z : Mem} (h : Sh z) (f : Nat → Nat → Int32) {k : Nat} (v : Int32) (hk : k < 6) : sI (mkM f z) 78 (wI k) v = some (mkM (up f 78 (upd (f 78) k v)) z) := ok_sI (q := (1, 0, 6, [])) (h 78 (by decide)) rfl rfl f v hk (by decide)
theorem n_78 {z : Mem} (h : Sh z) (f : Nat → Nat → Int32) : aln (mkM f z) 78 = some (wI 6) := ok_aln (q := (1, 0, 6, [])) (h 78 (by decide)) rfl (show (0 : Nat) < 7 by decide) f
theorem l_79 {z : Mem} (h : Sh z) (f : Nat → Nat → Int32) {k : Nat} (hk : k < 6) : lI (mkM f z) 79 (wI k) = some (f 79 k) := ok_lI (q := (1, 0, 6, [])) (h 79 (by decide)) rfl rfl f hk (by decide)
theorem s_79 {z : Mem} (h : Sh z) (f : Nat → Nat → Int32) {k : Nat} (v : Int32) (hk : k < 6) : sI (mkM f z) 79 (wI k) v = some (mkM (up f 79 (upd (f 79) k v)) z) := ok_sI (q := (1, 0, 6, [])) (h 79 (by decide)) rfl rfl f v hk (by decide)
theorem n_79 {z : Mem} (h : Sh z) (f : Nat → Nat → Int32) : aln (mkM f z) 79 = some (wI 6) := ok_aln (q := (1, 0, 6, [])) (h 79 (by decide)) rfl (show (0 : Nat) < 7 by decide) f
theorem l_80 {z : Mem} (h : Sh z) (f : Nat → Nat → Int32) {k : Nat} (hk : k < 7) : lI (mkM f z) 80 (wI k) = some (f 80 k) := ok_lI (q := (1, 0, 7, [])) (h 80 (by decide)) rfl rfl f hk (by decide)
theorem s_80 {z : Mem} (h : Sh z) (f : Nat → Nat → Int32) {k : Nat} (v : Int32) (hk : k < 7) : sI (mkM f z) 80 (wI k) v = some (mkM (up f 80 (upd (f 80) k v)) z) := ok_sI (q := (1, 0, 7, [])) (h 80 (by decide)) rfl rfl f v hk (by decide)
theorem n_80 {z : Mem} (h : Sh z) (f : Nat → Nat → Int32) : aln (mkM f z) 80 = some (wI 7) := ok_aln (q := (1, 0, 7, [])) (h 80 (by decide)) rfl (show (0 : Nat) < 7 by decide) f
theorem l_81 {z : Mem} (h : Sh z) (f : Nat → Nat → Int32) {k : Nat} (hk : k < 7) : lI (mkM f z) 81 (wI k) = some (f 81 k) := ok_lI (q := (1, 0, 7, [])) (h 81 (by decide)) rfl rfl f hk (by decide)
theorem s_81 {z : Mem} (h : Sh z) (f : Nat → Nat → Int32) {k : Nat} (v : Int32) (hk : k < 7) : sI (mkM f z) 81 (wI k) v = some (mkM (up f 81 (upd (f 81) k v)) z) := ok_sI (q := (1, 0, 7, [])) (h 81 (by decide)) rfl rfl f v hk (by decide)
theorem n_81 {z : Mem} (h : Sh z) (f : Nat → Nat → Int32) : aln (mkM f z) 81 = some (wI 7) := ok_aln (q := (1, 0, 7, [])) (h 81 (by decide)) rfl (show (0 : Nat) < 7 by decide) f
theorem l_82 {z : Mem} (h : Sh z) (f : Nat → Nat → Int32) {k : Nat} (hk : k < 2) : lL (mkM f z) 82 (wI k) = some (f 82 k).toInt64 := ok_lL (q := (2, 3, 2, [])) (h 82 (by decide)) rfl rfl f hk (by decide)
theorem s_82 {z : Mem} (h : Sh z) (f : Nat → Nat → Int32) {k : Nat} (v : Int32) (hk : k < 2) : sL (mkM f z) 82 (wI k) v.toInt64 = some (mkM (up f 82 (upd (f 82) k v)) z) := ok_sL (q := (2, 3, 2, [])) (h 82 (by decide)) rfl rfl f v hk (by decide)
theorem l_83 {z : Mem} (h : Sh z) (f : Nat → Nat → Int32) {k : Nat} (hk : k < 6) : lI (mkM f z) 83 (wI k) = some (f 83 k) := ok_lI (q := (1, 0, 6, [])) (h 83 (by decide)) rfl rfl f hk (by decide)
theorem s_83 {z : Mem} (h : Sh z) (f : Nat → Nat → Int32) {k : Nat} (v : Int32) (hk : k < 6) : sI (mkM f z) 83 (wI k) v = some (mkM (up f 83 (upd (f 83) k v)) z) := ok_sI (q := (1, 0, 6, [])) (h 83 (by decide)) rfl rfl f v hk (by decide)
theorem n_83 {z : Mem} (h : Sh z) (f : Nat → Nat → Int32) : aln (mkM f z) 83 = some (wI 6) := ok_aln (q := (1, 0, 6, [])) (h 83 (by decide)) rfl (show (0 : Nat) < 7 by decide) f
theorem l_84 {z : Mem} (h : Sh z) (f : Nat → Nat → Int32) {k : Nat} (hk : k < 10) : lI (mkM f z) 84 (wI k) = some (f 84 k) := ok_lI (q := (1, 0, 10, [])) (h 84 (by decide)) rfl rfl f hk (by decide)
theorem s_84 {z : Mem} (h : Sh z) (f : Nat → Nat → Int32) {k : Nat} (v : Int32) (hk : k < 10) : sI (mkM f z) 84 (wI k) v = some (mkM (up f 84 (upd (f 84) k v)) z) := ok_sI (q := (1, 0, 10, [])) (h 84 (by decide)) rfl rfl f v hk (by decide)
theorem n_84 {z : Mem} (h : Sh z) (f : Nat → Nat → Int32) : aln (mkM f z) 84 = some (wI 10) := ok_aln (q := (1, 0, 10, [])) (h 84 (by decide)) rfl (show (0 : Nat) < 7 by decide) f
theorem l_85 {z : Mem} (h : Sh z) (f : Nat → Nat → Int32) {k : Nat} (hk : k < 10) : lI (mkM f z) 85 (wI k) = some (f 85 k) := ok_lI (q := (1, 0, 10, [])) (h 85 (by decide)) rfl rfl f hk (by decide)
theorem s_85 {z : Mem} (h : Sh z) (f : Nat → Nat → Int32) {k : Nat} (v : Int32) (hk : k < 10) : sI (mkM f z) 85 (wI k) v = some (mkM (up f 85 (upd (f 85) k v)) z) := ok_sI (q := (1, 0, 10, [])) (h 85 (by decide)) rfl rfl f v hk (by decide)
theorem n_85 {z : Mem} (h : Sh z) (f : Nat → Nat → Int32) : aln (mkM f z) 85 = some (wI 10) := ok_aln (q := (1, 0, 10, [])) (h 85 (by decide)) rfl (show (0 : Nat) < 7 by decide) f
/-- a chest lies at b .. b + 12 -/
def chd (b : Nat) : List (Nat × Nat × Nat × List Nat) := [(0, 1, 0, [0, b + 1 + 2, 0, b + 2 + 2, b + 3 + 2, b + 4 + 2, b + 5 + 2, b + 6 + 2, b + 7 + 2, b + 8 + 2, 0, b + 9 + 2, b + 10 + 2, b + 11 + 2, 0, b + 12 + 2, 0]), (1, 0, 6, []), (1, 0, 10, []), (1, 0, 10, []), (1, 0, 10, []), (1, 0, 10, []), (1, 0, 10, []), (1, 0, 10, []), (1, 0, 10, []), (1, 0, 10, []), (1, 0, 10, []), (1, 0, 3, []), (3, 4, 6, [])]
def Ch (z : Mem) (b : Nat) : Prop := ∀ j, j < 13 → okCl ((chd b).getD j (9, 9, 9, [])) (z.2.2 (b + j)) = true
theorem c_C {z : Mem} {b : Nat} (h : Ch z b) (f : Nat → Nat → Int32) (A B : Option Rs) : (bif isC (mkM f z) 1 b then A else B) = A := congrArg (fun b => cond b A B) (ok_isC (q := (0, 1, 0, [0, b + 1 + 2, 0, b + 2 + 2, b + 3 + 2, b + 4 + 2, b + 5 + 2, b + 6 + 2, b + 7 + 2, b + 8 + 2, 0, b + 9 + 2, b + 10 + 2, b + 11 + 2, 0, b + 12 + 2, 0])) (h 0 (by decide)) rfl f)
theorem cc_C {z : Mem} {b : Nat} (h : Ch z b) (f : Nat → Nat → Int32) : isC (mkM f z) 1 b = true := ok_isC (q := (0, 1, 0, [0, b + 1 + 2, 0, b + 2 + 2, b + 3 + 2, b + 4 + 2, b + 5 + 2, b + 6 + 2, b + 7 + 2, b + 8 + 2, 0, b + 9 + 2, b + 10 + 2, b + 11 + 2, 0, b + 12 + 2, 0])) (h 0 (by decide)) rfl f
theorem g_C_0 {z : Mem} {b : Nat} (h : Ch z b) (f : Nat → Nat → Int32) : gI (mkM f z) 1 b 0 = some (f b 0) := ok_gI (q := (0, 1, 0, [0, b + 1 + 2, 0, b + 2 + 2, b + 3 + 2, b + 4 + 2, b + 5 + 2, b + 6 + 2, b + 7 + 2, b + 8 + 2, 0, b + 9 + 2, b + 10 + 2, b + 11 + 2, 0, b + 12 + 2, 0])) (h 0 (by decide)) rfl f rfl
theorem p_C_0 {z : Mem} {b : Nat} (h : Ch z b) (f : Nat → Nat → Int32) (v : Int32) : pF (mkM f z) 1 b 0 (.int v) = some (mkM (up f b (upd (f b) 0 v)) z) := ok_pF (q := (0, 1, 0, [0, b + 1 + 2, 0, b + 2 + 2, b + 3 + 2, b + 4 + 2, b + 5 + 2, b + 6 + 2, b + 7 + 2, b + 8 + 2, 0, b + 9 + 2, b + 10 + 2, b + 11 + 2, 0, b + 12 + 2, 0])) (h 0 (by decide)) rfl f rfl v
theorem r_C_1 {z : Mem} {b : Nat} (h : Ch z b) (f : Nat → Nat → Int32) : gR (mkM f z) 1 b 1 = some (b + 1) := ok_gR (q := (0, 1, 0, [0, b + 1 + 2, 0, b + 2 + 2, b + 3 + 2, b + 4 + 2, b + 5 + 2, b + 6 + 2, b + 7 + 2, b + 8 + 2, 0, b + 9 + 2, b + 10 + 2, b + 11 + 2, 0, b + 12 + 2, 0])) (h 0 (by decide)) rfl f rfl
theorem g_C_2 {z : Mem} {b : Nat} (h : Ch z b) (f : Nat → Nat → Int32) : gI (mkM f z) 1 b 2 = some (f b 2) := ok_gI (q := (0, 1, 0, [0, b + 1 + 2, 0, b + 2 + 2, b + 3 + 2, b + 4 + 2, b + 5 + 2, b + 6 + 2, b + 7 + 2, b + 8 + 2, 0, b + 9 + 2, b + 10 + 2, b + 11 + 2, 0, b + 12 + 2, 0])) (h 0 (by decide)) rfl f rfl
theorem p_C_2 {z : Mem} {b : Nat} (h : Ch z b) (f : Nat → Nat → Int32) (v : Int32) : pF (mkM f z) 1 b 2 (.int v) = some (mkM (up f b (upd (f b) 2 v)) z) := ok_pF (q := (0, 1, 0, [0, b + 1 + 2, 0, b + 2 + 2, b + 3 + 2, b + 4 + 2, b + 5 + 2, b + 6 + 2, b + 7 + 2, b + 8 + 2, 0, b + 9 + 2, b + 10 + 2, b + 11 + 2, 0, b + 12 + 2, 0])) (h 0 (by decide)) rfl f rfl v
theorem r_C_3 {z : Mem} {b : Nat} (h : Ch z b) (f : Nat → Nat → Int32) : gR (mkM f z) 1 b 3 = some (b + 2) := ok_gR (q := (0, 1, 0, [0, b + 1 + 2, 0, b + 2 + 2, b + 3 + 2, b + 4 + 2, b + 5 + 2, b + 6 + 2, b + 7 + 2, b + 8 + 2, 0, b + 9 + 2, b + 10 + 2, b + 11 + 2, 0, b + 12 + 2, 0])) (h 0 (by decide)) rfl f rfl
theorem r_C_4 {z : Mem} {b : Nat} (h : Ch z b) (f : Nat → Nat → Int32) : gR (mkM f z) 1 b 4 = some (b + 3) := ok_gR (q := (0, 1, 0, [0, b + 1 + 2, 0, b + 2 + 2, b + 3 + 2, b + 4 + 2, b + 5 + 2, b + 6 + 2, b + 7 + 2, b + 8 + 2, 0, b + 9 + 2, b + 10 + 2, b + 11 + 2, 0, b + 12 + 2, 0])) (h 0 (by decide)) rfl f rfl
theorem r_C_5 {z : Mem} {b : Nat} (h : Ch z b) (f : Nat → Nat → Int32) : gR (mkM f z) 1 b 5 = some (b + 4) := ok_gR (q := (0, 1, 0, [0, b + 1 + 2, 0, b + 2 + 2, b + 3 + 2, b + 4 + 2, b + 5 + 2, b + 6 + 2, b + 7 + 2, b + 8 + 2, 0, b + 9 + 2, b + 10 + 2, b + 11 + 2, 0, b + 12 + 2, 0])) (h 0 (by decide)) rfl f rfl
theorem r_C_6 {z : Mem} {b : Nat} (h : Ch z b) (f : Nat → Nat → Int32) : gR (mkM f z) 1 b 6 = some (b + 5) := ok_gR (q := (0, 1, 0, [0, b + 1 + 2, 0, b + 2 + 2, b + 3 + 2, b + 4 + 2, b + 5 + 2, b + 6 + 2, b + 7 + 2, b + 8 + 2, 0, b + 9 + 2, b + 10 + 2, b + 11 + 2, 0, b + 12 + 2, 0])) (h 0 (by decide)) rfl f rfl
theorem r_C_7 {z : Mem} {b : Nat} (h : Ch z b) (f : Nat → Nat → Int32) : gR (mkM f z) 1 b 7 = some (b + 6) := ok_gR (q := (0, 1, 0, [0, b + 1 + 2, 0, b + 2 + 2, b + 3 + 2, b + 4 + 2, b + 5 + 2, b + 6 + 2, b + 7 + 2, b + 8 + 2, 0, b + 9 + 2, b + 10 + 2, b + 11 + 2, 0, b + 12 + 2, 0])) (h 0 (by decide)) rfl f rfl
theorem r_C_8 {z : Mem} {b : Nat} (h : Ch z b) (f : Nat → Nat → Int32) : gR (mkM f z) 1 b 8 = some (b + 7) := ok_gR (q := (0, 1, 0, [0, b + 1 + 2, 0, b + 2 + 2, b + 3 + 2, b + 4 + 2, b + 5 + 2, b + 6 + 2, b + 7 + 2, b + 8 + 2, 0, b + 9 + 2, b + 10 + 2, b + 11 + 2, 0, b + 12 + 2, 0])) (h 0 (by decide)) rfl f rfl
theorem r_C_9 {z : Mem} {b : Nat} (h : Ch z b) (f : Nat → Nat → Int32) : gR (mkM f z) 1 b 9 = some (b + 8) := ok_gR (q := (0, 1, 0, [0, b + 1 + 2, 0, b + 2 + 2, b + 3 + 2, b + 4 + 2, b + 5 + 2, b + 6 + 2, b + 7 + 2, b + 8 + 2, 0, b + 9 + 2, b + 10 + 2, b + 11 + 2, 0, b + 12 + 2, 0])) (h 0 (by decide)) rfl f rfl
theorem g_C_10 {z : Mem} {b : Nat} (h : Ch z b) (f : Nat → Nat → Int32) : gI (mkM f z) 1 b 10 = some (f b 10) := ok_gI (q := (0, 1, 0, [0, b + 1 + 2, 0, b + 2 + 2, b + 3 + 2, b + 4 + 2, b + 5 + 2, b + 6 + 2, b + 7 + 2, b + 8 + 2, 0, b + 9 + 2, b + 10 + 2, b + 11 + 2, 0, b + 12 + 2, 0])) (h 0 (by decide)) rfl f rfl
theorem p_C_10 {z : Mem} {b : Nat} (h : Ch z b) (f : Nat → Nat → Int32) (v : Int32) : pF (mkM f z) 1 b 10 (.int v) = some (mkM (up f b (upd (f b) 10 v)) z) := ok_pF (q := (0, 1, 0, [0, b + 1 + 2, 0, b + 2 + 2, b + 3 + 2, b + 4 + 2, b + 5 + 2, b + 6 + 2, b + 7 + 2, b + 8 + 2, 0, b + 9 + 2, b + 10 + 2, b + 11 + 2, 0, b + 12 + 2, 0])) (h 0 (by decide)) rfl f rfl v
theorem r_C_11 {z : Mem} {b : Nat} (h : Ch z b) (f : Nat → Nat → Int32) : gR (mkM f z) 1 b 11 = some (b + 9) := ok_gR (q := (0, 1, 0, [0, b + 1 + 2, 0, b + 2 + 2, b + 3 + 2, b + 4 + 2, b + 5 + 2, b + 6 + 2, b + 7 + 2, b + 8 + 2, 0, b + 9 + 2, b + 10 + 2, b + 11 + 2, 0, b + 12 + 2, 0])) (h 0 (by decide)) rfl f rfl
theorem r_C_12 {z : Mem} {b : Nat} (h : Ch z b) (f : Nat → Nat → Int32) : gR (mkM f z) 1 b 12 = some (b + 10) := ok_gR (q := (0, 1, 0, [0, b + 1 + 2, 0, b + 2 + 2, b + 3 + 2, b + 4 + 2, b + 5 + 2, b + 6 + 2, b + 7 + 2, b + 8 + 2, 0, b + 9 + 2, b + 10 + 2, b + 11 + 2, 0, b + 12 + 2, 0])) (h 0 (by decide)) rfl f rfl
theorem r_C_13 {z : Mem} {b : Nat} (h : Ch z b) (f : Nat → Nat → Int32) : gR (mkM f z) 1 b 13 = some (b + 11) := ok_gR (q := (0, 1, 0, [0, b + 1 + 2, 0, b + 2 + 2, b + 3 + 2, b + 4 + 2, b + 5 + 2, b + 6 + 2, b + 7 + 2, b + 8 + 2, 0, b + 9 + 2, b + 10 + 2, b + 11 + 2, 0, b + 12 + 2, 0])) (h 0 (by decide)) rfl f rfl
theorem g_C_14 {z : Mem} {b : Nat} (h : Ch z b) (f : Nat → Nat → Int32) : gI (mkM f z) 1 b 14 = some (f b 14) := ok_gI (q := (0, 1, 0, [0, b + 1 + 2, 0, b + 2 + 2, b + 3 + 2, b + 4 + 2, b + 5 + 2, b + 6 + 2, b + 7 + 2, b + 8 + 2, 0, b + 9 + 2, b + 10 + 2, b + 11 + 2, 0, b + 12 + 2, 0])) (h 0 (by decide)) rfl f rfl
theorem p_C_14 {z : Mem} {b : Nat} (h : Ch z b) (f : Nat → Nat → Int32) (v : Int32) : pF (mkM f z) 1 b 14 (.int v) = some (mkM (up f b (upd (f b) 14 v)) z) := ok_pF (q := (0, 1, 0, [0, b + 1 + 2, 0, b + 2 + 2, b + 3 + 2, b + 4 + 2, b + 5 + 2, b + 6 + 2, b + 7 + 2, b + 8 + 2, 0, b + 9 + 2, b + 10 + 2, b + 11 + 2, 0, b + 12 + 2, 0])) (h 0 (by decide)) rfl f rfl v
theorem r_C_15 {z : Mem} {b : Nat} (h : Ch z b) (f : Nat → Nat → Int32) : gR (mkM f z) 1 b 15 = some (b + 12) := ok_gR (q := (0, 1, 0, [0, b + 1 + 2, 0, b + 2 + 2, b + 3 + 2, b + 4 + 2, b + 5 + 2, b + 6 + 2, b + 7 + 2, b + 8 + 2, 0, b + 9 + 2, b + 10 + 2, b + 11 + 2, 0, b + 12 + 2, 0])) (h 0 (by decide)) rfl f rfl
theorem g_C_16 {z : Mem} {b : Nat} (h : Ch z b) (f : Nat → Nat → Int32) : gI (mkM f z) 1 b 16 = some (f b 16) := ok_gI (q := (0, 1, 0, [0, b + 1 + 2, 0, b + 2 + 2, b + 3 + 2, b + 4 + 2, b + 5 + 2, b + 6 + 2, b + 7 + 2, b + 8 + 2, 0, b + 9 + 2, b + 10 + 2, b + 11 + 2, 0, b + 12 + 2, 0])) (h 0 (by decide)) rfl f rfl
theorem p_C_16 {z : Mem} {b : Nat} (h : Ch z b) (f : Nat → Nat → Int32) (v : Int32) : pF (mkM f z) 1 b 16 (.int v) = some (mkM (up f b (upd (f b) 16 v)) z) := ok_pF (q := (0, 1, 0, [0, b + 1 + 2, 0, b + 2 + 2, b + 3 + 2, b + 4 + 2, b + 5 + 2, b + 6 + 2, b + 7 + 2, b + 8 + 2, 0, b + 9 + 2, b + 10 + 2, b + 11 + 2, 0, b + 12 + 2, 0])) (h 0 (by decide)) rfl f rfl v
theorem l_C1 {z : Mem} {b : Nat} (h : Ch z b) (f : Nat → Nat → Int32) {k : Nat} (hk : k < 6) : lI (mkM f z) (b + 1) (wI k) = some (f (b + 1) k) := ok_lI (q := (1, 0, 6, [])) (h 1 (by decide)) rfl rfl f hk (by decide)
theorem s_C1 {z : Mem} {b : Nat} (h : Ch z b) (f : Nat → Nat → Int32) {k : Nat} (v : Int32) (hk : k < 6) : sI (mkM f z) (b + 1) (wI k) v = some (mkM (up f (b + 1) (upd (f (b + 1)) k v)) z) := ok_sI (q := (1, 0, 6, [])) (h 1 (by decide)) rfl rfl f v hk (by decide)
theorem n_C1 {z : Mem} {b : Nat} (h : Ch z b) (f : Nat → Nat → Int32) : aln (mkM f z) (b + 1) = some (wI 6) := ok_aln (q := (1, 0, 6, [])) (h 1 (by decide)) rfl (show (0 : Nat) < 7 by decide) f
theorem y_C1 {z : Mem} {b e : Nat} (h : Ch z b) (h2 : Ch z e) (f : Nat → Nat → Int32) : cpI (mkM f z) (e + 1) 0 (b + 1) 0 6 = some (mkM (up f (b + 1) (va_cpy (f (e + 1)) (f (b + 1)) 0 0 6)) z) := ok_cpI (q := (1, 0, 6, [])) (q2 := (1, 0, 6, [])) (h 1 (by decide)) rfl rfl (h2 1 (by decide)) rfl rfl f (by decide) (by decide) (by decide)
theorem l_C2 {z : Mem} {b : Nat} (h : Ch z b) (f : Nat → Nat → Int32) {k : Nat} (hk : k < 10) : lI (mkM f z) (b + 2) (wI k) = some (f (b + 2) k) := ok_lI (q := (1, 0, 10, [])) (h 2 (by decide)) rfl rfl f hk (by decide)
theorem s_C2 {z : Mem} {b : Nat} (h : Ch z b) (f : Nat → Nat → Int32) {k : Nat} (v : Int32) (hk : k < 10) : sI (mkM f z) (b + 2) (wI k) v = some (mkM (up f (b + 2) (upd (f (b + 2)) k v)) z) := ok_sI (q := (1, 0, 10, [])) (h 2 (by decide)) rfl rfl f v hk (by decide)
theorem n_C2 {z : Mem} {b : Nat} (h : Ch z b) (f : Nat → Nat → Int32) : aln (mkM f z) (b + 2) = some (wI 10) := ok_aln (q := (1, 0, 10, [])) (h 2 (by decide)) rfl (show (0 : Nat) < 7 by decide) f
theorem y_C2 {z : Mem} {b e : Nat} (h : Ch z b) (h2 : Ch z e) (f : Nat → Nat → Int32) : cpI (mkM f z) (e + 2) 0 (b + 2) 0 10 = some (mkM (up f (b + 2) (va_cpy (f (e + 2)) (f (b + 2)) 0 0 10)) z) := ok_cpI (q := (1, 0, 10, [])) (q2 := (1, 0, 10, [])) (h 2 (by decide)) rfl rfl (h2 2 (by decide)) rfl rfl f (by decide) (by decide) (by decide)
theorem l_C3 {z : Mem} {b : Nat} (h : Ch z b) (f : Nat → Nat → Int32) {k : Nat} (hk : k < 10) : lI (mkM f z) (b + 3) (wI k) = some (f (b + 3) k) := ok_lI (q := (1, 0, 10, [])) (h 3 (by decide)) rfl rfl f hk (by decide)
theorem s_C3 {z : Mem} {b : Nat} (h : Ch z b) (f : Nat → Nat → Int32) {k : Nat} (v : Int32) (hk : k < 10) : sI (mkM f z) (b + 3) (wI k) v = some (mkM (up f (b + 3) (upd (f (b + 3)) k v)) z) := ok_sI (q := (1, 0, 10, [])) (h 3 (by decide)) rfl rfl f v hk (by decide)
theorem n_C3 {z : Mem} {b : Nat} (h : Ch z b) (f : Nat → Nat → Int32) : aln (mkM f z) (b + 3) = some (wI 10) := ok_aln (q := (1, 0, 10, [])) (h 3 (by decide)) rfl (show (0 : Nat) < 7 by decide) f
theorem y_C3 {z : Mem} {b e : Nat} (h : Ch z b) (h2 : Ch z e) (f : Nat → Nat → Int32) : cpI (mkM f z) (e + 3) 0 (b + 3) 0 10 = some (mkM (up f (b + 3) (va_cpy (f (e + 3)) (f (b + 3)) 0 0 10)) z) := ok_cpI (q := (1, 0, 10, [])) (q2 := (1, 0, 10, [])) (h 3 (by decide)) rfl rfl (h2 3 (by decide)) rfl rfl f (by decide) (by decide) (by decide)
theorem l_C4 {z : Mem} {b : Nat} (h : Ch z b) (f : Nat → Nat → Int32) {k : Nat} (hk : k < 10) : lI (mkM f z) (b + 4) (wI k) = some (f (b + 4) k) := ok_lI (q := (1, 0, 10, [])) (h 4 (by decide)) rfl rfl f hk (by decide)
theorem s_C4 {z : Mem} {b : Nat} (h : Ch z b) (f : Nat → Nat → Int32) {k : Nat} (v : Int32) (hk : k < 10) : sI (mkM f z) (b + 4) (wI k) v = some (mkM (up f (b + 4) (upd (f (b + 4)) k v)) z) := ok_sI (q := (1, 0, 10, [])) (h 4 (by decide)) rfl rfl f v hk (by decide)
theorem n_C4 {z : Mem} {b : Nat} (h : Ch z b) (f : Nat → Nat → Int32) : aln (mkM f z) (b + 4) = some (wI 10) := ok_aln (q := (1, 0, 10, [])) (h 4 (by decide)) rfl (show (0 : Nat) < 7 by decide) f
theorem y_C4 {z : Mem} {b e : Nat} (h : Ch z b) (h2 : Ch z e) (f : Nat → Nat → Int32) : cpI (mkM f z) (e + 4) 0 (b + 4) 0 10 = some (mkM (up f (b + 4) (va_cpy (f (e + 4)) (f (b + 4)) 0 0 10)) z) := ok_cpI (q := (1, 0, 10, [])) (q2 := (1, 0, 10, [])) (h 4 (by decide)) rfl rfl (h2 4 (by decide)) rfl rfl f (by decide) (by decide) (by decide)
theorem l_C5 {z : Mem} {b : Nat} (h : Ch z b) (f : Nat → Nat → Int32) {k : Nat} (hk : k < 10) : lI (mkM f z) (b + 5) (wI k) = some (f (b + 5) k) := ok_lI (q := (1, 0, 10, [])) (h 5 (by decide)) rfl rfl f hk (by decide)
theorem s_C5 {z : Mem} {b : Nat} (h : Ch z b) (f : Nat → Nat → Int32) {k : Nat} (v : Int32) (hk : k < 10) : sI (mkM f z) (b + 5) (wI k) v = some (mkM (up f (b + 5) (upd (f (b + 5)) k v)) z) := ok_sI (q := (1, 0, 10, [])) (h 5 (by decide)) rfl rfl f v hk (by decide)
theorem n_C5 {z : Mem} {b : Nat} (h : Ch z b) (f : Nat → Nat → Int32) : aln (mkM f z) (b + 5) = some (wI 10) := ok_aln (q := (1, 0, 10, [])) (h 5 (by decide)) rfl (show (0 : Nat) < 7 by decide) f
theorem y_C5 {z : Mem} {b e : Nat} (h : Ch z b) (h2 : Ch z e) (f : Nat → Nat → Int32) : cpI (mkM f z) (e + 5) 0 (b + 5) 0 10 = some (mkM (up f (b + 5) (va_cpy (f (e + 5)) (f (b + 5)) 0 0 10)) z) := ok_cpI (q := (1, 0, 10, [])) (q2 := (1, 0, 10, [])) (h 5 (by decide)) rfl rfl (h2 5 (by decide)) rfl rfl f (by decide) (by decide) (by decide)
theorem l_C6 {z : Mem} {b : Nat} (h : Ch z b) (f : Nat → Nat → Int32) {k : Nat} (hk : k < 10) : lI (mkM f z) (b + 6) (wI k) = some (f (b + 6) k) := ok_lI (q := (1, 0, 10, [])) (h 6 (by decide)) rfl rfl f hk (by decide)
theorem s_C6 {z : Mem} {b : Nat} (h : Ch z b) (f : Nat → Nat → Int32) {k : Nat} (v : Int32) (hk : k < 10) : sI (mkM f z) (b + 6) (wI k) v = some (mkM (up f (b + 6) (upd (f (b + 6)) k v)) z) := ok_sI (q := (1, 0, 10, [])) (h 6 (by decide)) rfl rfl f v hk (by decide)
theorem n_C6 {z : Mem} {b : Nat} (h : Ch z b) (f : Nat → Nat → Int32) : aln (mkM f z) (b + 6) = some (wI 10) := ok_aln (q := (1, 0, 10, [])) (h 6 (by decide)) rfl (show (0 : Nat) < 7 by decide) f
theorem y_C6 {z : Mem} {b e : Nat} (h : Ch z b) (h2 : Ch z e) (f : Nat → Nat → Int32) : cpI (mkM f z) (e + 6) 0 (b + 6) 0 10 = some (mkM (up f (b + 6) (va_cpy (f (e + 6)) (f (b + 6)) 0 0 10)) z) := ok_cpI (q := (1, 0, 10, [])) (q2 := (1, 0, 10, [])) (h 6 (by decide)) rfl rfl (h2 6 (by decide)) rfl rfl f (by decide) (by decide) (by decide)
theorem l_C7 {z : Mem} {b : Nat} (h : Ch z b) (f : Nat → Nat → Int32) {k : Nat} (hk : k < 10) : lI (mkM f z) (b + 7) (wI k) = some (f (b + 7) k) := ok_lI (q := (1, 0, 10, [])) (h 7 (by decide)) rfl rfl f hk (by decide)
theorem s_C7 {z : Mem} {b : Nat} (h : Ch z b) (f : Nat → Nat → Int32) {k : Nat} (v : Int32) (hk : k < 10) : sI (mkM f z) (b + 7) (wI k) v = some (mkM (up f (b + 7) (upd (f (b + 7)) k v)) z) := ok_sI (q := (1, 0, 10, [])) (h 7 (by decide)) rfl rfl f v hk (by decide)
theorem n_C7 {z : Mem} {b : Nat} (h : Ch z b) (f : Nat → Nat → Int32) : aln (mkM f z) (b + 7) = some (wI 10) := ok_aln (q := (1, 0, 10, [])) (h 7 (by decide)) rfl (show (0 : Nat) < 7 by decide) f
theorem y_C7 {z : Mem} {b e : Nat} (h : Ch z b) (h2 : Ch z e) (f : Nat → Nat → Int32) : cpI (mkM f z) (e + 7) 0 (b + 7) 0 10 = some (mkM (up f (b + 7) (va_cpy (f (e + 7)) (f (b + 7)) 0 0 10)) z) := ok_cpI (q := (1, 0, 10, [])) (q2 := (1, 0, 10, [])) (h 7 (by decide)) rfl rfl (h2 7 (by decide)) rfl rfl f (by decide) (by decide) (by decide)
theorem l_C8 {z : Mem} {b : Nat} (h : Ch z b) (f : Nat → Nat → Int32) {k : Nat} (hk : k < 10) : lI (mkM f z) (b + 8) (wI k) = some (f (b + 8) k) := ok_lI (q := (1, 0, 10, [])) (h 8 (by decide)) rfl rfl f hk (by decide)
theorem s_C8 {z : Mem} {b : Nat} (h : Ch z b) (f : Nat → Nat → Int32) {k : Nat} (v : Int32) (hk : k < 10) : sI (mkM f z) (b + 8) (wI k) v = some (mkM (up f (b + 8) (upd (f (b + 8)) k v)) z) := ok_sI (q := (1, 0, 10, [])) (h 8 (by decide)) rfl rfl f v hk (by decide)
theorem n_C8 {z : Mem} {b : Nat} (h : Ch z b) (f : Nat → Nat → Int32) : aln (mkM f z) (b + 8) = some (wI 10) := ok_aln (q := (1, 0, 10, [])) (h 8 (by decide)) rfl (show (0 : Nat) < 7 by decide) f
theorem y_C8 {z : Mem} {b e : Nat} (h : Ch z b) (h2 : Ch z e) (f : Nat → Nat → Int32) : cpI (mkM f z) (e + 8) 0 (b + 8) 0 10 = some (mkM (up f (b + 8) (va_cpy (f (e + 8)) (f (b + 8)) 0 0 10)) z) := ok_cpI (q := (1, 0, 10, [])) (q2 := (1, 0, 10, [])) (h 8 (by decide)) rfl rfl (h2 8 (by decide)) rfl rfl f (by decide) (by decide) (by decide)
theorem l_C9 {z : Mem} {b : Nat} (h : Ch z b) (f : Nat → Nat → Int32) {k : Nat} (hk : k < 10) : lI (mkM f z) (b + 9) (wI k) = some (f (b + 9) k) := ok_lI (q := (1, 0, 10, [])) (h 9 (by decide)) rfl rfl f hk (by decide)
theorem s_C9 {z : Mem} {b : Nat} (h : Ch z b) (f : Nat → Nat → Int32) {k : Nat} (v : Int32) (hk : k < 10) : sI (mkM f z) (b + 9) (wI k) v = some (mkM (up f (b + 9) (upd (f (b + 9)) k v)) z) := ok_sI (q := (1, 0, 10, [])) (h 9 (by decide)) rfl rfl f v hk (by decide)
theorem n_C9 {z : Mem} {b : Nat} (h : Ch z b) (f : Nat → Nat → Int32) : aln (mkM f z) (b + 9) = some (wI 10) := ok_aln (q := (1, 0, 10, [])) (h 9 (by decide)) rfl (show (0 : Nat) < 7 by decide) f
theorem y_C9 {z : Mem} {b e : Nat} (h : Ch z b) (h2 : Ch z e) (f : Nat → Nat → Int32) : cpI (mkM f z) (e + 9) 0 (b + 9) 0 10 = some (mkM (up f (b + 9) (va_cpy (f (e + 9)) (f (b + 9)) 0 0 10)) z) := ok_cpI (q := (1, 0, 10, [])) (q2 := (1, 0, 10, [])) (h 9 (by decide)) rfl rfl (h2 9 (by decide)) rfl rfl f (by decide) (by decide) (by decide)
theorem l_C10 {z : Mem} {b : Nat} (h : Ch z b) (f : Nat → Nat → Int32) {k : Nat} (hk : k < 10) : lI (mkM f z) (b + 10) (wI k) = some (f (b + 10) k) := ok_lI (q := (1, 0, 10, [])) (h 10 (by decide)) rfl rfl f hk (by decide)
theorem s_C10 {z : Mem} {b : Nat} (h : Ch z b) (f : Nat → Nat → Int32) {k : Nat} (v : Int32) (hk : k < 10) : sI (mkM f z) (b + 10) (wI k) v = some (mkM (up f (b + 10) (upd (f (b + 10)) k v)) z) := ok_sI (q := (1, 0, 10, [])) (h 10 (by decide)) rfl rfl f v hk (by decide)
theorem n_C10 {z : Mem} {b : Nat} (h : Ch z b) (f : Nat → Nat → Int32) : aln (mkM f z) (b + 10) = some (wI 10) := ok_aln (q := (1, 0, 10, [])) (h 10 (by decide)) rfl (show (0 : Nat) < 7 by decide) f
theorem y_C10 {z : Mem} {b e : Nat} (h : Ch z b) (h2 : Ch z e) (f : Nat → Nat → Int32) : cpI (mkM f z) (e + 10) 0 (b + 10) 0 10 = some (mkM (up f (b + 10) (va_cpy (f (e + 10)) (f (b + 10)) 0 0 10)) z) := ok_cpI (q := (1, 0, 10, [])) (q2 := (1, 0, 10, [])) (h 10 (by decide)) rfl rfl (h2 10 (by decide)) rfl rfl f (by decide) (by decide) (by decide)
theorem l_C11 {z : Mem} {b : Nat} (h : Ch z b) (f : Nat → Nat → Int32) {k : Nat} (hk : k < 3) : lI (mkM f z) (b + 11) (wI k) = some (f (b + 11) k) := ok_lI (q := (1, 0, 3, [])) (h 11 (by decide)) rfl rfl f hk (by decide)
theorem s_C11 {z : Mem} {b : Nat} (h : Ch z b) (f : Nat → Nat → Int32) {k : Nat} (v : Int32) (hk : k < 3) : sI (mkM f z) (b + 11) (wI k) v = some (mkM (up f (b + 11) (upd (f (b + 11)) k v)) z) := ok_sI (q := (1, 0, 3, [])) (h 11 (by decide)) rfl rfl f v hk (by decide)
theorem n_C11 {z : Mem} {b : Nat} (h : Ch z b) (f : Nat → Nat → Int32) : aln (mkM f z) (b + 11) = some (wI 3) := ok_aln (q := (1, 0, 3, [])) (h 11 (by decide)) rfl (show (0 : Nat) < 7 by decide) f
theorem y_C11 {z : Mem} {b e : Nat} (h : Ch z b) (h2 : Ch z e) (f : Nat → Nat → Int32) : cpI (mkM f z) (e + 11) 0 (b + 11) 0 3 = some (mkM (up f (b + 11) (va_cpy (f (e + 11)) (f (b + 11)) 0 0 3)) z) := ok_cpI (q := (1, 0, 3, [])) (q2 := (1, 0, 3, [])) (h 11 (by decide)) rfl rfl (h2 11 (by decide)) rfl rfl f (by decide) (by decide) (by decide)
theorem l_C12 {z : Mem} {b : Nat} (h : Ch z b) (f : Nat → Nat → Int32) {k : Nat} (hk : k < 6) : lQ (mkM f z) (b + 12) (wI k) = some (rfo (f (b + 12) k)) := ok_lQ (q := (3, 4, 6, [])) (h 12 (by decide)) rfl (by decide) f hk (by decide)
theorem s_C12 {z : Mem} {b : Nat} (h : Ch z b) (f : Nat → Nat → Int32) {k : Nat} {x : Option Nat} {v : Int32} (hv : rfo v = x) (hx : ∀ y, x = some y → isC (mkM f z) 5 y = true) (hk : k < 6) : sQ (mkM f z) (b + 12) (wI k) x = some (mkM (up f (b + 12) (upd (f (b + 12)) k v)) z) := ok_sQ (q := (3, 4, 6, [])) (h 12 (by decide)) rfl (by decide) f hv hx hk (by decide)
theorem Ch_1 {z : Mem} (h : Sh z) : Ch z 1 := fun j hj => by
  match j, hj with
  | 0, _ => exact h 1 (by decide)
  | 1, _ => exact h 2 (by decide)
  | 2, _ => exact h 3 (by decide)
  | 3, _ => exact h 4 (by decide)
  | 4, _ => exact h 5 (by decide)
  | 5, _ => exact h 6 (by decide)
  | 6, _ => exact h 7 (by decide)
  | 7, _ => exact h 8 (by decide)
  | 8, _ => exact h 9 (by decide)
  | 9, _ => exact h 10 (by decide)
  | 10, _ => exact h 11 (by decide)
  | 11, _ => exact h 12 (by decide)
  | 12, _ => exact h 13 (by decide)
theorem Ch_14 {z : Mem} (h : Sh z) : Ch z 14 := fun j hj => by
  match j, hj with
  | 0, _ => exact h 14 (by decide)
  | 1, _ => exact h 15 (by decide)
  | 2, _ => exact h 16 (by decide)
  | 3, _ => exact h 17 (by decide)
  | 4, _ => exact h 18 (by decide)
  | 5, _ => exact h 19 (by decide)
  | 6, _ => exact h 20 (by decide)
  | 7, _ => exact h 21 (by decide)
  | 8, _ => exact h 22 (by decide)
  | 9, _ => exact h 23 (by decide)
  | 10, _ => exact h 24 (by decide)
  | 11, _ => exact h 25 (by decide)
  | 12, _ => exact h 26 (by decide)
/-- a program lies at q .. q + 2, with room for hl heads (six each) and sl steps -/
def Pg (z : Mem) (q hl sl : Nat) : Prop := okCl (0, 5, 0, [0, 0, q + 1 + 2, q + 2 + 2]) (z.2.2 q) = true ∧ okCl (1, 0, hl, []) (z.2.2 (q + 1)) = true ∧ okCl (1, 0, sl, []) (z.2.2 (q + 2)) = true ∧ hl ≤ 72 ∧ sl ≤ 400
theorem c_Q {z : Mem} {q hl sl : Nat} (h : Pg z q hl sl) (f : Nat → Nat → Int32) (A B : Option Rs) : (bif isC (mkM f z) 5 q then A else B) = A := congrArg (fun b => cond b A B) (ok_isC (q := (0, 5, 0, [0, 0, q + 1 + 2, q + 2 + 2])) h.1 rfl f)
theorem cc_Q {z : Mem} {q hl sl : Nat} (h : Pg z q hl sl) (f : Nat → Nat → Int32) : isC (mkM f z) 5 q = true := ok_isC (q := (0, 5, 0, [0, 0, q + 1 + 2, q + 2 + 2])) h.1 rfl f
theorem g_Q_0 {z : Mem} {q hl sl : Nat} (h : Pg z q hl sl) (f : Nat → Nat → Int32) : gI (mkM f z) 5 q 0 = some (f q 0) := ok_gI (q := (0, 5, 0, [0, 0, q + 1 + 2, q + 2 + 2])) h.1 rfl f rfl
theorem p_Q_0 {z : Mem} {q hl sl : Nat} (h : Pg z q hl sl) (f : Nat → Nat → Int32) (v : Int32) : pF (mkM f z) 5 q 0 (.int v) = some (mkM (up f q (upd (f q) 0 v)) z) := ok_pF (q := (0, 5, 0, [0, 0, q + 1 + 2, q + 2 + 2])) h.1 rfl f rfl v
theorem g_Q_1 {z : Mem} {q hl sl : Nat} (h : Pg z q hl sl) (f : Nat → Nat → Int32) : gI (mkM f z) 5 q 1 = some (f q 1) := ok_gI (q := (0, 5, 0, [0, 0, q + 1 + 2, q + 2 + 2])) h.1 rfl f rfl
theorem p_Q_1 {z : Mem} {q hl sl : Nat} (h : Pg z q hl sl) (f : Nat → Nat → Int32) (v : Int32) : pF (mkM f z) 5 q 1 (.int v) = some (mkM (up f q (upd (f q) 1 v)) z) := ok_pF (q := (0, 5, 0, [0, 0, q + 1 + 2, q + 2 + 2])) h.1 rfl f rfl v
theorem r_Q_2 {z : Mem} {q hl sl : Nat} (h : Pg z q hl sl) (f : Nat → Nat → Int32) : gR (mkM f z) 5 q 2 = some (q + 1) := ok_gR (q := (0, 5, 0, [0, 0, q + 1 + 2, q + 2 + 2])) h.1 rfl f rfl
theorem r_Q_3 {z : Mem} {q hl sl : Nat} (h : Pg z q hl sl) (f : Nat → Nat → Int32) : gR (mkM f z) 5 q 3 = some (q + 2) := ok_gR (q := (0, 5, 0, [0, 0, q + 1 + 2, q + 2 + 2])) h.1 rfl f rfl
theorem l_Q1 {z : Mem} {q hl sl : Nat} (h : Pg z q hl sl) (f : Nat → Nat → Int32) {k : Nat} (hk : k < hl) : lI (mkM f z) (q + 1) (wI k) = some (f (q + 1) k) := ok_lI (q := (1, 0, hl, [])) h.2.1 rfl rfl f hk (Nat.lt_of_le_of_lt h.2.2.2.1 (by decide))
theorem s_Q1 {z : Mem} {q hl sl : Nat} (h : Pg z q hl sl) (f : Nat → Nat → Int32) {k : Nat} (v : Int32) (hk : k < hl) : sI (mkM f z) (q + 1) (wI k) v = some (mkM (up f (q + 1) (upd (f (q + 1)) k v)) z) := ok_sI (q := (1, 0, hl, [])) h.2.1 rfl rfl f v hk (Nat.lt_of_le_of_lt h.2.2.2.1 (by decide))
theorem n_Q1 {z : Mem} {q hl sl : Nat} (h : Pg z q hl sl) (f : Nat → Nat → Int32) : aln (mkM f z) (q + 1) = some (wI hl) := ok_aln (q := (1, 0, hl, [])) h.2.1 rfl (show (0 : Nat) < 7 by decide) f
theorem l_Q2 {z : Mem} {q hl sl : Nat} (h : Pg z q hl sl) (f : Nat → Nat → Int32) {k : Nat} (hk : k < sl) : lI (mkM f z) (q + 2) (wI k) = some (f (q + 2) k) := ok_lI (q := (1, 0, sl, [])) h.2.2.1 rfl rfl f hk (Nat.lt_of_le_of_lt h.2.2.2.2 (by decide))
theorem s_Q2 {z : Mem} {q hl sl : Nat} (h : Pg z q hl sl) (f : Nat → Nat → Int32) {k : Nat} (v : Int32) (hk : k < sl) : sI (mkM f z) (q + 2) (wI k) v = some (mkM (up f (q + 2) (upd (f (q + 2)) k v)) z) := ok_sI (q := (1, 0, sl, [])) h.2.2.1 rfl rfl f v hk (Nat.lt_of_le_of_lt h.2.2.2.2 (by decide))
theorem n_Q2 {z : Mem} {q hl sl : Nat} (h : Pg z q hl sl) (f : Nat → Nat → Int32) : aln (mkM f z) (q + 2) = some (wI sl) := ok_aln (q := (1, 0, sl, [])) h.2.2.1 rfl (show (0 : Nat) < 7 by decide) f
theorem Pg_34 {z : Mem} (h : Sh z) : Pg z 34 72 400 := ⟨h 34 (by decide), h 35 (by decide), h 36 (by decide), by decide, by decide⟩
