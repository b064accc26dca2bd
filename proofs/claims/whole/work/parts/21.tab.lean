/-! ===== specs: the cells 0..85 (printed by wip/whole/mkbase.py) ===== -/
def dsc : List (Nat × Nat × Nat × List Nat) := [(0, 8, 0, [3, 16, 29, 1, 30, 32, 34, 0, 35, 40, 42, 47, 53, 0, 0, 0, 0, 0, 0, 59]), (0, 1, 0, [0, 4, 0, 5, 6, 7, 8, 9, 10, 11, 0, 12, 13, 14, 0, 15, 0]), (1, 0, 6, []), (1, 0, 10, []), (1, 0, 10, []), (1, 0, 10, []), (1, 0, 10, []), (1, 0, 10, []), (1, 0, 10, []), (1, 0, 10, []), (1, 0, 10, []), (1, 0, 10, []), (1, 0, 3, []), (3, 4, 6, []), (0, 1, 0, [0, 17, 0, 18, 19, 20, 21, 22, 23, 24, 0, 25, 26, 27, 0, 28, 0]), (1, 0, 6, []), (1, 0, 10, []), (1, 0, 10, []), (1, 0, 10, []), (1, 0, 10, []), (1, 0, 10, []), (1, 0, 10, []), (1, 0, 10, []), (1, 0, 10, []), (1, 0, 10, []), (1, 0, 3, []), (3, 4, 6, []), (3, 5, 2, []), (0, 3, 0, [31, 0, 0]), (1, 0, 119, []), (0, 3, 0, [33, 0, 0]), (1, 0, 119, []), (1, 0, 400, []), (0, 6, 0, [36, 1, 0, 0, 0, 0, 0, 0, 0, 0]), (0, 5, 0, [0, 0, 37, 38]), (1, 0, 72, []), (1, 0, 400, []), (1, 0, 0, []), (0, 7, 0, [41, 1, 0, 0, 0, 0]), (1, 0, 64, []), (0, 4, 0, [43, 44, 45, 46, 0]), (1, 0, 10, []), (1, 0, 10, []), (1, 0, 10, []), (1, 0, 45, []), (0, 2, 0, [48, 49, 50, 51, 52, 0]), (1, 0, 6, []), (1, 0, 6, []), (1, 0, 6, []), (1, 0, 6, []), (1, 0, 6, []), (0, 0, 0, [54, 55, 56, 57, 58, 0, 0]), (1, 0, 7, []), (1, 0, 7, []), (1, 0, 7, []), (1, 0, 10, []), (1, 0, 10, []), (1, 0, 5, []), (0, 9, 0, [0, 61, 62, 63, 64, 65, 0, 66, 0, 0, 0, 67, 68, 0, 0, 69, 70, 71, 0, 0, 0, 0, 0, 0, 0, 0, 72, 0, 0, 73, 74, 0, 75, 76, 77, 78, 79, 80, 0, 81, 82, 83, 0, 0, 0, 0, 0, 0, 0, 84, 85, 86, 87, 0, 0, 0]), (1, 0, 7, []), (1, 0, 5711, []), (1, 0, 11422, []), (1, 2, 2, []), (1, 0, 333, []), (1, 1, 122, []), (1, 1, 400, []), (1, 0, 5, []), (1, 0, 401, []), (1, 0, 401, []), (1, 0, 401, []), (1, 0, 9, []), (1, 0, 608, []), (1, 0, 608, []), (1, 2, 100, []), (1, 1, 11264, []), (1, 0, 6, []), (1, 0, 6, []), (1, 0, 6, []), (1, 0, 6, []), (1, 0, 6, []), (1, 0, 7, []), (1, 0, 7, []), (2, 3, 2, []), (1, 0, 6, []), (1, 0, 10, []), (1, 0, 10, [])]
def Sh (z : Mem) : Prop := ∀ a, a < 86 → okCl (dsc.getD a (9, 9, 9, [])) (z.2.2 a) = true
theorem l_2 : (2 : Int32) = wI 2 := rfl
theorem l_3 : (3 : Int32) = wI 3 := rfl
theorem l_4 : (4 : Int32) = wI 4 := rfl
theorem l_5 : (5 : Int32) = wI 5 := rfl
theorem l_6 : (6 : Int32) = wI 6 := rfl
theorem l_7 : (7 : Int32) = wI 7 := rfl
theorem l_8 : (8 : Int32) = wI 8 := rfl
theorem l_9 : (9 : Int32) = wI 9 := rfl
theorem l_10 : (10 : Int32) = wI 10 := rfl
theorem l_11 : (11 : Int32) = wI 11 := rfl
theorem l_12 : (12 : Int32) = wI 12 := rfl
theorem l_13 : (13 : Int32) = wI 13 := rfl
theorem l_14 : (14 : Int32) = wI 14 := rfl
theorem l_15 : (15 : Int32) = wI 15 := rfl
theorem l_16 : (16 : Int32) = wI 16 := rfl
theorem l_17 : (17 : Int32) = wI 17 := rfl
theorem l_18 : (18 : Int32) = wI 18 := rfl
theorem l_19 : (19 : Int32) = wI 19 := rfl
theorem l_20 : (20 : Int32) = wI 20 := rfl
theorem l_21 : (21 : Int32) = wI 21 := rfl
theorem l_22 : (22 : Int32) = wI 22 := rfl
theorem l_23 : (23 : Int32) = wI 23 := rfl
theorem l_24 : (24 : Int32) = wI 24 := rfl
theorem l_25 : (25 : Int32) = wI 25 := rfl
theorem l_26 : (26 : Int32) = wI 26 := rfl
theorem l_27 : (27 : Int32) = wI 27 := rfl
theorem l_28 : (28 : Int32) = wI 28 := rfl
theorem l_29 : (29 : Int32) = wI 29 := rfl
theorem l_30 : (30 : Int32) = wI 30 := rfl
theorem l_31 : (31 : Int32) = wI 31 := rfl
theorem l_32 : (32 : Int32) = wI 32 := rfl
theorem l_33 : (33 : Int32) = wI 33 := rfl
theorem l_34 : (34 : Int32) = wI 34 := rfl
theorem l_35 : (35 : Int32) = wI 35 := rfl
theorem l_36 : (36 : Int32) = wI 36 := rfl
theorem l_37 : (37 : Int32) = wI 37 := rfl
theorem l_38 : (38 : Int32) = wI 38 := rfl
theorem l_39 : (39 : Int32) = wI 39 := rfl
theorem l_40 : (40 : Int32) = wI 40 := rfl
theorem l_41 : (41 : Int32) = wI 41 := rfl
theorem l_42 : (42 : Int32) = wI 42 := rfl
theorem l_43 : (43 : Int32) = wI 43 := rfl
theorem l_44 : (44 : Int32) = wI 44 := rfl
theorem l_45 : (45 : Int32) = wI 45 := rfl
theorem l_46 : (46 : Int32) = wI 46 := rfl
theorem l_47 : (47 : Int32) = wI 47 := rfl
theorem l_48 : (48 : Int32) = wI 48 := rfl
theorem l_49 : (49 : Int32) = wI 49 := rfl
theorem l_50 : (50 : Int32) = wI 50 := rfl
theorem l_51 : (51 : Int32) = wI 51 := rfl
theorem l_52 : (52 : Int32) = wI 52 := rfl
theorem l_53 : (53 : Int32) = wI 53 := rfl
theorem l_54 : (54 : Int32) = wI 54 := rfl
theorem l_55 : (55 : Int32) = wI 55 := rfl
theorem l_56 : (56 : Int32) = wI 56 := rfl
theorem l_57 : (57 : Int32) = wI 57 := rfl
theorem l_58 : (58 : Int32) = wI 58 := rfl
theorem l_59 : (59 : Int32) = wI 59 := rfl
theorem l_60 : (60 : Int32) = wI 60 := rfl
theorem l_61 : (61 : Int32) = wI 61 := rfl
theorem l_62 : (62 : Int32) = wI 62 := rfl
theorem l_63 : (63 : Int32) = wI 63 := rfl
theorem l_64 : (64 : Int32) = wI 64 := rfl
theorem l_65 : (65 : Int32) = wI 65 := rfl
theorem l_66 : (66 : Int32) = wI 66 := rfl
theorem l_67 : (67 : Int32) = wI 67 := rfl
theorem l_68 : (68 : Int32) = wI 68 := rfl
theorem l_69 : (69 : Int32) = wI 69 := rfl
theorem l_70 : (70 : Int32) = wI 70 := rfl
theorem l_71 : (71 : Int32) = wI 71 := rfl
theorem l_72 : (72 : Int32) = wI 72 := rfl
theorem l_73 : (73 : Int32) = wI 73 := rfl
theorem l_74 : (74 : Int32) = wI 74 := rfl
theorem l_75 : (75 : Int32) = wI 75 := rfl
theorem l_76 : (76 : Int32) = wI 76 := rfl
theorem l_77 : (77 : Int32) = wI 77 := rfl
theorem l_78 : (78 : Int32) = wI 78 := rfl
theorem l_79 : (79 : Int32) = wI 79 := rfl
theorem l_80 : (80 : Int32) = wI 80 := rfl
theorem l_81 : (81 : Int32) = wI 81 := rfl
theorem l_82 : (82 : Int32) = wI 82 := rfl
theorem l_83 : (83 : Int32) = wI 83 := rfl
theorem l_84 : (84 : Int32) = wI 84 := rfl
theorem l_85 : (85 : Int32) = wI 85 := rfl
theorem l_86 : (86 : Int32) = wI 86 := rfl
theorem l_87 : (87 : Int32) = wI 87 := rfl
theorem l_88 : (88 : Int32) = wI 88 := rfl
theorem l_89 : (89 : Int32) = wI 89 := rfl
theorem l_90 : (90 : Int32) = wI 90 := rfl
theorem l_91 : (91 : Int32) = wI 91 := rfl
theorem l_92 : (92 : Int32) = wI 92 := rfl
theorem l_93 : (93 : Int32) = wI 93 := rfl
theorem l_94 : (94 : Int32) = wI 94 := rfl
theorem l_95 : (95 : Int32) = wI 95 := rfl
theorem l_96 : (96 : Int32) = wI 96 := rfl
theorem l_97 : (97 : Int32) = wI 97 := rfl
theorem l_98 : (98 : Int32) = wI 98 := rfl
theorem l_99 : (99 : Int32) = wI 99 := rfl
theorem l_100 : (100 : Int32) = wI 100 := rfl
theorem l_101 : (101 : Int32) = wI 101 := rfl
theorem l_102 : (102 : Int32) = wI 102 := rfl
theorem l_103 : (103 : Int32) = wI 103 := rfl
theorem l_104 : (104 : Int32) = wI 104 := rfl
theorem l_105 : (105 : Int32) = wI 105 := rfl
theorem l_106 : (106 : Int32) = wI 106 := rfl
theorem l_107 : (107 : Int32) = wI 107 := rfl
theorem l_108 : (108 : Int32) = wI 108 := rfl
theorem l_109 : (109 : Int32) = wI 109 := rfl
theorem l_110 : (110 : Int32) = wI 110 := rfl
theorem l_111 : (111 : Int32) = wI 111 := rfl
theorem l_112 : (112 : Int32) = wI 112 := rfl
theorem l_113 : (113 : Int32) = wI 113 := rfl
theorem l_114 : (114 : Int32) = wI 114 := rfl
theorem l_115 : (115 : Int32) = wI 115 := rfl
theorem l_116 : (116 : Int32) = wI 116 := rfl
theorem l_117 : (117 : Int32) = wI 117 := rfl
theorem l_118 : (118 : Int32) = wI 118 := rfl
theorem l_119 : (119 : Int32) = wI 119 := rfl
theorem l_120 : (120 : Int32) = wI 120 := rfl
theorem l_121 : (121 : Int32) = wI 121 := rfl
theorem l_122 : (122 : Int32) = wI 122 := rfl
theorem l_255 : (255 : Int32) = wI 255 := rfl
theorem l_400 : (400 : Int32) = wI 400 := rfl
theorem l_608 : (608 : Int32) = wI 608 := rfl
theorem l_998 : (998 : Int32) = wI 998 := rfl
theorem l_999 : (999 : Int32) = wI 999 := rfl
theorem l_1000 : (1000 : Int32) = wI 1000 := rfl
theorem l_1024 : (1024 : Int32) = wI 1024 := rfl
theorem l_1103 : (1103 : Int32) = wI 1103 := rfl
theorem l_2400 : (2400 : Int32) = wI 2400 := rfl
theorem l_2911 : (2911 : Int32) = wI 2911 := rfl
theorem l_4095 : (4095 : Int32) = wI 4095 := rfl
theorem l_4096 : (4096 : Int32) = wI 4096 := rfl
theorem l_5711 : (5711 : Int32) = wI 5711 := rfl
theorem l_9999 : (9999 : Int32) = wI 9999 := rfl
theorem l_12345 : (12345 : Int32) = wI 12345 := rfl
theorem l_1000000 : (1000000 : Int32) = wI 1000000 := rfl
theorem l_1000003 : (1000003 : Int32) = wI 1000003 := rfl
theorem l_252645135 : (252645135 : Int32) = wI 252645135 := rfl
theorem l_858993459 : (858993459 : Int32) = wI 858993459 := rfl
theorem l_1431655765 : (1431655765 : Int32) = wI 1431655765 := rfl
theorem c_0 {z : Mem} (h : Sh z) (f : Nat → Nat → Int32) : isC (mkM f z) 8 0 = true := ok_isC (q := (0, 8, 0, [3, 16, 29, 1, 30, 32, 34, 0, 35, 40, 42, 47, 53, 0, 0, 0, 0, 0, 0, 59])) (h 0 (by decide)) rfl f
theorem r_0_0 {z : Mem} (h : Sh z) (f : Nat → Nat → Int32) : gR (mkM f z) 8 0 0 = some 1 := ok_gR (q := (0, 8, 0, [3, 16, 29, 1, 30, 32, 34, 0, 35, 40, 42, 47, 53, 0, 0, 0, 0, 0, 0, 59])) (h 0 (by decide)) rfl f rfl
theorem r_0_1 {z : Mem} (h : Sh z) (f : Nat → Nat → Int32) : gR (mkM f z) 8 0 1 = some 14 := ok_gR (q := (0, 8, 0, [3, 16, 29, 1, 30, 32, 34, 0, 35, 40, 42, 47, 53, 0, 0, 0, 0, 0, 0, 59])) (h 0 (by decide)) rfl f rfl
theorem r_0_2 {z : Mem} (h : Sh z) (f : Nat → Nat → Int32) : gR (mkM f z) 8 0 2 = some 27 := ok_gR (q := (0, 8, 0, [3, 16, 29, 1, 30, 32, 34, 0, 35, 40, 42, 47, 53, 0, 0, 0, 0, 0, 0, 59])) (h 0 (by decide)) rfl f rfl
theorem r_0_4 {z : Mem} (h : Sh z) (f : Nat → Nat → Int32) : gR (mkM f z) 8 0 4 = some 28 := ok_gR (q := (0, 8, 0, [3, 16, 29, 1, 30, 32, 34, 0, 35, 40, 42, 47, 53, 0, 0, 0, 0, 0, 0, 59])) (h 0 (by decide)) rfl f rfl
theorem r_0_5 {z : Mem} (h : Sh z) (f : Nat → Nat → Int32) : gR (mkM f z) 8 0 5 = some 30 := ok_gR (q := (0, 8, 0, [3, 16, 29, 1, 30, 32, 34, 0, 35, 40, 42, 47, 53, 0, 0, 0, 0, 0, 0, 59])) (h 0 (by decide)) rfl f rfl
theorem r_0_6 {z : Mem} (h : Sh z) (f : Nat → Nat → Int32) : gR (mkM f z) 8 0 6 = some 32 := ok_gR (q := (0, 8, 0, [3, 16, 29, 1, 30, 32, 34, 0, 35, 40, 42, 47, 53, 0, 0, 0, 0, 0, 0, 59])) (h 0 (by decide)) rfl f rfl
theorem g_0_7 {z : Mem} (h : Sh z) (f : Nat → Nat → Int32) : gI (mkM f z) 8 0 7 = some (f 0 7) := ok_gI (q := (0, 8, 0, [3, 16, 29, 1, 30, 32, 34, 0, 35, 40, 42, 47, 53, 0, 0, 0, 0, 0, 0, 59])) (h 0 (by decide)) rfl f rfl
theorem p_0_7 {z : Mem} (h : Sh z) (f : Nat → Nat → Int32) (v : Int32) : pF (mkM f z) 8 0 7 (.int v) = some (mkM (up f 0 (upd (f 0) 7 v)) z) := ok_pF (q := (0, 8, 0, [3, 16, 29, 1, 30, 32, 34, 0, 35, 40, 42, 47, 53, 0, 0, 0, 0, 0, 0, 59])) (h 0 (by decide)) rfl f rfl v
theorem r_0_8 {z : Mem} (h : Sh z) (f : Nat → Nat → Int32) : gR (mkM f z) 8 0 8 = some 33 := ok_gR (q := (0, 8, 0, [3, 16, 29, 1, 30, 32, 34, 0, 35, 40, 42, 47, 53, 0, 0, 0, 0, 0, 0, 59])) (h 0 (by decide)) rfl f rfl
theorem r_0_9 {z : Mem} (h : Sh z) (f : Nat → Nat → Int32) : gR (mkM f z) 8 0 9 = some 38 := ok_gR (q := (0, 8, 0, [3, 16, 29, 1, 30, 32, 34, 0, 35, 40, 42, 47, 53, 0, 0, 0, 0, 0, 0, 59])) (h 0 (by decide)) rfl f rfl
theorem r_0_10 {z : Mem} (h : Sh z) (f : Nat → Nat → Int32) : gR (mkM f z) 8 0 10 = some 40 := ok_gR (q := (0, 8, 0, [3, 16, 29, 1, 30, 32, 34, 0, 35, 40, 42, 47, 53, 0, 0, 0, 0, 0, 0, 59])) (h 0 (by decide)) rfl f rfl
theorem r_0_11 {z : Mem} (h : Sh z) (f : Nat → Nat → Int32) : gR (mkM f z) 8 0 11 = some 45 := ok_gR (q := (0, 8, 0, [3, 16, 29, 1, 30, 32, 34, 0, 35, 40, 42, 47, 53, 0, 0, 0, 0, 0, 0, 59])) (h 0 (by decide)) rfl f rfl
theorem r_0_12 {z : Mem} (h : Sh z) (f : Nat → Nat → Int32) : gR (mkM f z) 8 0 12 = some 51 := ok_gR (q := (0, 8, 0, [3, 16, 29, 1, 30, 32, 34, 0, 35, 40, 42, 47, 53, 0, 0, 0, 0, 0, 0, 59])) (h 0 (by decide)) rfl f rfl
theorem g_0_13 {z : Mem} (h : Sh z) (f : Nat → Nat → Int32) : gI (mkM f z) 8 0 13 = some (f 0 13) := ok_gI (q := (0, 8, 0, [3, 16, 29, 1, 30, 32, 34, 0, 35, 40, 42, 47, 53, 0, 0, 0, 0, 0, 0, 59])) (h 0 (by decide)) rfl f rfl
theorem p_0_13 {z : Mem} (h : Sh z) (f : Nat → Nat → Int32) (v : Int32) : pF (mkM f z) 8 0 13 (.int v) = some (mkM (up f 0 (upd (f 0) 13 v)) z) := ok_pF (q := (0, 8, 0, [3, 16, 29, 1, 30, 32, 34, 0, 35, 40, 42, 47, 53, 0, 0, 0, 0, 0, 0, 59])) (h 0 (by decide)) rfl f rfl v
theorem g_0_14 {z : Mem} (h : Sh z) (f : Nat → Nat → Int32) : gI (mkM f z) 8 0 14 = some (f 0 14) := ok_gI (q := (0, 8, 0, [3, 16, 29, 1, 30, 32, 34, 0, 35, 40, 42, 47, 53, 0, 0, 0, 0, 0, 0, 59])) (h 0 (by decide)) rfl f rfl
theorem p_0_14 {z : Mem} (h : Sh z) (f : Nat → Nat → Int32) (v : Int32) : pF (mkM f z) 8 0 14 (.int v) = some (mkM (up f 0 (upd (f 0) 14 v)) z) := ok_pF (q := (0, 8, 0, [3, 16, 29, 1, 30, 32, 34, 0, 35, 40, 42, 47, 53, 0, 0, 0, 0, 0, 0, 59])) (h 0 (by decide)) rfl f rfl v
theorem g_0_15 {z : Mem} (h : Sh z) (f : Nat → Nat → Int32) : gI (mkM f z) 8 0 15 = some (f 0 15) := ok_gI (q := (0, 8, 0, [3, 16, 29, 1, 30, 32, 34, 0, 35, 40, 42, 47, 53, 0, 0, 0, 0, 0, 0, 59])) (h 0 (by decide)) rfl f rfl
theorem p_0_15 {z : Mem} (h : Sh z) (f : Nat → Nat → Int32) (v : Int32) : pF (mkM f z) 8 0 15 (.int v) = some (mkM (up f 0 (upd (f 0) 15 v)) z) := ok_pF (q := (0, 8, 0, [3, 16, 29, 1, 30, 32, 34, 0, 35, 40, 42, 47, 53, 0, 0, 0, 0, 0, 0, 59])) (h 0 (by decide)) rfl f rfl v
theorem g_0_16 {z : Mem} (h : Sh z) (f : Nat → Nat → Int32) : gI (mkM f z) 8 0 16 = some (f 0 16) := ok_gI (q := (0, 8, 0, [3, 16, 29, 1, 30, 32, 34, 0, 35, 40, 42, 47, 53, 0, 0, 0, 0, 0, 0, 59])) (h 0 (by decide)) rfl f rfl
theorem p_0_16 {z : Mem} (h : Sh z) (f : Nat → Nat → Int32) (v : Int32) : pF (mkM f z) 8 0 16 (.int v) = some (mkM (up f 0 (upd (f 0) 16 v)) z) := ok_pF (q := (0, 8, 0, [3, 16, 29, 1, 30, 32, 34, 0, 35, 40, 42, 47, 53, 0, 0, 0, 0, 0, 0, 59])) (h 0 (by decide)) rfl f rfl v
theorem g_0_17 {z : Mem} (h : Sh z) (f : Nat → Nat → Int32) : gI (mkM f z) 8 0 17 = some (f 0 17) := ok_gI (q := (0, 8, 0, [3, 16, 29, 1, 30, 32, 34, 0, 35, 40, 42, 47, 53, 0, 0, 0, 0, 0, 0, 59])) (h 0 (by decide)) rfl f rfl
theorem p_0_17 {z : Mem} (h : Sh z) (f : Nat → Nat → Int32) (v : Int32) : pF (mkM f z) 8 0 17 (.int v) = some (mkM (up f 0 (upd (f 0) 17 v)) z) := ok_pF (q := (0, 8, 0, [3, 16, 29, 1, 30, 32, 34, 0, 35, 40, 42, 47, 53, 0, 0, 0, 0, 0, 0, 59])) (h 0 (by decide)) rfl f rfl v
theorem g_0_18 {z : Mem} (h : Sh z) (f : Nat → Nat → Int32) : gI (mkM f z) 8 0 18 = some (f 0 18) := ok_gI (q := (0, 8, 0, [3, 16, 29, 1, 30, 32, 34, 0, 35, 40, 42, 47, 53, 0, 0, 0, 0, 0, 0, 59])) (h 0 (by decide)) rfl f rfl
theorem p_0_18 {z : Mem} (h : Sh z) (f : Nat → Nat → Int32) (v : Int32) : pF (mkM f z) 8 0 18 (.int v) = some (mkM (up f 0 (upd (f 0) 18 v)) z) := ok_pF (q := (0, 8, 0, [3, 16, 29, 1, 30, 32, 34, 0, 35, 40, 42, 47, 53, 0, 0, 0, 0, 0, 0, 59])) (h 0 (by decide)) rfl f rfl v
theorem r_0_19 {z : Mem} (h : Sh z) (f : Nat → Nat → Int32) : gR (mkM f z) 8 0 19 = some 57 := ok_gR (q := (0, 8, 0, [3, 16, 29, 1, 30, 32, 34, 0, 35, 40, 42, 47, 53, 0, 0, 0, 0, 0, 0, 59])) (h 0 (by decide)) rfl f rfl
theorem c_28 {z : Mem} (h : Sh z) (f : Nat → Nat → Int32) : isC (mkM f z) 3 28 = true := ok_isC (q := (0, 3, 0, [31, 0, 0])) (h 28 (by decide)) rfl f
theorem r_28_0 {z : Mem} (h : Sh z) (f : Nat → Nat → Int32) : gR (mkM f z) 3 28 0 = some 29 := ok_gR (q := (0, 3, 0, [31, 0, 0])) (h 28 (by decide)) rfl f rfl
theorem g_28_1 {z : Mem} (h : Sh z) (f : Nat → Nat → Int32) : gI (mkM f z) 3 28 1 = some (f 28 1) := ok_gI (q := (0, 3, 0, [31, 0, 0])) (h 28 (by decide)) rfl f rfl
theorem p_28_1 {z : Mem} (h : Sh z) (f : Nat → Nat → Int32) (v : Int32) : pF (mkM f z) 3 28 1 (.int v) = some (mkM (up f 28 (upd (f 28) 1 v)) z) := ok_pF (q := (0, 3, 0, [31, 0, 0])) (h 28 (by decide)) rfl f rfl v
theorem g_28_2 {z : Mem} (h : Sh z) (f : Nat → Nat → Int32) : gI (mkM f z) 3 28 2 = some (f 28 2) := ok_gI (q := (0, 3, 0, [31, 0, 0])) (h 28 (by decide)) rfl f rfl
theorem p_28_2 {z : Mem} (h : Sh z) (f : Nat → Nat → Int32) (v : Int32) : pF (mkM f z) 3 28 2 (.int v) = some (mkM (up f 28 (upd (f 28) 2 v)) z) := ok_pF (q := (0, 3, 0, [31, 0, 0])) (h 28 (by decide)) rfl f rfl v
theorem l_29_ {z : Mem} (h : Sh z) (f : Nat → Nat → Int32) {k : Nat} (hk : k < 119) : lI (mkM f z) 29 (wI k) = some (f 29 k) := ok_lI (q := (1, 0, 119, [])) (h 29 (by decide)) rfl rfl f hk (by decide)
theorem s_29_ {z : Mem} (h : Sh z) (f : Nat → Nat → Int32) {k : Nat} (v : Int32) (hk : k < 119) : sI (mkM f z) 29 (wI k) v = some (mkM (up f 29 (upd (f 29) k v)) z) := ok_sI (q := (1, 0, 119, [])) (h 29 (by decide)) rfl rfl f v hk (by decide)
theorem n_29 {z : Mem} (h : Sh z) (f : Nat → Nat → Int32) : aln (mkM f z) 29 = some (wI 119) := ok_aln (q := (1, 0, 119, [])) (h 29 (by decide)) rfl (by decide) f
theorem c_30 {z : Mem} (h : Sh z) (f : Nat → Nat → Int32) : isC (mkM f z) 3 30 = true := ok_isC (q := (0, 3, 0, [33, 0, 0])) (h 30 (by decide)) rfl f
theorem r_30_0 {z : Mem} (h : Sh z) (f : Nat → Nat → Int32) : gR (mkM f z) 3 30 0 = some 31 := ok_gR (q := (0, 3, 0, [33, 0, 0])) (h 30 (by decide)) rfl f rfl
theorem g_30_1 {z : Mem} (h : Sh z) (f : Nat → Nat → Int32) : gI (mkM f z) 3 30 1 = some (f 30 1) := ok_gI (q := (0, 3, 0, [33, 0, 0])) (h 30 (by decide)) rfl f rfl
theorem p_30_1 {z : Mem} (h : Sh z) (f : Nat → Nat → Int32) (v : Int32) : pF (mkM f z) 3 30 1 (.int v) = some (mkM (up f 30 (upd (f 30) 1 v)) z) := ok_pF (q := (0, 3, 0, [33, 0, 0])) (h 30 (by decide)) rfl f rfl v
theorem g_30_2 {z : Mem} (h : Sh z) (f : Nat → Nat → Int32) : gI (mkM f z) 3 30 2 = some (f 30 2) := ok_gI (q := (0, 3, 0, [33, 0, 0])) (h 30 (by decide)) rfl f rfl
theorem p_30_2 {z : Mem} (h : Sh z) (f : Nat → Nat → Int32) (v : Int32) : pF (mkM f z) 3 30 2 (.int v) = some (mkM (up f 30 (upd (f 30) 2 v)) z) := ok_pF (q := (0, 3, 0, [33, 0, 0])) (h 30 (by decide)) rfl f rfl v
theorem l_31_ {z : Mem} (h : Sh z) (f : Nat → Nat → Int32) {k : Nat} (hk : k < 119) : lI (mkM f z) 31 (wI k) = some (f 31 k) := ok_lI (q := (1, 0, 119, [])) (h 31 (by decide)) rfl rfl f hk (by decide)
theorem s_31_ {z : Mem} (h : Sh z) (f : Nat → Nat → Int32) {k : Nat} (v : Int32) (hk : k < 119) : sI (mkM f z) 31 (wI k) v = some (mkM (up f 31 (upd (f 31) k v)) z) := ok_sI (q := (1, 0, 119, [])) (h 31 (by decide)) rfl rfl f v hk (by decide)
theorem n_31 {z : Mem} (h : Sh z) (f : Nat → Nat → Int32) : aln (mkM f z) 31 = some (wI 119) := ok_aln (q := (1, 0, 119, [])) (h 31 (by decide)) rfl (by decide) f
theorem l_32_ {z : Mem} (h : Sh z) (f : Nat → Nat → Int32) {k : Nat} (hk : k < 400) : lI (mkM f z) 32 (wI k) = some (f 32 k) := ok_lI (q := (1, 0, 400, [])) (h 32 (by decide)) rfl rfl f hk (by decide)
theorem s_32_ {z : Mem} (h : Sh z) (f : Nat → Nat → Int32) {k : Nat} (v : Int32) (hk : k < 400) : sI (mkM f z) 32 (wI k) v = some (mkM (up f 32 (upd (f 32) k v)) z) := ok_sI (q := (1, 0, 400, [])) (h 32 (by decide)) rfl rfl f v hk (by decide)
theorem n_32 {z : Mem} (h : Sh z) (f : Nat → Nat → Int32) : aln (mkM f z) 32 = some (wI 400) := ok_aln (q := (1, 0, 400, [])) (h 32 (by decide)) rfl (by decide) f
theorem c_33 {z : Mem} (h : Sh z) (f : Nat → Nat → Int32) : isC (mkM f z) 6 33 = true := ok_isC (q := (0, 6, 0, [36, 1, 0, 0, 0, 0, 0, 0, 0, 0])) (h 33 (by decide)) rfl f
theorem r_33_0 {z : Mem} (h : Sh z) (f : Nat → Nat → Int32) : gR (mkM f z) 6 33 0 = some 34 := ok_gR (q := (0, 6, 0, [36, 1, 0, 0, 0, 0, 0, 0, 0, 0])) (h 33 (by decide)) rfl f rfl
theorem g_33_2 {z : Mem} (h : Sh z) (f : Nat → Nat → Int32) : gI (mkM f z) 6 33 2 = some (f 33 2) := ok_gI (q := (0, 6, 0, [36, 1, 0, 0, 0, 0, 0, 0, 0, 0])) (h 33 (by decide)) rfl f rfl
theorem p_33_2 {z : Mem} (h : Sh z) (f : Nat → Nat → Int32) (v : Int32) : pF (mkM f z) 6 33 2 (.int v) = some (mkM (up f 33 (upd (f 33) 2 v)) z) := ok_pF (q := (0, 6, 0, [36, 1, 0, 0, 0, 0, 0, 0, 0, 0])) (h 33 (by decide)) rfl f rfl v
theorem g_33_3 {z : Mem} (h : Sh z) (f : Nat → Nat → Int32) : gI (mkM f z) 6 33 3 = some (f 33 3) := ok_gI (q := (0, 6, 0, [36, 1, 0, 0, 0, 0, 0, 0, 0, 0])) (h 33 (by decide)) rfl f rfl
theorem p_33_3 {z : Mem} (h : Sh z) (f : Nat → Nat → Int32) (v : Int32) : pF (mkM f z) 6 33 3 (.int v) = some (mkM (up f 33 (upd (f 33) 3 v)) z) := ok_pF (q := (0, 6, 0, [36, 1, 0, 0, 0, 0, 0, 0, 0, 0])) (h 33 (by decide)) rfl f rfl v
theorem g_33_4 {z : Mem} (h : Sh z) (f : Nat → Nat → Int32) : gI (mkM f z) 6 33 4 = some (f 33 4) := ok_gI (q := (0, 6, 0, [36, 1, 0, 0, 0, 0, 0, 0, 0, 0])) (h 33 (by decide)) rfl f rfl
theorem p_33_4 {z : Mem} (h : Sh z) (f : Nat → Nat → Int32) (v : Int32) : pF (mkM f z) 6 33 4 (.int v) = some (mkM (up f 33 (upd (f 33) 4 v)) z) := ok_pF (q := (0, 6, 0, [36, 1, 0, 0, 0, 0, 0, 0, 0, 0])) (h 33 (by decide)) rfl f rfl v
theorem g_33_5 {z : Mem} (h : Sh z) (f : Nat → Nat → Int32) : gI (mkM f z) 6 33 5 = some (f 33 5) := ok_gI (q := (0, 6, 0, [36, 1, 0, 0, 0, 0, 0, 0, 0, 0])) (h 33 (by decide)) rfl f rfl
theorem p_33_5 {z : Mem} (h : Sh z) (f : Nat → Nat → Int32) (v : Int32) : pF (mkM f z) 6 33 5 (.int v) = some (mkM (up f 33 (upd (f 33) 5 v)) z) := ok_pF (q := (0, 6, 0, [36, 1, 0, 0, 0, 0, 0, 0, 0, 0])) (h 33 (by decide)) rfl f rfl v
theorem g_33_6 {z : Mem} (h : Sh z) (f : Nat → Nat → Int32) : gI (mkM f z) 6 33 6 = some (f 33 6) := ok_gI (q := (0, 6, 0, [36, 1, 0, 0, 0, 0, 0, 0, 0, 0])) (h 33 (by decide)) rfl f rfl
theorem p_33_6 {z : Mem} (h : Sh z) (f : Nat → Nat → Int32) (v : Int32) : pF (mkM f z) 6 33 6 (.int v) = some (mkM (up f 33 (upd (f 33) 6 v)) z) := ok_pF (q := (0, 6, 0, [36, 1, 0, 0, 0, 0, 0, 0, 0, 0])) (h 33 (by decide)) rfl f rfl v
theorem g_33_7 {z : Mem} (h : Sh z) (f : Nat → Nat → Int32) : gI (mkM f z) 6 33 7 = some (f 33 7) := ok_gI (q := (0, 6, 0, [36, 1, 0, 0, 0, 0, 0, 0, 0, 0])) (h 33 (by decide)) rfl f rfl
theorem p_33_7 {z : Mem} (h : Sh z) (f : Nat → Nat → Int32) (v : Int32) : pF (mkM f z) 6 33 7 (.int v) = some (mkM (up f 33 (upd (f 33) 7 v)) z) := ok_pF (q := (0, 6, 0, [36, 1, 0, 0, 0, 0, 0, 0, 0, 0])) (h 33 (by decide)) rfl f rfl v
theorem g_33_8 {z : Mem} (h : Sh z) (f : Nat → Nat → Int32) : gI (mkM f z) 6 33 8 = some (f 33 8) := ok_gI (q := (0, 6, 0, [36, 1, 0, 0, 0, 0, 0, 0, 0, 0])) (h 33 (by decide)) rfl f rfl
theorem p_33_8 {z : Mem} (h : Sh z) (f : Nat → Nat → Int32) (v : Int32) : pF (mkM f z) 6 33 8 (.int v) = some (mkM (up f 33 (upd (f 33) 8 v)) z) := ok_pF (q := (0, 6, 0, [36, 1, 0, 0, 0, 0, 0, 0, 0, 0])) (h 33 (by decide)) rfl f rfl v
theorem g_33_9 {z : Mem} (h : Sh z) (f : Nat → Nat → Int32) : gI (mkM f z) 6 33 9 = some (f 33 9) := ok_gI (q := (0, 6, 0, [36, 1, 0, 0, 0, 0, 0, 0, 0, 0])) (h 33 (by decide)) rfl f rfl
theorem p_33_9 {z : Mem} (h : Sh z) (f : Nat → Nat → Int32) (v : Int32) : pF (mkM f z) 6 33 9 (.int v) = some (mkM (up f 33 (upd (f 33) 9 v)) z) := ok_pF (q := (0, 6, 0, [36, 1, 0, 0, 0, 0, 0, 0, 0, 0])) (h 33 (by decide)) rfl f rfl v
theorem c_38 {z : Mem} (h : Sh z) (f : Nat → Nat → Int32) : isC (mkM f z) 7 38 = true := ok_isC (q := (0, 7, 0, [41, 1, 0, 0, 0, 0])) (h 38 (by decide)) rfl f
theorem r_38_0 {z : Mem} (h : Sh z) (f : Nat → Nat → Int32) : gR (mkM f z) 7 38 0 = some 39 := ok_gR (q := (0, 7, 0, [41, 1, 0, 0, 0, 0])) (h 38 (by decide)) rfl f rfl
theorem g_38_2 {z : Mem} (h : Sh z) (f : Nat → Nat → Int32) : gI (mkM f z) 7 38 2 = some (f 38 2) := ok_gI (q := (0, 7, 0, [41, 1, 0, 0, 0, 0])) (h 38 (by decide)) rfl f rfl
theorem p_38_2 {z : Mem} (h : Sh z) (f : Nat → Nat → Int32) (v : Int32) : pF (mkM f z) 7 38 2 (.int v) = some (mkM (up f 38 (upd (f 38) 2 v)) z) := ok_pF (q := (0, 7, 0, [41, 1, 0, 0, 0, 0])) (h 38 (by decide)) rfl f rfl v
theorem g_38_3 {z : Mem} (h : Sh z) (f : Nat → Nat → Int32) : gI (mkM f z) 7 38 3 = some (f 38 3) := ok_gI (q := (0, 7, 0, [41, 1, 0, 0, 0, 0])) (h 38 (by decide)) rfl f rfl
theorem p_38_3 {z : Mem} (h : Sh z) (f : Nat → Nat → Int32) (v : Int32) : pF (mkM f z) 7 38 3 (.int v) = some (mkM (up f 38 (upd (f 38) 3 v)) z) := ok_pF (q := (0, 7, 0, [41, 1, 0, 0, 0, 0])) (h 38 (by decide)) rfl f rfl v
theorem g_38_4 {z : Mem} (h : Sh z) (f : Nat → Nat → Int32) : gI (mkM f z) 7 38 4 = some (f 38 4) := ok_gI (q := (0, 7, 0, [41, 1, 0, 0, 0, 0])) (h 38 (by decide)) rfl f rfl
theorem p_38_4 {z : Mem} (h : Sh z) (f : Nat → Nat → Int32) (v : Int32) : pF (mkM f z) 7 38 4 (.int v) = some (mkM (up f 38 (upd (f 38) 4 v)) z) := ok_pF (q := (0, 7, 0, [41, 1, 0, 0, 0, 0])) (h 38 (by decide)) rfl f rfl v
theorem g_38_5 {z : Mem} (h : Sh z) (f : Nat → Nat → Int32) : gI (mkM f z) 7 38 5 = some (f 38 5) := ok_gI (q := (0, 7, 0, [41, 1, 0, 0, 0, 0])) (h 38 (by decide)) rfl f rfl
theorem p_38_5 {z : Mem} (h : Sh z) (f : Nat → Nat → Int32) (v : Int32) : pF (mkM f z) 7 38 5 (.int v) = some (mkM (up f 38 (upd (f 38) 5 v)) z) := ok_pF (q := (0, 7, 0, [41, 1, 0, 0, 0, 0])) (h 38 (by decide)) rfl f rfl v
theorem l_39_ {z : Mem} (h : Sh z) (f : Nat → Nat → Int32) {k : Nat} (hk : k < 64) : lI (mkM f z) 39 (wI k) = some (f 39 k) := ok_lI (q := (1, 0, 64, [])) (h 39 (by decide)) rfl rfl f hk (by decide)
theorem s_39_ {z : Mem} (h : Sh z) (f : Nat → Nat → Int32) {k : Nat} (v : Int32) (hk : k < 64) : sI (mkM f z) 39 (wI k) v = some (mkM (up f 39 (upd (f 39) k v)) z) := ok_sI (q := (1, 0, 64, [])) (h 39 (by decide)) rfl rfl f v hk (by decide)
theorem n_39 {z : Mem} (h : Sh z) (f : Nat → Nat → Int32) : aln (mkM f z) 39 = some (wI 64) := ok_aln (q := (1, 0, 64, [])) (h 39 (by decide)) rfl (by decide) f
theorem c_40 {z : Mem} (h : Sh z) (f : Nat → Nat → Int32) : isC (mkM f z) 4 40 = true := ok_isC (q := (0, 4, 0, [43, 44, 45, 46, 0])) (h 40 (by decide)) rfl f
theorem r_40_0 {z : Mem} (h : Sh z) (f : Nat → Nat → Int32) : gR (mkM f z) 4 40 0 = some 41 := ok_gR (q := (0, 4, 0, [43, 44, 45, 46, 0])) (h 40 (by decide)) rfl f rfl
theorem r_40_1 {z : Mem} (h : Sh z) (f : Nat → Nat → Int32) : gR (mkM f z) 4 40 1 = some 42 := ok_gR (q := (0, 4, 0, [43, 44, 45, 46, 0])) (h 40 (by decide)) rfl f rfl
theorem r_40_2 {z : Mem} (h : Sh z) (f : Nat → Nat → Int32) : gR (mkM f z) 4 40 2 = some 43 := ok_gR (q := (0, 4, 0, [43, 44, 45, 46, 0])) (h 40 (by decide)) rfl f rfl
theorem r_40_3 {z : Mem} (h : Sh z) (f : Nat → Nat → Int32) : gR (mkM f z) 4 40 3 = some 44 := ok_gR (q := (0, 4, 0, [43, 44, 45, 46, 0])) (h 40 (by decide)) rfl f rfl
theorem g_40_4 {z : Mem} (h : Sh z) (f : Nat → Nat → Int32) : gI (mkM f z) 4 40 4 = some (f 40 4) := ok_gI (q := (0, 4, 0, [43, 44, 45, 46, 0])) (h 40 (by decide)) rfl f rfl
theorem p_40_4 {z : Mem} (h : Sh z) (f : Nat → Nat → Int32) (v : Int32) : pF (mkM f z) 4 40 4 (.int v) = some (mkM (up f 40 (upd (f 40) 4 v)) z) := ok_pF (q := (0, 4, 0, [43, 44, 45, 46, 0])) (h 40 (by decide)) rfl f rfl v
theorem l_41_ {z : Mem} (h : Sh z) (f : Nat → Nat → Int32) {k : Nat} (hk : k < 10) : lI (mkM f z) 41 (wI k) = some (f 41 k) := ok_lI (q := (1, 0, 10, [])) (h 41 (by decide)) rfl rfl f hk (by decide)
theorem s_41_ {z : Mem} (h : Sh z) (f : Nat → Nat → Int32) {k : Nat} (v : Int32) (hk : k < 10) : sI (mkM f z) 41 (wI k) v = some (mkM (up f 41 (upd (f 41) k v)) z) := ok_sI (q := (1, 0, 10, [])) (h 41 (by decide)) rfl rfl f v hk (by decide)
theorem n_41 {z : Mem} (h : Sh z) (f : Nat → Nat → Int32) : aln (mkM f z) 41 = some (wI 10) := ok_aln (q := (1, 0, 10, [])) (h 41 (by decide)) rfl (by decide) f
theorem l_42_ {z : Mem} (h : Sh z) (f : Nat → Nat → Int32) {k : Nat} (hk : k < 10) : lI (mkM f z) 42 (wI k) = some (f 42 k) := ok_lI (q := (1, 0, 10, [])) (h 42 (by decide)) rfl rfl f hk (by decide)
theorem s_42_ {z : Mem} (h : Sh z) (f : Nat → Nat → Int32) {k : Nat} (v : Int32) (hk : k < 10) : sI (mkM f z) 42 (wI k) v = some (mkM (up f 42 (upd (f 42) k v)) z) := ok_sI (q := (1, 0, 10, [])) (h 42 (by decide)) rfl rfl f v hk (by decide)
theorem n_42 {z : Mem} (h : Sh z) (f : Nat → Nat → Int32) : aln (mkM f z) 42 = some (wI 10) := ok_aln (q := (1, 0, 10, [])) (h 42 (by decide)) rfl (by decide) f
theorem l_43_ {z : Mem} (h : Sh z) (f : Nat → Nat → Int32) {k : Nat} (hk : k < 10) : lI (mkM f z) 43 (wI k) = some (f 43 k) := ok_lI (q := (1, 0, 10, [])) (h 43 (by decide)) rfl rfl f hk (by decide)
theorem s_43_ {z : Mem} (h : Sh z) (f : Nat → Nat → Int32) {k : Nat} (v : Int32) (hk : k < 10) : sI (mkM f z) 43 (wI k) v = some (mkM (up f 43 (upd (f 43) k v)) z) := ok_sI (q := (1, 0, 10, [])) (h 43 (by decide)) rfl rfl f v hk (by decide)
theorem n_43 {z : Mem} (h : Sh z) (f : Nat → Nat → Int32) : aln (mkM f z) 43 = some (wI 10) := ok_aln (q := (1, 0, 10, [])) (h 43 (by decide)) rfl (by decide) f
theorem l_44_ {z : Mem} (h : Sh z) (f : Nat → Nat → Int32) {k : Nat} (hk : k < 45) : lI (mkM f z) 44 (wI k) = some (f 44 k) := ok_lI (q := (1, 0, 45, [])) (h 44 (by decide)) rfl rfl f hk (by decide)
theorem s_44_ {z : Mem} (h : Sh z) (f : Nat → Nat → Int32) {k : Nat} (v : Int32) (hk : k < 45) : sI (mkM f z) 44 (wI k) v = some (mkM (up f 44 (upd (f 44) k v)) z) := ok_sI (q := (1, 0, 45, [])) (h 44 (by decide)) rfl rfl f v hk (by decide)
theorem n_44 {z : Mem} (h : Sh z) (f : Nat → Nat → Int32) : aln (mkM f z) 44 = some (wI 45) := ok_aln (q := (1, 0, 45, [])) (h 44 (by decide)) rfl (by decide) f
theorem c_45 {z : Mem} (h : Sh z) (f : Nat → Nat → Int32) : isC (mkM f z) 2 45 = true := ok_isC (q := (0, 2, 0, [48, 49, 50, 51, 52, 0])) (h 45 (by decide)) rfl f
theorem r_45_0 {z : Mem} (h : Sh z) (f : Nat → Nat → Int32) : gR (mkM f z) 2 45 0 = some 46 := ok_gR (q := (0, 2, 0, [48, 49, 50, 51, 52, 0])) (h 45 (by decide)) rfl f rfl
theorem r_45_1 {z : Mem} (h : Sh z) (f : Nat → Nat → Int32) : gR (mkM f z) 2 45 1 = some 47 := ok_gR (q := (0, 2, 0, [48, 49, 50, 51, 52, 0])) (h 45 (by decide)) rfl f rfl
theorem r_45_2 {z : Mem} (h : Sh z) (f : Nat → Nat → Int32) : gR (mkM f z) 2 45 2 = some 48 := ok_gR (q := (0, 2, 0, [48, 49, 50, 51, 52, 0])) (h 45 (by decide)) rfl f rfl
theorem r_45_3 {z : Mem} (h : Sh z) (f : Nat → Nat → Int32) : gR (mkM f z) 2 45 3 = some 49 := ok_gR (q := (0, 2, 0, [48, 49, 50, 51, 52, 0])) (h 45 (by decide)) rfl f rfl
theorem r_45_4 {z : Mem} (h : Sh z) (f : Nat → Nat → Int32) : gR (mkM f z) 2 45 4 = some 50 := ok_gR (q := (0, 2, 0, [48, 49, 50, 51, 52, 0])) (h 45 (by decide)) rfl f rfl
theorem g_45_5 {z : Mem} (h : Sh z) (f : Nat → Nat → Int32) : gI (mkM f z) 2 45 5 = some (f 45 5) := ok_gI (q := (0, 2, 0, [48, 49, 50, 51, 52, 0])) (h 45 (by decide)) rfl f rfl
theorem p_45_5 {z : Mem} (h : Sh z) (f : Nat → Nat → Int32) (v : Int32) : pF (mkM f z) 2 45 5 (.int v) = some (mkM (up f 45 (upd (f 45) 5 v)) z) := ok_pF (q := (0, 2, 0, [48, 49, 50, 51, 52, 0])) (h 45 (by decide)) rfl f rfl v
theorem l_46_ {z : Mem} (h : Sh z) (f : Nat → Nat → Int32) {k : Nat} (hk : k < 6) : lI (mkM f z) 46 (wI k) = some (f 46 k) := ok_lI (q := (1, 0, 6, [])) (h 46 (by decide)) rfl rfl f hk (by decide)
theorem s_46_ {z : Mem} (h : Sh z) (f : Nat → Nat → Int32) {k : Nat} (v : Int32) (hk : k < 6) : sI (mkM f z) 46 (wI k) v = some (mkM (up f 46 (upd (f 46) k v)) z) := ok_sI (q := (1, 0, 6, [])) (h 46 (by decide)) rfl rfl f v hk (by decide)
theorem n_46 {z : Mem} (h : Sh z) (f : Nat → Nat → Int32) : aln (mkM f z) 46 = some (wI 6) := ok_aln (q := (1, 0, 6, [])) (h 46 (by decide)) rfl (by decide) f
theorem l_47_ {z : Mem} (h : Sh z) (f : Nat → Nat → Int32) {k : Nat} (hk : k < 6) : lI (mkM f z) 47 (wI k) = some (f 47 k) := ok_lI (q := (1, 0, 6, [])) (h 47 (by decide)) rfl rfl f hk (by decide)
theorem s_47_ {z : Mem} (h : Sh z) (f : Nat → Nat → Int32) {k : Nat} (v : Int32) (hk : k < 6) : sI (mkM f z) 47 (wI k) v = some (mkM (up f 47 (upd (f 47) k v)) z) := ok_sI (q := (1, 0, 6, [])) (h 47 (by decide)) rfl rfl f v hk (by decide)
theorem n_47 {z : Mem} (h : Sh z) (f : Nat → Nat → Int32) : aln (mkM f z) 47 = some (wI 6) := ok_aln (q := (1, 0, 6, [])) (h 47 (by decide)) rfl (by decide) f
theorem l_48_ {z : Mem} (h : Sh z) (f : Nat → Nat → Int32) {k : Nat} (hk : k < 6) : lI (mkM f z) 48 (wI k) = some (f 48 k) := ok_lI (q := (1, 0, 6, [])) (h 48 (by decide)) rfl rfl f hk (by decide)
theorem s_48_ {z : Mem} (h : Sh z) (f : Nat → Nat → Int32) {k : Nat} (v : Int32) (hk : k < 6) : sI (mkM f z) 48 (wI k) v = some (mkM (up f 48 (upd (f 48) k v)) z) := ok_sI (q := (1, 0, 6, [])) (h 48 (by decide)) rfl rfl f v hk (by decide)
theorem n_48 {z : Mem} (h : Sh z) (f : Nat → Nat → Int32) : aln (mkM f z) 48 = some (wI 6) := ok_aln (q := (1, 0, 6, [])) (h 48 (by decide)) rfl (by decide) f
theorem l_49_ {z : Mem} (h : Sh z) (f : Nat → Nat → Int32) {k : Nat} (hk : k < 6) : lI (mkM f z) 49 (wI k) = some (f 49 k) := ok_lI (q := (1, 0, 6, [])) (h 49 (by decide)) rfl rfl f hk (by decide)
theorem s_49_ {z : Mem} (h : Sh z) (f : Nat → Nat → Int32) {k : Nat} (v : Int32) (hk : k < 6) : sI (mkM f z) 49 (wI k) v = some (mkM (up f 49 (upd (f 49) k v)) z) := ok_sI (q := (1, 0, 6, [])) (h 49 (by decide)) rfl rfl f v hk (by decide)
theorem n_49 {z : Mem} (h : Sh z) (f : Nat → Nat → Int32) : aln (mkM f z) 49 = some (wI 6) := ok_aln (q := (1, 0, 6, [])) (h 49 (by decide)) rfl (by decide) f
theorem l_50_ {z : Mem} (h : Sh z) (f : Nat → Nat → Int32) {k : Nat} (hk : k < 6) : lI (mkM f z) 50 (wI k) = some (f 50 k) := ok_lI (q := (1, 0, 6, [])) (h 50 (by decide)) rfl rfl f hk (by decide)
theorem s_50_ {z : Mem} (h : Sh z) (f : Nat → Nat → Int32) {k : Nat} (v : Int32) (hk : k < 6) : sI (mkM f z) 50 (wI k) v = some (mkM (up f 50 (upd (f 50) k v)) z) := ok_sI (q := (1, 0, 6, [])) (h 50 (by decide)) rfl rfl f v hk (by decide)
theorem n_50 {z : Mem} (h : Sh z) (f : Nat → Nat → Int32) : aln (mkM f z) 50 = some (wI 6) := ok_aln (q := (1, 0, 6, [])) (h 50 (by decide)) rfl (by decide) f
theorem c_51 {z : Mem} (h : Sh z) (f : Nat → Nat → Int32) : isC (mkM f z) 0 51 = true := ok_isC (q := (0, 0, 0, [54, 55, 56, 57, 58, 0, 0])) (h 51 (by decide)) rfl f
theorem r_51_0 {z : Mem} (h : Sh z) (f : Nat → Nat → Int32) : gR (mkM f z) 0 51 0 = some 52 := ok_gR (q := (0, 0, 0, [54, 55, 56, 57, 58, 0, 0])) (h 51 (by decide)) rfl f rfl
theorem r_51_1 {z : Mem} (h : Sh z) (f : Nat → Nat → Int32) : gR (mkM f z) 0 51 1 = some 53 := ok_gR (q := (0, 0, 0, [54, 55, 56, 57, 58, 0, 0])) (h 51 (by decide)) rfl f rfl
theorem r_51_2 {z : Mem} (h : Sh z) (f : Nat → Nat → Int32) : gR (mkM f z) 0 51 2 = some 54 := ok_gR (q := (0, 0, 0, [54, 55, 56, 57, 58, 0, 0])) (h 51 (by decide)) rfl f rfl
theorem r_51_3 {z : Mem} (h : Sh z) (f : Nat → Nat → Int32) : gR (mkM f z) 0 51 3 = some 55 := ok_gR (q := (0, 0, 0, [54, 55, 56, 57, 58, 0, 0])) (h 51 (by decide)) rfl f rfl
theorem r_51_4 {z : Mem} (h : Sh z) (f : Nat → Nat → Int32) : gR (mkM f z) 0 51 4 = some 56 := ok_gR (q := (0, 0, 0, [54, 55, 56, 57, 58, 0, 0])) (h 51 (by decide)) rfl f rfl
theorem g_51_5 {z : Mem} (h : Sh z) (f : Nat → Nat → Int32) : gI (mkM f z) 0 51 5 = some (f 51 5) := ok_gI (q := (0, 0, 0, [54, 55, 56, 57, 58, 0, 0])) (h 51 (by decide)) rfl f rfl
theorem p_51_5 {z : Mem} (h : Sh z) (f : Nat → Nat → Int32) (v : Int32) : pF (mkM f z) 0 51 5 (.int v) = some (mkM (up f 51 (upd (f 51) 5 v)) z) := ok_pF (q := (0, 0, 0, [54, 55, 56, 57, 58, 0, 0])) (h 51 (by decide)) rfl f rfl v
theorem g_51_6 {z : Mem} (h : Sh z) (f : Nat → Nat → Int32) : gI (mkM f z) 0 51 6 = some (f 51 6) := ok_gI (q := (0, 0, 0, [54, 55, 56, 57, 58, 0, 0])) (h 51 (by decide)) rfl f rfl
theorem p_51_6 {z : Mem} (h : Sh z) (f : Nat → Nat → Int32) (v : Int32) : pF (mkM f z) 0 51 6 (.int v) = some (mkM (up f 51 (upd (f 51) 6 v)) z) := ok_pF (q := (0, 0, 0, [54, 55, 56, 57, 58, 0, 0])) (h 51 (by decide)) rfl f rfl v
theorem l_52_ {z : Mem} (h : Sh z) (f : Nat → Nat → Int32) {k : Nat} (hk : k < 7) : lI (mkM f z) 52 (wI k) = some (f 52 k) := ok_lI (q := (1, 0, 7, [])) (h 52 (by decide)) rfl rfl f hk (by decide)
theorem s_52_ {z : Mem} (h : Sh z) (f : Nat → Nat → Int32) {k : Nat} (v : Int32) (hk : k < 7) : sI (mkM f z) 52 (wI k) v = some (mkM (up f 52 (upd (f 52) k v)) z) := ok_sI (q := (1, 0, 7, [])) (h 52 (by decide)) rfl rfl f v hk (by decide)
theorem n_52 {z : Mem} (h : Sh z) (f : Nat → Nat → Int32) : aln (mkM f z) 52 = some (wI 7) := ok_aln (q := (1, 0, 7, [])) (h 52 (by decide)) rfl (by decide) f
theorem l_53_ {z : Mem} (h : Sh z) (f : Nat → Nat → Int32) {k : Nat} (hk : k < 7) : lI (mkM f z) 53 (wI k) = some (f 53 k) := ok_lI (q := (1, 0, 7, [])) (h 53 (by decide)) rfl rfl f hk (by decide)
theorem s_53_ {z : Mem} (h : Sh z) (f : Nat → Nat → Int32) {k : Nat} (v : Int32) (hk : k < 7) : sI (mkM f z) 53 (wI k) v = some (mkM (up f 53 (upd (f 53) k v)) z) := ok_sI (q := (1, 0, 7, [])) (h 53 (by decide)) rfl rfl f v hk (by decide)
theorem n_53 {z : Mem} (h : Sh z) (f : Nat → Nat → Int32) : aln (mkM f z) 53 = some (wI 7) := ok_aln (q := (1, 0, 7, [])) (h 53 (by decide)) rfl (by decide) f
theorem l_54_ {z : Mem} (h : Sh z) (f : Nat → Nat → Int32) {k : Nat} (hk : k < 7) : lI (mkM f z) 54 (wI k) = some (f 54 k) := ok_lI (q := (1, 0, 7, [])) (h 54 (by decide)) rfl rfl f hk (by decide)
theorem s_54_ {z : Mem} (h : Sh z) (f : Nat → Nat → Int32) {k : Nat} (v : Int32) (hk : k < 7) : sI (mkM f z) 54 (wI k) v = some (mkM (up f 54 (upd (f 54) k v)) z) := ok_sI (q := (1, 0, 7, [])) (h 54 (by decide)) rfl rfl f v hk (by decide)
theorem n_54 {z : Mem} (h : Sh z) (f : Nat → Nat → Int32) : aln (mkM f z) 54 = some (wI 7) := ok_aln (q := (1, 0, 7, [])) (h 54 (by decide)) rfl (by decide) f
theorem l_55_ {z : Mem} (h : Sh z) (f : Nat → Nat → Int32) {k : Nat} (hk : k < 10) : lI (mkM f z) 55 (wI k) = some (f 55 k) := ok_lI (q := (1, 0, 10, [])) (h 55 (by decide)) rfl rfl f hk (by decide)
theorem s_55_ {z : Mem} (h : Sh z) (f : Nat → Nat → Int32) {k : Nat} (v : Int32) (hk : k < 10) : sI (mkM f z) 55 (wI k) v = some (mkM (up f 55 (upd (f 55) k v)) z) := ok_sI (q := (1, 0, 10, [])) (h 55 (by decide)) rfl rfl f v hk (by decide)
theorem n_55 {z : Mem} (h : Sh z) (f : Nat → Nat → Int32) : aln (mkM f z) 55 = some (wI 10) := ok_aln (q := (1, 0, 10, [])) (h 55 (by decide)) rfl (by decide) f
theorem l_56_ {z : Mem} (h : Sh z) (f : Nat → Nat → Int32) {k : Nat} (hk : k < 10) : lI (mkM f z) 56 (wI k) = some (f 56 k) := ok_lI (q := (1, 0, 10, [])) (h 56 (by decide)) rfl rfl f hk (by decide)
theorem s_56_ {z : Mem} (h : Sh z) (f : Nat → Nat → Int32) {k : Nat} (v : Int32) (hk : k < 10) : sI (mkM f z) 56 (wI k) v = some (mkM (up f 56 (upd (f 56) k v)) z) := ok_sI (q := (1, 0, 10, [])) (h 56 (by decide)) rfl rfl f v hk (by decide)
theorem n_56 {z : Mem} (h : Sh z) (f : Nat → Nat → Int32) : aln (mkM f z) 56 = some (wI 10) := ok_aln (q := (1, 0, 10, [])) (h 56 (by decide)) rfl (by decide) f
theorem l_57_ {z : Mem} (h : Sh z) (f : Nat → Nat → Int32) {k : Nat} (hk : k < 5) : lI (mkM f z) 57 (wI k) = some (f 57 k) := ok_lI (q := (1, 0, 5, [])) (h 57 (by decide)) rfl rfl f hk (by decide)
theorem s_57_ {z : Mem} (h : Sh z) (f : Nat → Nat → Int32) {k : Nat} (v : Int32) (hk : k < 5) : sI (mkM f z) 57 (wI k) v = some (mkM (up f 57 (upd (f 57) k v)) z) := ok_sI (q := (1, 0, 5, [])) (h 57 (by decide)) rfl rfl f v hk (by decide)
theorem n_57 {z : Mem} (h : Sh z) (f : Nat → Nat → Int32) : aln (mkM f z) 57 = some (wI 5) := ok_aln (q := (1, 0, 5, [])) (h 57 (by decide)) rfl (by decide) f
theorem c_58 {z : Mem} (h : Sh z) (f : Nat → Nat → Int32) : isC (mkM f z) 9 58 = true := ok_isC (q := (0, 9, 0, [0, 61, 62, 63, 64, 65, 0, 66, 0, 0, 0, 67, 68, 0, 0, 69, 70, 71, 0, 0, 0, 0, 0, 0, 0, 0, 72, 0, 0, 73, 74, 0, 75, 76, 77, 78, 79, 80, 0, 81, 82, 83, 0, 0, 0, 0, 0, 0, 0, 84, 85, 86, 87, 0, 0, 0])) (h 58 (by decide)) rfl f
theorem g_58_0 {z : Mem} (h : Sh z) (f : Nat → Nat → Int32) : gI (mkM f z) 9 58 0 = some (f 58 0) := ok_gI (q := (0, 9, 0, [0, 61, 62, 63, 64, 65, 0, 66, 0, 0, 0, 67, 68, 0, 0, 69, 70, 71, 0, 0, 0, 0, 0, 0, 0, 0, 72, 0, 0, 73, 74, 0, 75, 76, 77, 78, 79, 80, 0, 81, 82, 83, 0, 0, 0, 0, 0, 0, 0, 84, 85, 86, 87, 0, 0, 0])) (h 58 (by decide)) rfl f rfl
theorem p_58_0 {z : Mem} (h : Sh z) (f : Nat → Nat → Int32) (v : Int32) : pF (mkM f z) 9 58 0 (.int v) = some (mkM (up f 58 (upd (f 58) 0 v)) z) := ok_pF (q := (0, 9, 0, [0, 61, 62, 63, 64, 65, 0, 66, 0, 0, 0, 67, 68, 0, 0, 69, 70, 71, 0, 0, 0, 0, 0, 0, 0, 0, 72, 0, 0, 73, 74, 0, 75, 76, 77, 78, 79, 80, 0, 81, 82, 83, 0, 0, 0, 0, 0, 0, 0, 84, 85, 86, 87, 0, 0, 0])) (h 58 (by decide)) rfl f rfl v
theorem r_58_1 {z : Mem} (h : Sh z) (f : Nat → Nat → Int32) : gR (mkM f z) 9 58 1 = some 59 := ok_gR (q := (0, 9, 0, [0, 61, 62, 63, 64, 65, 0, 66, 0, 0, 0, 67, 68, 0, 0, 69, 70, 71, 0, 0, 0, 0, 0, 0, 0, 0, 72, 0, 0, 73, 74, 0, 75, 76, 77, 78, 79, 80, 0, 81, 82, 83, 0, 0, 0, 0, 0, 0, 0, 84, 85, 86, 87, 0, 0, 0])) (h 58 (by decide)) rfl f rfl
theorem r_58_2 {z : Mem} (h : Sh z) (f : Nat → Nat → Int32) : gR (mkM f z) 9 58 2 = some 60 := ok_gR (q := (0, 9, 0, [0, 61, 62, 63, 64, 65, 0, 66, 0, 0, 0, 67, 68, 0, 0, 69, 70, 71, 0, 0, 0, 0, 0, 0, 0, 0, 72, 0, 0, 73, 74, 0, 75, 76, 77, 78, 79, 80, 0, 81, 82, 83, 0, 0, 0, 0, 0, 0, 0, 84, 85, 86, 87, 0, 0, 0])) (h 58 (by decide)) rfl f rfl
theorem r_58_3 {z : Mem} (h : Sh z) (f : Nat → Nat → Int32) : gR (mkM f z) 9 58 3 = some 61 := ok_gR (q := (0, 9, 0, [0, 61, 62, 63, 64, 65, 0, 66, 0, 0, 0, 67, 68, 0, 0, 69, 70, 71, 0, 0, 0, 0, 0, 0, 0, 0, 72, 0, 0, 73, 74, 0, 75, 76, 77, 78, 79, 80, 0, 81, 82, 83, 0, 0, 0, 0, 0, 0, 0, 84, 85, 86, 87, 0, 0, 0])) (h 58 (by decide)) rfl f rfl
theorem r_58_4 {z : Mem} (h : Sh z) (f : Nat → Nat → Int32) : gR (mkM f z) 9 58 4 = some 62 := ok_gR (q := (0, 9, 0, [0, 61, 62, 63, 64, 65, 0, 66, 0, 0, 0, 67, 68, 0, 0, 69, 70, 71, 0, 0, 0, 0, 0, 0, 0, 0, 72, 0, 0, 73, 74, 0, 75, 76, 77, 78, 79, 80, 0, 81, 82, 83, 0, 0, 0, 0, 0, 0, 0, 84, 85, 86, 87, 0, 0, 0])) (h 58 (by decide)) rfl f rfl
theorem r_58_5 {z : Mem} (h : Sh z) (f : Nat → Nat → Int32) : gR (mkM f z) 9 58 5 = some 63 := ok_gR (q := (0, 9, 0, [0, 61, 62, 63, 64, 65, 0, 66, 0, 0, 0, 67, 68, 0, 0, 69, 70, 71, 0, 0, 0, 0, 0, 0, 0, 0, 72, 0, 0, 73, 74, 0, 75, 76, 77, 78, 79, 80, 0, 81, 82, 83, 0, 0, 0, 0, 0, 0, 0, 84, 85, 86, 87, 0, 0, 0])) (h 58 (by decide)) rfl f rfl
theorem g_58_6 {z : Mem} (h : Sh z) (f : Nat → Nat → Int32) : gI (mkM f z) 9 58 6 = some (f 58 6) := ok_gI (q := (0, 9, 0, [0, 61, 62, 63, 64, 65, 0, 66, 0, 0, 0, 67, 68, 0, 0, 69, 70, 71, 0, 0, 0, 0, 0, 0, 0, 0, 72, 0, 0, 73, 74, 0, 75, 76, 77, 78, 79, 80, 0, 81, 82, 83, 0, 0, 0, 0, 0, 0, 0, 84, 85, 86, 87, 0, 0, 0])) (h 58 (by decide)) rfl f rfl
theorem p_58_6 {z : Mem} (h : Sh z) (f : Nat → Nat → Int32) (v : Int32) : pF (mkM f z) 9 58 6 (.int v) = some (mkM (up f 58 (upd (f 58) 6 v)) z) := ok_pF (q := (0, 9, 0, [0, 61, 62, 63, 64, 65, 0, 66, 0, 0, 0, 67, 68, 0, 0, 69, 70, 71, 0, 0, 0, 0, 0, 0, 0, 0, 72, 0, 0, 73, 74, 0, 75, 76, 77, 78, 79, 80, 0, 81, 82, 83, 0, 0, 0, 0, 0, 0, 0, 84, 85, 86, 87, 0, 0, 0])) (h 58 (by decide)) rfl f rfl v
theorem r_58_7 {z : Mem} (h : Sh z) (f : Nat → Nat → Int32) : gR (mkM f z) 9 58 7 = some 64 := ok_gR (q := (0, 9, 0, [0, 61, 62, 63, 64, 65, 0, 66, 0, 0, 0, 67, 68, 0, 0, 69, 70, 71, 0, 0, 0, 0, 0, 0, 0, 0, 72, 0, 0, 73, 74, 0, 75, 76, 77, 78, 79, 80, 0, 81, 82, 83, 0, 0, 0, 0, 0, 0, 0, 84, 85, 86, 87, 0, 0, 0])) (h 58 (by decide)) rfl f rfl
theorem g_58_8 {z : Mem} (h : Sh z) (f : Nat → Nat → Int32) : gI (mkM f z) 9 58 8 = some (f 58 8) := ok_gI (q := (0, 9, 0, [0, 61, 62, 63, 64, 65, 0, 66, 0, 0, 0, 67, 68, 0, 0, 69, 70, 71, 0, 0, 0, 0, 0, 0, 0, 0, 72, 0, 0, 73, 74, 0, 75, 76, 77, 78, 79, 80, 0, 81, 82, 83, 0, 0, 0, 0, 0, 0, 0, 84, 85, 86, 87, 0, 0, 0])) (h 58 (by decide)) rfl f rfl
theorem p_58_8 {z : Mem} (h : Sh z) (f : Nat → Nat → Int32) (v : Int32) : pF (mkM f z) 9 58 8 (.int v) = some (mkM (up f 58 (upd (f 58) 8 v)) z) := ok_pF (q := (0, 9, 0, [0, 61, 62, 63, 64, 65, 0, 66, 0, 0, 0, 67, 68, 0, 0, 69, 70, 71, 0, 0, 0, 0, 0, 0, 0, 0, 72, 0, 0, 73, 74, 0, 75, 76, 77, 78, 79, 80, 0, 81, 82, 83, 0, 0, 0, 0, 0, 0, 0, 84, 85, 86, 87, 0, 0, 0])) (h 58 (by decide)) rfl f rfl v
theorem g_58_9 {z : Mem} (h : Sh z) (f : Nat → Nat → Int32) : gI (mkM f z) 9 58 9 = some (f 58 9) := ok_gI (q := (0, 9, 0, [0, 61, 62, 63, 64, 65, 0, 66, 0, 0, 0, 67, 68, 0, 0, 69, 70, 71, 0, 0, 0, 0, 0, 0, 0, 0, 72, 0, 0, 73, 74, 0, 75, 76, 77, 78, 79, 80, 0, 81, 82, 83, 0, 0, 0, 0, 0, 0, 0, 84, 85, 86, 87, 0, 0, 0])) (h 58 (by decide)) rfl f rfl
theorem p_58_9 {z : Mem} (h : Sh z) (f : Nat → Nat → Int32) (v : Int32) : pF (mkM f z) 9 58 9 (.int v) = some (mkM (up f 58 (upd (f 58) 9 v)) z) := ok_pF (q := (0, 9, 0, [0, 61, 62, 63, 64, 65, 0, 66, 0, 0, 0, 67, 68, 0, 0, 69, 70, 71, 0, 0, 0, 0, 0, 0, 0, 0, 72, 0, 0, 73, 74, 0, 75, 76, 77, 78, 79, 80, 0, 81, 82, 83, 0, 0, 0, 0, 0, 0, 0, 84, 85, 86, 87, 0, 0, 0])) (h 58 (by decide)) rfl f rfl v
theorem g_58_10 {z : Mem} (h : Sh z) (f : Nat → Nat → Int32) : gI (mkM f z) 9 58 10 = some (f 58 10) := ok_gI (q := (0, 9, 0, [0, 61, 62, 63, 64, 65, 0, 66, 0, 0, 0, 67, 68, 0, 0, 69, 70, 71, 0, 0, 0, 0, 0, 0, 0, 0, 72, 0, 0, 73, 74, 0, 75, 76, 77, 78, 79, 80, 0, 81, 82, 83, 0, 0, 0, 0, 0, 0, 0, 84, 85, 86, 87, 0, 0, 0])) (h 58 (by decide)) rfl f rfl
theorem p_58_10 {z : Mem} (h : Sh z) (f : Nat → Nat → Int32) (v : Int32) : pF (mkM f z) 9 58 10 (.int v) = some (mkM (up f 58 (upd (f 58) 10 v)) z) := ok_pF (q := (0, 9, 0, [0, 61, 62, 63, 64, 65, 0, 66, 0, 0, 0, 67, 68, 0, 0, 69, 70, 71, 0, 0, 0, 0, 0, 0, 0, 0, 72, 0, 0, 73, 74, 0, 75, 76, 77, 78, 79, 80, 0, 81, 82, 83, 0, 0, 0, 0, 0, 0, 0, 84, 85, 86, 87, 0, 0, 0])) (h 58 (by decide)) rfl f rfl v
theorem r_58_11 {z : Mem} (h : Sh z) (f : Nat → Nat → Int32) : gR (mkM f z) 9 58 11 = some 65 := ok_gR (q := (0, 9, 0, [0, 61, 62, 63, 64, 65, 0, 66, 0, 0, 0, 67, 68, 0, 0, 69, 70, 71, 0, 0, 0, 0, 0, 0, 0, 0, 72, 0, 0, 73, 74, 0, 75, 76, 77, 78, 79, 80, 0, 81, 82, 83, 0, 0, 0, 0, 0, 0, 0, 84, 85, 86, 87, 0, 0, 0])) (h 58 (by decide)) rfl f rfl
theorem r_58_12 {z : Mem} (h : Sh z) (f : Nat → Nat → Int32) : gR (mkM f z) 9 58 12 = some 66 := ok_gR (q := (0, 9, 0, [0, 61, 62, 63, 64, 65, 0, 66, 0, 0, 0, 67, 68, 0, 0, 69, 70, 71, 0, 0, 0, 0, 0, 0, 0, 0, 72, 0, 0, 73, 74, 0, 75, 76, 77, 78, 79, 80, 0, 81, 82, 83, 0, 0, 0, 0, 0, 0, 0, 84, 85, 86, 87, 0, 0, 0])) (h 58 (by decide)) rfl f rfl
theorem g_58_13 {z : Mem} (h : Sh z) (f : Nat → Nat → Int32) : gI (mkM f z) 9 58 13 = some (f 58 13) := ok_gI (q := (0, 9, 0, [0, 61, 62, 63, 64, 65, 0, 66, 0, 0, 0, 67, 68, 0, 0, 69, 70, 71, 0, 0, 0, 0, 0, 0, 0, 0, 72, 0, 0, 73, 74, 0, 75, 76, 77, 78, 79, 80, 0, 81, 82, 83, 0, 0, 0, 0, 0, 0, 0, 84, 85, 86, 87, 0, 0, 0])) (h 58 (by decide)) rfl f rfl
theorem p_58_13 {z : Mem} (h : Sh z) (f : Nat → Nat → Int32) (v : Int32) : pF (mkM f z) 9 58 13 (.int v) = some (mkM (up f 58 (upd (f 58) 13 v)) z) := ok_pF (q := (0, 9, 0, [0, 61, 62, 63, 64, 65, 0, 66, 0, 0, 0, 67, 68, 0, 0, 69, 70, 71, 0, 0, 0, 0, 0, 0, 0, 0, 72, 0, 0, 73, 74, 0, 75, 76, 77, 78, 79, 80, 0, 81, 82, 83, 0, 0, 0, 0, 0, 0, 0, 84, 85, 86, 87, 0, 0, 0])) (h 58 (by decide)) rfl f rfl v
theorem g_58_14 {z : Mem} (h : Sh z) (f : Nat → Nat → Int32) : gI (mkM f z) 9 58 14 = some (f 58 14) := ok_gI (q := (0, 9, 0, [0, 61, 62, 63, 64, 65, 0, 66, 0, 0, 0, 67, 68, 0, 0, 69, 70, 71, 0, 0, 0, 0, 0, 0, 0, 0, 72, 0, 0, 73, 74, 0, 75, 76, 77, 78, 79, 80, 0, 81, 82, 83, 0, 0, 0, 0, 0, 0, 0, 84, 85, 86, 87, 0, 0, 0])) (h 58 (by decide)) rfl f rfl
theorem p_58_14 {z : Mem} (h : Sh z) (f : Nat → Nat → Int32) (v : Int32) : pF (mkM f z) 9 58 14 (.int v) = some (mkM (up f 58 (upd (f 58) 14 v)) z) := ok_pF (q := (0, 9, 0, [0, 61, 62, 63, 64, 65, 0, 66, 0, 0, 0, 67, 68, 0, 0, 69, 70, 71, 0, 0, 0, 0, 0, 0, 0, 0, 72, 0, 0, 73, 74, 0, 75, 76, 77, 78, 79, 80, 0, 81, 82, 83, 0, 0, 0, 0, 0, 0, 0, 84, 85, 86, 87, 0, 0, 0])) (h 58 (by decide)) rfl f rfl v
theorem r_58_15 {z : Mem} (h : Sh z) (f : Nat → Nat → Int32) : gR (mkM f z) 9 58 15 = some 67 := ok_gR (q := (0, 9, 0, [0, 61, 62, 63, 64, 65, 0, 66, 0, 0, 0, 67, 68, 0, 0, 69, 70, 71, 0, 0, 0, 0, 0, 0, 0, 0, 72, 0, 0, 73, 74, 0, 75, 76, 77, 78, 79, 80, 0, 81, 82, 83, 0, 0, 0, 0, 0, 0, 0, 84, 85, 86, 87, 0, 0, 0])) (h 58 (by decide)) rfl f rfl
theorem r_58_16 {z : Mem} (h : Sh z) (f : Nat → Nat → Int32) : gR (mkM f z) 9 58 16 = some 68 := ok_gR (q := (0, 9, 0, [0, 61, 62, 63, 64, 65, 0, 66, 0, 0, 0, 67, 68, 0, 0, 69, 70, 71, 0, 0, 0, 0, 0, 0, 0, 0, 72, 0, 0, 73, 74, 0, 75, 76, 77, 78, 79, 80, 0, 81, 82, 83, 0, 0, 0, 0, 0, 0, 0, 84, 85, 86, 87, 0, 0, 0])) (h 58 (by decide)) rfl f rfl
theorem r_58_17 {z : Mem} (h : Sh z) (f : Nat → Nat → Int32) : gR (mkM f z) 9 58 17 = some 69 := ok_gR (q := (0, 9, 0, [0, 61, 62, 63, 64, 65, 0, 66, 0, 0, 0, 67, 68, 0, 0, 69, 70, 71, 0, 0, 0, 0, 0, 0, 0, 0, 72, 0, 0, 73, 74, 0, 75, 76, 77, 78, 79, 80, 0, 81, 82, 83, 0, 0, 0, 0, 0, 0, 0, 84, 85, 86, 87, 0, 0, 0])) (h 58 (by decide)) rfl f rfl
theorem g_58_18 {z : Mem} (h : Sh z) (f : Nat → Nat → Int32) : gI (mkM f z) 9 58 18 = some (f 58 18) := ok_gI (q := (0, 9, 0, [0, 61, 62, 63, 64, 65, 0, 66, 0, 0, 0, 67, 68, 0, 0, 69, 70, 71, 0, 0, 0, 0, 0, 0, 0, 0, 72, 0, 0, 73, 74, 0, 75, 76, 77, 78, 79, 80, 0, 81, 82, 83, 0, 0, 0, 0, 0, 0, 0, 84, 85, 86, 87, 0, 0, 0])) (h 58 (by decide)) rfl f rfl
theorem p_58_18 {z : Mem} (h : Sh z) (f : Nat → Nat → Int32) (v : Int32) : pF (mkM f z) 9 58 18 (.int v) = some (mkM (up f 58 (upd (f 58) 18 v)) z) := ok_pF (q := (0, 9, 0, [0, 61, 62, 63, 64, 65, 0, 66, 0, 0, 0, 67, 68, 0, 0, 69, 70, 71, 0, 0, 0, 0, 0, 0, 0, 0, 72, 0, 0, 73, 74, 0, 75, 76, 77, 78, 79, 80, 0, 81, 82, 83, 0, 0, 0, 0, 0, 0, 0, 84, 85, 86, 87, 0, 0, 0])) (h 58 (by decide)) rfl f rfl v
theorem g_58_19 {z : Mem} (h : Sh z) (f : Nat → Nat → Int32) : gI (mkM f z) 9 58 19 = some (f 58 19) := ok_gI (q := (0, 9, 0, [0, 61, 62, 63, 64, 65, 0, 66, 0, 0, 0, 67, 68, 0, 0, 69, 70, 71, 0, 0, 0, 0, 0, 0, 0, 0, 72, 0, 0, 73, 74, 0, 75, 76, 77, 78, 79, 80, 0, 81, 82, 83, 0, 0, 0, 0, 0, 0, 0, 84, 85, 86, 87, 0, 0, 0])) (h 58 (by decide)) rfl f rfl
theorem p_58_19 {z : Mem} (h : Sh z) (f : Nat → Nat → Int32) (v : Int32) : pF (mkM f z) 9 58 19 (.int v) = some (mkM (up f 58 (upd (f 58) 19 v)) z) := ok_pF (q := (0, 9, 0, [0, 61, 62, 63, 64, 65, 0, 66, 0, 0, 0, 67, 68, 0, 0, 69, 70, 71, 0, 0, 0, 0, 0, 0, 0, 0, 72, 0, 0, 73, 74, 0, 75, 76, 77, 78, 79, 80, 0, 81, 82, 83, 0, 0, 0, 0, 0, 0, 0, 84, 85, 86, 87, 0, 0, 0])) (h 58 (by decide)) rfl f rfl v
theorem g_58_20 {z : Mem} (h : Sh z) (f : Nat → Nat → Int32) : gI (mkM f z) 9 58 20 = some (f 58 20) := ok_gI (q := (0, 9, 0, [0, 61, 62, 63, 64, 65, 0, 66, 0, 0, 0, 67, 68, 0, 0, 69, 70, 71, 0, 0, 0, 0, 0, 0, 0, 0, 72, 0, 0, 73, 74, 0, 75, 76, 77, 78, 79, 80, 0, 81, 82, 83, 0, 0, 0, 0, 0, 0, 0, 84, 85, 86, 87, 0, 0, 0])) (h 58 (by decide)) rfl f rfl
theorem p_58_20 {z : Mem} (h : Sh z) (f : Nat → Nat → Int32) (v : Int32) : pF (mkM f z) 9 58 20 (.int v) = some (mkM (up f 58 (upd (f 58) 20 v)) z) := ok_pF (q := (0, 9, 0, [0, 61, 62, 63, 64, 65, 0, 66, 0, 0, 0, 67, 68, 0, 0, 69, 70, 71, 0, 0, 0, 0, 0, 0, 0, 0, 72, 0, 0, 73, 74, 0, 75, 76, 77, 78, 79, 80, 0, 81, 82, 83, 0, 0, 0, 0, 0, 0, 0, 84, 85, 86, 87, 0, 0, 0])) (h 58 (by decide)) rfl f rfl v
theorem g_58_21 {z : Mem} (h : Sh z) (f : Nat → Nat → Int32) : gI (mkM f z) 9 58 21 = some (f 58 21) := ok_gI (q := (0, 9, 0, [0, 61, 62, 63, 64, 65, 0, 66, 0, 0, 0, 67, 68, 0, 0, 69, 70, 71, 0, 0, 0, 0, 0, 0, 0, 0, 72, 0, 0, 73, 74, 0, 75, 76, 77, 78, 79, 80, 0, 81, 82, 83, 0, 0, 0, 0, 0, 0, 0, 84, 85, 86, 87, 0, 0, 0])) (h 58 (by decide)) rfl f rfl
theorem p_58_21 {z : Mem} (h : Sh z) (f : Nat → Nat → Int32) (v : Int32) : pF (mkM f z) 9 58 21 (.int v) = some (mkM (up f 58 (upd (f 58) 21 v)) z) := ok_pF (q := (0, 9, 0, [0, 61, 62, 63, 64, 65, 0, 66, 0, 0, 0, 67, 68, 0, 0, 69, 70, 71, 0, 0, 0, 0, 0, 0, 0, 0, 72, 0, 0, 73, 74, 0, 75, 76, 77, 78, 79, 80, 0, 81, 82, 83, 0, 0, 0, 0, 0, 0, 0, 84, 85, 86, 87, 0, 0, 0])) (h 58 (by decide)) rfl f rfl v
theorem g_58_22 {z : Mem} (h : Sh z) (f : Nat → Nat → Int32) : gI (mkM f z) 9 58 22 = some (f 58 22) := ok_gI (q := (0, 9, 0, [0, 61, 62, 63, 64, 65, 0, 66, 0, 0, 0, 67, 68, 0, 0, 69, 70, 71, 0, 0, 0, 0, 0, 0, 0, 0, 72, 0, 0, 73, 74, 0, 75, 76, 77, 78, 79, 80, 0, 81, 82, 83, 0, 0, 0, 0, 0, 0, 0, 84, 85, 86, 87, 0, 0, 0])) (h 58 (by decide)) rfl f rfl
theorem p_58_22 {z : Mem} (h : Sh z) (f : Nat → Nat → Int32) (v : Int32) : pF (mkM f z) 9 58 22 (.int v) = some (mkM (up f 58 (upd (f 58) 22 v)) z) := ok_pF (q := (0, 9, 0, [0, 61, 62, 63, 64, 65, 0, 66, 0, 0, 0, 67, 68, 0, 0, 69, 70, 71, 0, 0, 0, 0, 0, 0, 0, 0, 72, 0, 0, 73, 74, 0, 75, 76, 77, 78, 79, 80, 0, 81, 82, 83, 0, 0, 0, 0, 0, 0, 0, 84, 85, 86, 87, 0, 0, 0])) (h 58 (by decide)) rfl f rfl v
theorem g_58_23 {z : Mem} (h : Sh z) (f : Nat → Nat → Int32) : gI (mkM f z) 9 58 23 = some (f 58 23) := ok_gI (q := (0, 9, 0, [0, 61, 62, 63, 64, 65, 0, 66, 0, 0, 0, 67, 68, 0, 0, 69, 70, 71, 0, 0, 0, 0, 0, 0, 0, 0, 72, 0, 0, 73, 74, 0, 75, 76, 77, 78, 79, 80, 0, 81, 82, 83, 0, 0, 0, 0, 0, 0, 0, 84, 85, 86, 87, 0, 0, 0])) (h 58 (by decide)) rfl f rfl
theorem p_58_23 {z : Mem} (h : Sh z) (f : Nat → Nat → Int32) (v : Int32) : pF (mkM f z) 9 58 23 (.int v) = some (mkM (up f 58 (upd (f 58) 23 v)) z) := ok_pF (q := (0, 9, 0, [0, 61, 62, 63, 64, 65, 0, 66, 0, 0, 0, 67, 68, 0, 0, 69, 70, 71, 0, 0, 0, 0, 0, 0, 0, 0, 72, 0, 0, 73, 74, 0, 75, 76, 77, 78, 79, 80, 0, 81, 82, 83, 0, 0, 0, 0, 0, 0, 0, 84, 85, 86, 87, 0, 0, 0])) (h 58 (by decide)) rfl f rfl v
theorem g_58_24 {z : Mem} (h : Sh z) (f : Nat → Nat → Int32) : gI (mkM f z) 9 58 24 = some (f 58 24) := ok_gI (q := (0, 9, 0, [0, 61, 62, 63, 64, 65, 0, 66, 0, 0, 0, 67, 68, 0, 0, 69, 70, 71, 0, 0, 0, 0, 0, 0, 0, 0, 72, 0, 0, 73, 74, 0, 75, 76, 77, 78, 79, 80, 0, 81, 82, 83, 0, 0, 0, 0, 0, 0, 0, 84, 85, 86, 87, 0, 0, 0])) (h 58 (by decide)) rfl f rfl
theorem p_58_24 {z : Mem} (h : Sh z) (f : Nat → Nat → Int32) (v : Int32) : pF (mkM f z) 9 58 24 (.int v) = some (mkM (up f 58 (upd (f 58) 24 v)) z) := ok_pF (q := (0, 9, 0, [0, 61, 62, 63, 64, 65, 0, 66, 0, 0, 0, 67, 68, 0, 0, 69, 70, 71, 0, 0, 0, 0, 0, 0, 0, 0, 72, 0, 0, 73, 74, 0, 75, 76, 77, 78, 79, 80, 0, 81, 82, 83, 0, 0, 0, 0, 0, 0, 0, 84, 85, 86, 87, 0, 0, 0])) (h 58 (by decide)) rfl f rfl v
theorem g_58_25 {z : Mem} (h : Sh z) (f : Nat → Nat → Int32) : gI (mkM f z) 9 58 25 = some (f 58 25) := ok_gI (q := (0, 9, 0, [0, 61, 62, 63, 64, 65, 0, 66, 0, 0, 0, 67, 68, 0, 0, 69, 70, 71, 0, 0, 0, 0, 0, 0, 0, 0, 72, 0, 0, 73, 74, 0, 75, 76, 77, 78, 79, 80, 0, 81, 82, 83, 0, 0, 0, 0, 0, 0, 0, 84, 85, 86, 87, 0, 0, 0])) (h 58 (by decide)) rfl f rfl
theorem p_58_25 {z : Mem} (h : Sh z) (f : Nat → Nat → Int32) (v : Int32) : pF (mkM f z) 9 58 25 (.int v) = some (mkM (up f 58 (upd (f 58) 25 v)) z) := ok_pF (q := (0, 9, 0, [0, 61, 62, 63, 64, 65, 0, 66, 0, 0, 0, 67, 68, 0, 0, 69, 70, 71, 0, 0, 0, 0, 0, 0, 0, 0, 72, 0, 0, 73, 74, 0, 75, 76, 77, 78, 79, 80, 0, 81, 82, 83, 0, 0, 0, 0, 0, 0, 0, 84, 85, 86, 87, 0, 0, 0])) (h 58 (by decide)) rfl f rfl v
theorem r_58_26 {z : Mem} (h : Sh z) (f : Nat → Nat → Int32) : gR (mkM f z) 9 58 26 = some 70 := ok_gR (q := (0, 9, 0, [0, 61, 62, 63, 64, 65, 0, 66, 0, 0, 0, 67, 68, 0, 0, 69, 70, 71, 0, 0, 0, 0, 0, 0, 0, 0, 72, 0, 0, 73, 74, 0, 75, 76, 77, 78, 79, 80, 0, 81, 82, 83, 0, 0, 0, 0, 0, 0, 0, 84, 85, 86, 87, 0, 0, 0])) (h 58 (by decide)) rfl f rfl
theorem g_58_27 {z : Mem} (h : Sh z) (f : Nat → Nat → Int32) : gI (mkM f z) 9 58 27 = some (f 58 27) := ok_gI (q := (0, 9, 0, [0, 61, 62, 63, 64, 65, 0, 66, 0, 0, 0, 67, 68, 0, 0, 69, 70, 71, 0, 0, 0, 0, 0, 0, 0, 0, 72, 0, 0, 73, 74, 0, 75, 76, 77, 78, 79, 80, 0, 81, 82, 83, 0, 0, 0, 0, 0, 0, 0, 84, 85, 86, 87, 0, 0, 0])) (h 58 (by decide)) rfl f rfl
theorem p_58_27 {z : Mem} (h : Sh z) (f : Nat → Nat → Int32) (v : Int32) : pF (mkM f z) 9 58 27 (.int v) = some (mkM (up f 58 (upd (f 58) 27 v)) z) := ok_pF (q := (0, 9, 0, [0, 61, 62, 63, 64, 65, 0, 66, 0, 0, 0, 67, 68, 0, 0, 69, 70, 71, 0, 0, 0, 0, 0, 0, 0, 0, 72, 0, 0, 73, 74, 0, 75, 76, 77, 78, 79, 80, 0, 81, 82, 83, 0, 0, 0, 0, 0, 0, 0, 84, 85, 86, 87, 0, 0, 0])) (h 58 (by decide)) rfl f rfl v
theorem g_58_28 {z : Mem} (h : Sh z) (f : Nat → Nat → Int32) : gI (mkM f z) 9 58 28 = some (f 58 28) := ok_gI (q := (0, 9, 0, [0, 61, 62, 63, 64, 65, 0, 66, 0, 0, 0, 67, 68, 0, 0, 69, 70, 71, 0, 0, 0, 0, 0, 0, 0, 0, 72, 0, 0, 73, 74, 0, 75, 76, 77, 78, 79, 80, 0, 81, 82, 83, 0, 0, 0, 0, 0, 0, 0, 84, 85, 86, 87, 0, 0, 0])) (h 58 (by decide)) rfl f rfl
theorem p_58_28 {z : Mem} (h : Sh z) (f : Nat → Nat → Int32) (v : Int32) : pF (mkM f z) 9 58 28 (.int v) = some (mkM (up f 58 (upd (f 58) 28 v)) z) := ok_pF (q := (0, 9, 0, [0, 61, 62, 63, 64, 65, 0, 66, 0, 0, 0, 67, 68, 0, 0, 69, 70, 71, 0, 0, 0, 0, 0, 0, 0, 0, 72, 0, 0, 73, 74, 0, 75, 76, 77, 78, 79, 80, 0, 81, 82, 83, 0, 0, 0, 0, 0, 0, 0, 84, 85, 86, 87, 0, 0, 0])) (h 58 (by decide)) rfl f rfl v
theorem r_58_29 {z : Mem} (h : Sh z) (f : Nat → Nat → Int32) : gR (mkM f z) 9 58 29 = some 71 := ok_gR (q := (0, 9, 0, [0, 61, 62, 63, 64, 65, 0, 66, 0, 0, 0, 67, 68, 0, 0, 69, 70, 71, 0, 0, 0, 0, 0, 0, 0, 0, 72, 0, 0, 73, 74, 0, 75, 76, 77, 78, 79, 80, 0, 81, 82, 83, 0, 0, 0, 0, 0, 0, 0, 84, 85, 86, 87, 0, 0, 0])) (h 58 (by decide)) rfl f rfl
theorem r_58_30 {z : Mem} (h : Sh z) (f : Nat → Nat → Int32) : gR (mkM f z) 9 58 30 = some 72 := ok_gR (q := (0, 9, 0, [0, 61, 62, 63, 64, 65, 0, 66, 0, 0, 0, 67, 68, 0, 0, 69, 70, 71, 0, 0, 0, 0, 0, 0, 0, 0, 72, 0, 0, 73, 74, 0, 75, 76, 77, 78, 79, 80, 0, 81, 82, 83, 0, 0, 0, 0, 0, 0, 0, 84, 85, 86, 87, 0, 0, 0])) (h 58 (by decide)) rfl f rfl
theorem g_58_31 {z : Mem} (h : Sh z) (f : Nat → Nat → Int32) : gI (mkM f z) 9 58 31 = some (f 58 31) := ok_gI (q := (0, 9, 0, [0, 61, 62, 63, 64, 65, 0, 66, 0, 0, 0, 67, 68, 0, 0, 69, 70, 71, 0, 0, 0, 0, 0, 0, 0, 0, 72, 0, 0, 73, 74, 0, 75, 76, 77, 78, 79, 80, 0, 81, 82, 83, 0, 0, 0, 0, 0, 0, 0, 84, 85, 86, 87, 0, 0, 0])) (h 58 (by decide)) rfl f rfl
theorem p_58_31 {z : Mem} (h : Sh z) (f : Nat → Nat → Int32) (v : Int32) : pF (mkM f z) 9 58 31 (.int v) = some (mkM (up f 58 (upd (f 58) 31 v)) z) := ok_pF (q := (0, 9, 0, [0, 61, 62, 63, 64, 65, 0, 66, 0, 0, 0, 67, 68, 0, 0, 69, 70, 71, 0, 0, 0, 0, 0, 0, 0, 0, 72, 0, 0, 73, 74, 0, 75, 76, 77, 78, 79, 80, 0, 81, 82, 83, 0, 0, 0, 0, 0, 0, 0, 84, 85, 86, 87, 0, 0, 0])) (h 58 (by decide)) rfl f rfl v
theorem r_58_32 {z : Mem} (h : Sh z) (f : Nat → Nat → Int32) : gR (mkM f z) 9 58 32 = some 73 := ok_gR (q := (0, 9, 0, [0, 61, 62, 63, 64, 65, 0, 66, 0, 0, 0, 67, 68, 0, 0, 69, 70, 71, 0, 0, 0, 0, 0, 0, 0, 0, 72, 0, 0, 73, 74, 0, 75, 76, 77, 78, 79, 80, 0, 81, 82, 83, 0, 0, 0, 0, 0, 0, 0, 84, 85, 86, 87, 0, 0, 0])) (h 58 (by decide)) rfl f rfl
theorem r_58_33 {z : Mem} (h : Sh z) (f : Nat → Nat → Int32) : gR (mkM f z) 9 58 33 = some 74 := ok_gR (q := (0, 9, 0, [0, 61, 62, 63, 64, 65, 0, 66, 0, 0, 0, 67, 68, 0, 0, 69, 70, 71, 0, 0, 0, 0, 0, 0, 0, 0, 72, 0, 0, 73, 74, 0, 75, 76, 77, 78, 79, 80, 0, 81, 82, 83, 0, 0, 0, 0, 0, 0, 0, 84, 85, 86, 87, 0, 0, 0])) (h 58 (by decide)) rfl f rfl
theorem r_58_34 {z : Mem} (h : Sh z) (f : Nat → Nat → Int32) : gR (mkM f z) 9 58 34 = some 75 := ok_gR (q := (0, 9, 0, [0, 61, 62, 63, 64, 65, 0, 66, 0, 0, 0, 67, 68, 0, 0, 69, 70, 71, 0, 0, 0, 0, 0, 0, 0, 0, 72, 0, 0, 73, 74, 0, 75, 76, 77, 78, 79, 80, 0, 81, 82, 83, 0, 0, 0, 0, 0, 0, 0, 84, 85, 86, 87, 0, 0, 0])) (h 58 (by decide)) rfl f rfl
theorem r_58_35 {z : Mem} (h : Sh z) (f : Nat → Nat → Int32) : gR (mkM f z) 9 58 35 = some 76 := ok_gR (q := (0, 9, 0, [0, 61, 62, 63, 64, 65, 0, 66, 0, 0, 0, 67, 68, 0, 0, 69, 70, 71, 0, 0, 0, 0, 0, 0, 0, 0, 72, 0, 0, 73, 74, 0, 75, 76, 77, 78, 79, 80, 0, 81, 82, 83, 0, 0, 0, 0, 0, 0, 0, 84, 85, 86, 87, 0, 0, 0])) (h 58 (by decide)) rfl f rfl
theorem r_58_36 {z : Mem} (h : Sh z) (f : Nat → Nat → Int32) : gR (mkM f z) 9 58 36 = some 77 := ok_gR (q := (0, 9, 0, [0, 61, 62, 63, 64, 65, 0, 66, 0, 0, 0, 67, 68, 0, 0, 69, 70, 71, 0, 0, 0, 0, 0, 0, 0, 0, 72, 0, 0, 73, 74, 0, 75, 76, 77, 78, 79, 80, 0, 81, 82, 83, 0, 0, 0, 0, 0, 0, 0, 84, 85, 86, 87, 0, 0, 0])) (h 58 (by decide)) rfl f rfl
theorem r_58_37 {z : Mem} (h : Sh z) (f : Nat → Nat → Int32) : gR (mkM f z) 9 58 37 = some 78 := ok_gR (q := (0, 9, 0, [0, 61, 62, 63, 64, 65, 0, 66, 0, 0, 0, 67, 68, 0, 0, 69, 70, 71, 0, 0, 0, 0, 0, 0, 0, 0, 72, 0, 0, 73, 74, 0, 75, 76, 77, 78, 79, 80, 0, 81, 82, 83, 0, 0, 0, 0, 0, 0, 0, 84, 85, 86, 87, 0, 0, 0])) (h 58 (by decide)) rfl f rfl
theorem g_58_38 {z : Mem} (h : Sh z) (f : Nat → Nat → Int32) : gI (mkM f z) 9 58 38 = some (f 58 38) := ok_gI (q := (0, 9, 0, [0, 61, 62, 63, 64, 65, 0, 66, 0, 0, 0, 67, 68, 0, 0, 69, 70, 71, 0, 0, 0, 0, 0, 0, 0, 0, 72, 0, 0, 73, 74, 0, 75, 76, 77, 78, 79, 80, 0, 81, 82, 83, 0, 0, 0, 0, 0, 0, 0, 84, 85, 86, 87, 0, 0, 0])) (h 58 (by decide)) rfl f rfl
theorem p_58_38 {z : Mem} (h : Sh z) (f : Nat → Nat → Int32) (v : Int32) : pF (mkM f z) 9 58 38 (.int v) = some (mkM (up f 58 (upd (f 58) 38 v)) z) := ok_pF (q := (0, 9, 0, [0, 61, 62, 63, 64, 65, 0, 66, 0, 0, 0, 67, 68, 0, 0, 69, 70, 71, 0, 0, 0, 0, 0, 0, 0, 0, 72, 0, 0, 73, 74, 0, 75, 76, 77, 78, 79, 80, 0, 81, 82, 83, 0, 0, 0, 0, 0, 0, 0, 84, 85, 86, 87, 0, 0, 0])) (h 58 (by decide)) rfl f rfl v
theorem r_58_39 {z : Mem} (h : Sh z) (f : Nat → Nat → Int32) : gR (mkM f z) 9 58 39 = some 79 := ok_gR (q := (0, 9, 0, [0, 61, 62, 63, 64, 65, 0, 66, 0, 0, 0, 67, 68, 0, 0, 69, 70, 71, 0, 0, 0, 0, 0, 0, 0, 0, 72, 0, 0, 73, 74, 0, 75, 76, 77, 78, 79, 80, 0, 81, 82, 83, 0, 0, 0, 0, 0, 0, 0, 84, 85, 86, 87, 0, 0, 0])) (h 58 (by decide)) rfl f rfl
theorem r_58_40 {z : Mem} (h : Sh z) (f : Nat → Nat → Int32) : gR (mkM f z) 9 58 40 = some 80 := ok_gR (q := (0, 9, 0, [0, 61, 62, 63, 64, 65, 0, 66, 0, 0, 0, 67, 68, 0, 0, 69, 70, 71, 0, 0, 0, 0, 0, 0, 0, 0, 72, 0, 0, 73, 74, 0, 75, 76, 77, 78, 79, 80, 0, 81, 82, 83, 0, 0, 0, 0, 0, 0, 0, 84, 85, 86, 87, 0, 0, 0])) (h 58 (by decide)) rfl f rfl
theorem r_58_41 {z : Mem} (h : Sh z) (f : Nat → Nat → Int32) : gR (mkM f z) 9 58 41 = some 81 := ok_gR (q := (0, 9, 0, [0, 61, 62, 63, 64, 65, 0, 66, 0, 0, 0, 67, 68, 0, 0, 69, 70, 71, 0, 0, 0, 0, 0, 0, 0, 0, 72, 0, 0, 73, 74, 0, 75, 76, 77, 78, 79, 80, 0, 81, 82, 83, 0, 0, 0, 0, 0, 0, 0, 84, 85, 86, 87, 0, 0, 0])) (h 58 (by decide)) rfl f rfl
theorem g_58_42 {z : Mem} (h : Sh z) (f : Nat → Nat → Int32) : gI (mkM f z) 9 58 42 = some (f 58 42) := ok_gI (q := (0, 9, 0, [0, 61, 62, 63, 64, 65, 0, 66, 0, 0, 0, 67, 68, 0, 0, 69, 70, 71, 0, 0, 0, 0, 0, 0, 0, 0, 72, 0, 0, 73, 74, 0, 75, 76, 77, 78, 79, 80, 0, 81, 82, 83, 0, 0, 0, 0, 0, 0, 0, 84, 85, 86, 87, 0, 0, 0])) (h 58 (by decide)) rfl f rfl
theorem p_58_42 {z : Mem} (h : Sh z) (f : Nat → Nat → Int32) (v : Int32) : pF (mkM f z) 9 58 42 (.int v) = some (mkM (up f 58 (upd (f 58) 42 v)) z) := ok_pF (q := (0, 9, 0, [0, 61, 62, 63, 64, 65, 0, 66, 0, 0, 0, 67, 68, 0, 0, 69, 70, 71, 0, 0, 0, 0, 0, 0, 0, 0, 72, 0, 0, 73, 74, 0, 75, 76, 77, 78, 79, 80, 0, 81, 82, 83, 0, 0, 0, 0, 0, 0, 0, 84, 85, 86, 87, 0, 0, 0])) (h 58 (by decide)) rfl f rfl v
theorem g_58_43 {z : Mem} (h : Sh z) (f : Nat → Nat → Int32) : gI (mkM f z) 9 58 43 = some (f 58 43) := ok_gI (q := (0, 9, 0, [0, 61, 62, 63, 64, 65, 0, 66, 0, 0, 0, 67, 68, 0, 0, 69, 70, 71, 0, 0, 0, 0, 0, 0, 0, 0, 72, 0, 0, 73, 74, 0, 75, 76, 77, 78, 79, 80, 0, 81, 82, 83, 0, 0, 0, 0, 0, 0, 0, 84, 85, 86, 87, 0, 0, 0])) (h 58 (by decide)) rfl f rfl
theorem p_58_43 {z : Mem} (h : Sh z) (f : Nat → Nat → Int32) (v : Int32) : pF (mkM f z) 9 58 43 (.int v) = some (mkM (up f 58 (upd (f 58) 43 v)) z) := ok_pF (q := (0, 9, 0, [0, 61, 62, 63, 64, 65, 0, 66, 0, 0, 0, 67, 68, 0, 0, 69, 70, 71, 0, 0, 0, 0, 0, 0, 0, 0, 72, 0, 0, 73, 74, 0, 75, 76, 77, 78, 79, 80, 0, 81, 82, 83, 0, 0, 0, 0, 0, 0, 0, 84, 85, 86, 87, 0, 0, 0])) (h 58 (by decide)) rfl f rfl v
theorem g_58_44 {z : Mem} (h : Sh z) (f : Nat → Nat → Int32) : gI (mkM f z) 9 58 44 = some (f 58 44) := ok_gI (q := (0, 9, 0, [0, 61, 62, 63, 64, 65, 0, 66, 0, 0, 0, 67, 68, 0, 0, 69, 70, 71, 0, 0, 0, 0, 0, 0, 0, 0, 72, 0, 0, 73, 74, 0, 75, 76, 77, 78, 79, 80, 0, 81, 82, 83, 0, 0, 0, 0, 0, 0, 0, 84, 85, 86, 87, 0, 0, 0])) (h 58 (by decide)) rfl f rfl
theorem p_58_44 {z : Mem} (h : Sh z) (f : Nat → Nat → Int32) (v : Int32) : pF (mkM f z) 9 58 44 (.int v) = some (mkM (up f 58 (upd (f 58) 44 v)) z) := ok_pF (q := (0, 9, 0, [0, 61, 62, 63, 64, 65, 0, 66, 0, 0, 0, 67, 68, 0, 0, 69, 70, 71, 0, 0, 0, 0, 0, 0, 0, 0, 72, 0, 0, 73, 74, 0, 75, 76, 77, 78, 79, 80, 0, 81, 82, 83, 0, 0, 0, 0, 0, 0, 0, 84, 85, 86, 87, 0, 0, 0])) (h 58 (by decide)) rfl f rfl v
theorem g_58_45 {z : Mem} (h : Sh z) (f : Nat → Nat → Int32) : gI (mkM f z) 9 58 45 = some (f 58 45) := ok_gI (q := (0, 9, 0, [0, 61, 62, 63, 64, 65, 0, 66, 0, 0, 0, 67, 68, 0, 0, 69, 70, 71, 0, 0, 0, 0, 0, 0, 0, 0, 72, 0, 0, 73, 74, 0, 75, 76, 77, 78, 79, 80, 0, 81, 82, 83, 0, 0, 0, 0, 0, 0, 0, 84, 85, 86, 87, 0, 0, 0])) (h 58 (by decide)) rfl f rfl
theorem p_58_45 {z : Mem} (h : Sh z) (f : Nat → Nat → Int32) (v : Int32) : pF (mkM f z) 9 58 45 (.int v) = some (mkM (up f 58 (upd (f 58) 45 v)) z) := ok_pF (q := (0, 9, 0, [0, 61, 62, 63, 64, 65, 0, 66, 0, 0, 0, 67, 68, 0, 0, 69, 70, 71, 0, 0, 0, 0, 0, 0, 0, 0, 72, 0, 0, 73, 74, 0, 75, 76, 77, 78, 79, 80, 0, 81, 82, 83, 0, 0, 0, 0, 0, 0, 0, 84, 85, 86, 87, 0, 0, 0])) (h 58 (by decide)) rfl f rfl v
theorem g_58_46 {z : Mem} (h : Sh z) (f : Nat → Nat → Int32) : gI (mkM f z) 9 58 46 = some (f 58 46) := ok_gI (q := (0, 9, 0, [0, 61, 62, 63, 64, 65, 0, 66, 0, 0, 0, 67, 68, 0, 0, 69, 70, 71, 0, 0, 0, 0, 0, 0, 0, 0, 72, 0, 0, 73, 74, 0, 75, 76, 77, 78, 79, 80, 0, 81, 82, 83, 0, 0, 0, 0, 0, 0, 0, 84, 85, 86, 87, 0, 0, 0])) (h 58 (by decide)) rfl f rfl
theorem p_58_46 {z : Mem} (h : Sh z) (f : Nat → Nat → Int32) (v : Int32) : pF (mkM f z) 9 58 46 (.int v) = some (mkM (up f 58 (upd (f 58) 46 v)) z) := ok_pF (q := (0, 9, 0, [0, 61, 62, 63, 64, 65, 0, 66, 0, 0, 0, 67, 68, 0, 0, 69, 70, 71, 0, 0, 0, 0, 0, 0, 0, 0, 72, 0, 0, 73, 74, 0, 75, 76, 77, 78, 79, 80, 0, 81, 82, 83, 0, 0, 0, 0, 0, 0, 0, 84, 85, 86, 87, 0, 0, 0])) (h 58 (by decide)) rfl f rfl v
theorem g_58_47 {z : Mem} (h : Sh z) (f : Nat → Nat → Int32) : gI (mkM f z) 9 58 47 = some (f 58 47) := ok_gI (q := (0, 9, 0, [0, 61, 62, 63, 64, 65, 0, 66, 0, 0, 0, 67, 68, 0, 0, 69, 70, 71, 0, 0, 0, 0, 0, 0, 0, 0, 72, 0, 0, 73, 74, 0, 75, 76, 77, 78, 79, 80, 0, 81, 82, 83, 0, 0, 0, 0, 0, 0, 0, 84, 85, 86, 87, 0, 0, 0])) (h 58 (by decide)) rfl f rfl
theorem p_58_47 {z : Mem} (h : Sh z) (f : Nat → Nat → Int32) (v : Int32) : pF (mkM f z) 9 58 47 (.int v) = some (mkM (up f 58 (upd (f 58) 47 v)) z) := ok_pF (q := (0, 9, 0, [0, 61, 62, 63, 64, 65, 0, 66, 0, 0, 0, 67, 68, 0, 0, 69, 70, 71, 0, 0, 0, 0, 0, 0, 0, 0, 72, 0, 0, 73, 74, 0, 75, 76, 77, 78, 79, 80, 0, 81, 82, 83, 0, 0, 0, 0, 0, 0, 0, 84, 85, 86, 87, 0, 0, 0])) (h 58 (by decide)) rfl f rfl v
theorem g_58_48 {z : Mem} (h : Sh z) (f : Nat → Nat → Int32) : gI (mkM f z) 9 58 48 = some (f 58 48) := ok_gI (q := (0, 9, 0, [0, 61, 62, 63, 64, 65, 0, 66, 0, 0, 0, 67, 68, 0, 0, 69, 70, 71, 0, 0, 0, 0, 0, 0, 0, 0, 72, 0, 0, 73, 74, 0, 75, 76, 77, 78, 79, 80, 0, 81, 82, 83, 0, 0, 0, 0, 0, 0, 0, 84, 85, 86, 87, 0, 0, 0])) (h 58 (by decide)) rfl f rfl
theorem p_58_48 {z : Mem} (h : Sh z) (f : Nat → Nat → Int32) (v : Int32) : pF (mkM f z) 9 58 48 (.int v) = some (mkM (up f 58 (upd (f 58) 48 v)) z) := ok_pF (q := (0, 9, 0, [0, 61, 62, 63, 64, 65, 0, 66, 0, 0, 0, 67, 68, 0, 0, 69, 70, 71, 0, 0, 0, 0, 0, 0, 0, 0, 72, 0, 0, 73, 74, 0, 75, 76, 77, 78, 79, 80, 0, 81, 82, 83, 0, 0, 0, 0, 0, 0, 0, 84, 85, 86, 87, 0, 0, 0])) (h 58 (by decide)) rfl f rfl v
theorem r_58_49 {z : Mem} (h : Sh z) (f : Nat → Nat → Int32) : gR (mkM f z) 9 58 49 = some 82 := ok_gR (q := (0, 9, 0, [0, 61, 62, 63, 64, 65, 0, 66, 0, 0, 0, 67, 68, 0, 0, 69, 70, 71, 0, 0, 0, 0, 0, 0, 0, 0, 72, 0, 0, 73, 74, 0, 75, 76, 77, 78, 79, 80, 0, 81, 82, 83, 0, 0, 0, 0, 0, 0, 0, 84, 85, 86, 87, 0, 0, 0])) (h 58 (by decide)) rfl f rfl
theorem r_58_50 {z : Mem} (h : Sh z) (f : Nat → Nat → Int32) : gR (mkM f z) 9 58 50 = some 83 := ok_gR (q := (0, 9, 0, [0, 61, 62, 63, 64, 65, 0, 66, 0, 0, 0, 67, 68, 0, 0, 69, 70, 71, 0, 0, 0, 0, 0, 0, 0, 0, 72, 0, 0, 73, 74, 0, 75, 76, 77, 78, 79, 80, 0, 81, 82, 83, 0, 0, 0, 0, 0, 0, 0, 84, 85, 86, 87, 0, 0, 0])) (h 58 (by decide)) rfl f rfl
theorem r_58_51 {z : Mem} (h : Sh z) (f : Nat → Nat → Int32) : gR (mkM f z) 9 58 51 = some 84 := ok_gR (q := (0, 9, 0, [0, 61, 62, 63, 64, 65, 0, 66, 0, 0, 0, 67, 68, 0, 0, 69, 70, 71, 0, 0, 0, 0, 0, 0, 0, 0, 72, 0, 0, 73, 74, 0, 75, 76, 77, 78, 79, 80, 0, 81, 82, 83, 0, 0, 0, 0, 0, 0, 0, 84, 85, 86, 87, 0, 0, 0])) (h 58 (by decide)) rfl f rfl
theorem r_58_52 {z : Mem} (h : Sh z) (f : Nat → Nat → Int32) : gR (mkM f z) 9 58 52 = some 85 := ok_gR (q := (0, 9, 0, [0, 61, 62, 63, 64, 65, 0, 66, 0, 0, 0, 67, 68, 0, 0, 69, 70, 71, 0, 0, 0, 0, 0, 0, 0, 0, 72, 0, 0, 73, 74, 0, 75, 76, 77, 78, 79, 80, 0, 81, 82, 83, 0, 0, 0, 0, 0, 0, 0, 84, 85, 86, 87, 0, 0, 0])) (h 58 (by decide)) rfl f rfl
theorem g_58_53 {z : Mem} (h : Sh z) (f : Nat → Nat → Int32) : gI (mkM f z) 9 58 53 = some (f 58 53) := ok_gI (q := (0, 9, 0, [0, 61, 62, 63, 64, 65, 0, 66, 0, 0, 0, 67, 68, 0, 0, 69, 70, 71, 0, 0, 0, 0, 0, 0, 0, 0, 72, 0, 0, 73, 74, 0, 75, 76, 77, 78, 79, 80, 0, 81, 82, 83, 0, 0, 0, 0, 0, 0, 0, 84, 85, 86, 87, 0, 0, 0])) (h 58 (by decide)) rfl f rfl
theorem p_58_53 {z : Mem} (h : Sh z) (f : Nat → Nat → Int32) (v : Int32) : pF (mkM f z) 9 58 53 (.int v) = some (mkM (up f 58 (upd (f 58) 53 v)) z) := ok_pF (q := (0, 9, 0, [0, 61, 62, 63, 64, 65, 0, 66, 0, 0, 0, 67, 68, 0, 0, 69, 70, 71, 0, 0, 0, 0, 0, 0, 0, 0, 72, 0, 0, 73, 74, 0, 75, 76, 77, 78, 79, 80, 0, 81, 82, 83, 0, 0, 0, 0, 0, 0, 0, 84, 85, 86, 87, 0, 0, 0])) (h 58 (by decide)) rfl f rfl v
theorem g_58_54 {z : Mem} (h : Sh z) (f : Nat → Nat → Int32) : gI (mkM f z) 9 58 54 = some (f 58 54) := ok_gI (q := (0, 9, 0, [0, 61, 62, 63, 64, 65, 0, 66, 0, 0, 0, 67, 68, 0, 0, 69, 70, 71, 0, 0, 0, 0, 0, 0, 0, 0, 72, 0, 0, 73, 74, 0, 75, 76, 77, 78, 79, 80, 0, 81, 82, 83, 0, 0, 0, 0, 0, 0, 0, 84, 85, 86, 87, 0, 0, 0])) (h 58 (by decide)) rfl f rfl
theorem p_58_54 {z : Mem} (h : Sh z) (f : Nat → Nat → Int32) (v : Int32) : pF (mkM f z) 9 58 54 (.int v) = some (mkM (up f 58 (upd (f 58) 54 v)) z) := ok_pF (q := (0, 9, 0, [0, 61, 62, 63, 64, 65, 0, 66, 0, 0, 0, 67, 68, 0, 0, 69, 70, 71, 0, 0, 0, 0, 0, 0, 0, 0, 72, 0, 0, 73, 74, 0, 75, 76, 77, 78, 79, 80, 0, 81, 82, 83, 0, 0, 0, 0, 0, 0, 0, 84, 85, 86, 87, 0, 0, 0])) (h 58 (by decide)) rfl f rfl v
theorem g_58_55 {z : Mem} (h : Sh z) (f : Nat → Nat → Int32) : gI (mkM f z) 9 58 55 = some (f 58 55) := ok_gI (q := (0, 9, 0, [0, 61, 62, 63, 64, 65, 0, 66, 0, 0, 0, 67, 68, 0, 0, 69, 70, 71, 0, 0, 0, 0, 0, 0, 0, 0, 72, 0, 0, 73, 74, 0, 75, 76, 77, 78, 79, 80, 0, 81, 82, 83, 0, 0, 0, 0, 0, 0, 0, 84, 85, 86, 87, 0, 0, 0])) (h 58 (by decide)) rfl f rfl
theorem p_58_55 {z : Mem} (h : Sh z) (f : Nat → Nat → Int32) (v : Int32) : pF (mkM f z) 9 58 55 (.int v) = some (mkM (up f 58 (upd (f 58) 55 v)) z) := ok_pF (q := (0, 9, 0, [0, 61, 62, 63, 64, 65, 0, 66, 0, 0, 0, 67, 68, 0, 0, 69, 70, 71, 0, 0, 0, 0, 0, 0, 0, 0, 72, 0, 0, 73, 74, 0, 75, 76, 77, 78, 79, 80, 0, 81, 82, 83, 0, 0, 0, 0, 0, 0, 0, 84, 85, 86, 87, 0, 0, 0])) (h 58 (by decide)) rfl f rfl v
theorem l_59_ {z : Mem} (h : Sh z) (f : Nat → Nat → Int32) {k : Nat} (hk : k < 7) : lI (mkM f z) 59 (wI k) = some (f 59 k) := ok_lI (q := (1, 0, 7, [])) (h 59 (by decide)) rfl rfl f hk (by decide)
theorem s_59_ {z : Mem} (h : Sh z) (f : Nat → Nat → Int32) {k : Nat} (v : Int32) (hk : k < 7) : sI (mkM f z) 59 (wI k) v = some (mkM (up f 59 (upd (f 59) k v)) z) := ok_sI (q := (1, 0, 7, [])) (h 59 (by decide)) rfl rfl f v hk (by decide)
theorem n_59 {z : Mem} (h : Sh z) (f : Nat → Nat → Int32) : aln (mkM f z) 59 = some (wI 7) := ok_aln (q := (1, 0, 7, [])) (h 59 (by decide)) rfl (by decide) f
theorem l_60_ {z : Mem} (h : Sh z) (f : Nat → Nat → Int32) {k : Nat} (hk : k < 5711) : lI (mkM f z) 60 (wI k) = some (f 60 k) := ok_lI (q := (1, 0, 5711, [])) (h 60 (by decide)) rfl rfl f hk (by decide)
theorem s_60_ {z : Mem} (h : Sh z) (f : Nat → Nat → Int32) {k : Nat} (v : Int32) (hk : k < 5711) : sI (mkM f z) 60 (wI k) v = some (mkM (up f 60 (upd (f 60) k v)) z) := ok_sI (q := (1, 0, 5711, [])) (h 60 (by decide)) rfl rfl f v hk (by decide)
theorem n_60 {z : Mem} (h : Sh z) (f : Nat → Nat → Int32) : aln (mkM f z) 60 = some (wI 5711) := ok_aln (q := (1, 0, 5711, [])) (h 60 (by decide)) rfl (by decide) f
theorem l_61_ {z : Mem} (h : Sh z) (f : Nat → Nat → Int32) {k : Nat} (hk : k < 11422) : lI (mkM f z) 61 (wI k) = some (f 61 k) := ok_lI (q := (1, 0, 11422, [])) (h 61 (by decide)) rfl rfl f hk (by decide)
theorem s_61_ {z : Mem} (h : Sh z) (f : Nat → Nat → Int32) {k : Nat} (v : Int32) (hk : k < 11422) : sI (mkM f z) 61 (wI k) v = some (mkM (up f 61 (upd (f 61) k v)) z) := ok_sI (q := (1, 0, 11422, [])) (h 61 (by decide)) rfl rfl f v hk (by decide)
theorem n_61 {z : Mem} (h : Sh z) (f : Nat → Nat → Int32) : aln (mkM f z) 61 = some (wI 11422) := ok_aln (q := (1, 0, 11422, [])) (h 61 (by decide)) rfl (by decide) f
theorem l_62_ {z : Mem} (h : Sh z) (f : Nat → Nat → Int32) {k : Nat} (hk : k < 2) : lB (mkM f z) 62 (wI k) = some (f 62 k) := ok_lB (q := (1, 2, 2, [])) (h 62 (by decide)) rfl (by decide) f hk (by decide)
theorem s_62_ {z : Mem} (h : Sh z) (f : Nat → Nat → Int32) {k : Nat} (v : Int32) (hk : k < 2) : sB (mkM f z) 62 (wI k) v = some (mkM (up f 62 (upd (f 62) k (vp_nar .boolean v))) z) := ok_sB2 (q := (1, 2, 2, [])) (h 62 (by decide)) rfl rfl f v hk (by decide)
theorem n_62 {z : Mem} (h : Sh z) (f : Nat → Nat → Int32) : aln (mkM f z) 62 = some (wI 2) := ok_aln (q := (1, 2, 2, [])) (h 62 (by decide)) rfl (by decide) f
theorem l_63_ {z : Mem} (h : Sh z) (f : Nat → Nat → Int32) {k : Nat} (hk : k < 333) : lI (mkM f z) 63 (wI k) = some (f 63 k) := ok_lI (q := (1, 0, 333, [])) (h 63 (by decide)) rfl rfl f hk (by decide)
theorem s_63_ {z : Mem} (h : Sh z) (f : Nat → Nat → Int32) {k : Nat} (v : Int32) (hk : k < 333) : sI (mkM f z) 63 (wI k) v = some (mkM (up f 63 (upd (f 63) k v)) z) := ok_sI (q := (1, 0, 333, [])) (h 63 (by decide)) rfl rfl f v hk (by decide)
theorem n_63 {z : Mem} (h : Sh z) (f : Nat → Nat → Int32) : aln (mkM f z) 63 = some (wI 333) := ok_aln (q := (1, 0, 333, [])) (h 63 (by decide)) rfl (by decide) f
theorem l_64_ {z : Mem} (h : Sh z) (f : Nat → Nat → Int32) {k : Nat} (hk : k < 122) : lB (mkM f z) 64 (wI k) = some (f 64 k) := ok_lB (q := (1, 1, 122, [])) (h 64 (by decide)) rfl (by decide) f hk (by decide)
theorem s_64_ {z : Mem} (h : Sh z) (f : Nat → Nat → Int32) {k : Nat} (v : Int32) (hk : k < 122) : sB (mkM f z) 64 (wI k) v = some (mkM (up f 64 (upd (f 64) k (vp_nar .byte v))) z) := ok_sB1 (q := (1, 1, 122, [])) (h 64 (by decide)) rfl rfl f v hk (by decide)
theorem n_64 {z : Mem} (h : Sh z) (f : Nat → Nat → Int32) : aln (mkM f z) 64 = some (wI 122) := ok_aln (q := (1, 1, 122, [])) (h 64 (by decide)) rfl (by decide) f
theorem l_65_ {z : Mem} (h : Sh z) (f : Nat → Nat → Int32) {k : Nat} (hk : k < 400) : lB (mkM f z) 65 (wI k) = some (f 65 k) := ok_lB (q := (1, 1, 400, [])) (h 65 (by decide)) rfl (by decide) f hk (by decide)
theorem s_65_ {z : Mem} (h : Sh z) (f : Nat → Nat → Int32) {k : Nat} (v : Int32) (hk : k < 400) : sB (mkM f z) 65 (wI k) v = some (mkM (up f 65 (upd (f 65) k (vp_nar .byte v))) z) := ok_sB1 (q := (1, 1, 400, [])) (h 65 (by decide)) rfl rfl f v hk (by decide)
theorem n_65 {z : Mem} (h : Sh z) (f : Nat → Nat → Int32) : aln (mkM f z) 65 = some (wI 400) := ok_aln (q := (1, 1, 400, [])) (h 65 (by decide)) rfl (by decide) f
theorem l_66_ {z : Mem} (h : Sh z) (f : Nat → Nat → Int32) {k : Nat} (hk : k < 5) : lI (mkM f z) 66 (wI k) = some (f 66 k) := ok_lI (q := (1, 0, 5, [])) (h 66 (by decide)) rfl rfl f hk (by decide)
theorem s_66_ {z : Mem} (h : Sh z) (f : Nat → Nat → Int32) {k : Nat} (v : Int32) (hk : k < 5) : sI (mkM f z) 66 (wI k) v = some (mkM (up f 66 (upd (f 66) k v)) z) := ok_sI (q := (1, 0, 5, [])) (h 66 (by decide)) rfl rfl f v hk (by decide)
theorem n_66 {z : Mem} (h : Sh z) (f : Nat → Nat → Int32) : aln (mkM f z) 66 = some (wI 5) := ok_aln (q := (1, 0, 5, [])) (h 66 (by decide)) rfl (by decide) f
theorem l_67_ {z : Mem} (h : Sh z) (f : Nat → Nat → Int32) {k : Nat} (hk : k < 401) : lI (mkM f z) 67 (wI k) = some (f 67 k) := ok_lI (q := (1, 0, 401, [])) (h 67 (by decide)) rfl rfl f hk (by decide)
theorem s_67_ {z : Mem} (h : Sh z) (f : Nat → Nat → Int32) {k : Nat} (v : Int32) (hk : k < 401) : sI (mkM f z) 67 (wI k) v = some (mkM (up f 67 (upd (f 67) k v)) z) := ok_sI (q := (1, 0, 401, [])) (h 67 (by decide)) rfl rfl f v hk (by decide)
theorem n_67 {z : Mem} (h : Sh z) (f : Nat → Nat → Int32) : aln (mkM f z) 67 = some (wI 401) := ok_aln (q := (1, 0, 401, [])) (h 67 (by decide)) rfl (by decide) f
theorem l_68_ {z : Mem} (h : Sh z) (f : Nat → Nat → Int32) {k : Nat} (hk : k < 401) : lI (mkM f z) 68 (wI k) = some (f 68 k) := ok_lI (q := (1, 0, 401, [])) (h 68 (by decide)) rfl rfl f hk (by decide)
theorem s_68_ {z : Mem} (h : Sh z) (f : Nat → Nat → Int32) {k : Nat} (v : Int32) (hk : k < 401) : sI (mkM f z) 68 (wI k) v = some (mkM (up f 68 (upd (f 68) k v)) z) := ok_sI (q := (1, 0, 401, [])) (h 68 (by decide)) rfl rfl f v hk (by decide)
theorem n_68 {z : Mem} (h : Sh z) (f : Nat → Nat → Int32) : aln (mkM f z) 68 = some (wI 401) := ok_aln (q := (1, 0, 401, [])) (h 68 (by decide)) rfl (by decide) f
theorem l_69_ {z : Mem} (h : Sh z) (f : Nat → Nat → Int32) {k : Nat} (hk : k < 401) : lI (mkM f z) 69 (wI k) = some (f 69 k) := ok_lI (q := (1, 0, 401, [])) (h 69 (by decide)) rfl rfl f hk (by decide)
theorem s_69_ {z : Mem} (h : Sh z) (f : Nat → Nat → Int32) {k : Nat} (v : Int32) (hk : k < 401) : sI (mkM f z) 69 (wI k) v = some (mkM (up f 69 (upd (f 69) k v)) z) := ok_sI (q := (1, 0, 401, [])) (h 69 (by decide)) rfl rfl f v hk (by decide)
theorem n_69 {z : Mem} (h : Sh z) (f : Nat → Nat → Int32) : aln (mkM f z) 69 = some (wI 401) := ok_aln (q := (1, 0, 401, [])) (h 69 (by decide)) rfl (by decide) f
theorem l_70_ {z : Mem} (h : Sh z) (f : Nat → Nat → Int32) {k : Nat} (hk : k < 9) : lI (mkM f z) 70 (wI k) = some (f 70 k) := ok_lI (q := (1, 0, 9, [])) (h 70 (by decide)) rfl rfl f hk (by decide)
theorem s_70_ {z : Mem} (h : Sh z) (f : Nat → Nat → Int32) {k : Nat} (v : Int32) (hk : k < 9) : sI (mkM f z) 70 (wI k) v = some (mkM (up f 70 (upd (f 70) k v)) z) := ok_sI (q := (1, 0, 9, [])) (h 70 (by decide)) rfl rfl f v hk (by decide)
theorem n_70 {z : Mem} (h : Sh z) (f : Nat → Nat → Int32) : aln (mkM f z) 70 = some (wI 9) := ok_aln (q := (1, 0, 9, [])) (h 70 (by decide)) rfl (by decide) f
theorem l_71_ {z : Mem} (h : Sh z) (f : Nat → Nat → Int32) {k : Nat} (hk : k < 608) : lI (mkM f z) 71 (wI k) = some (f 71 k) := ok_lI (q := (1, 0, 608, [])) (h 71 (by decide)) rfl rfl f hk (by decide)
theorem s_71_ {z : Mem} (h : Sh z) (f : Nat → Nat → Int32) {k : Nat} (v : Int32) (hk : k < 608) : sI (mkM f z) 71 (wI k) v = some (mkM (up f 71 (upd (f 71) k v)) z) := ok_sI (q := (1, 0, 608, [])) (h 71 (by decide)) rfl rfl f v hk (by decide)
theorem n_71 {z : Mem} (h : Sh z) (f : Nat → Nat → Int32) : aln (mkM f z) 71 = some (wI 608) := ok_aln (q := (1, 0, 608, [])) (h 71 (by decide)) rfl (by decide) f
theorem l_72_ {z : Mem} (h : Sh z) (f : Nat → Nat → Int32) {k : Nat} (hk : k < 608) : lI (mkM f z) 72 (wI k) = some (f 72 k) := ok_lI (q := (1, 0, 608, [])) (h 72 (by decide)) rfl rfl f hk (by decide)
theorem s_72_ {z : Mem} (h : Sh z) (f : Nat → Nat → Int32) {k : Nat} (v : Int32) (hk : k < 608) : sI (mkM f z) 72 (wI k) v = some (mkM (up f 72 (upd (f 72) k v)) z) := ok_sI (q := (1, 0, 608, [])) (h 72 (by decide)) rfl rfl f v hk (by decide)
theorem n_72 {z : Mem} (h : Sh z) (f : Nat → Nat → Int32) : aln (mkM f z) 72 = some (wI 608) := ok_aln (q := (1, 0, 608, [])) (h 72 (by decide)) rfl (by decide) f
theorem l_73_ {z : Mem} (h : Sh z) (f : Nat → Nat → Int32) {k : Nat} (hk : k < 100) : lB (mkM f z) 73 (wI k) = some (f 73 k) := ok_lB (q := (1, 2, 100, [])) (h 73 (by decide)) rfl (by decide) f hk (by decide)
theorem s_73_ {z : Mem} (h : Sh z) (f : Nat → Nat → Int32) {k : Nat} (v : Int32) (hk : k < 100) : sB (mkM f z) 73 (wI k) v = some (mkM (up f 73 (upd (f 73) k (vp_nar .boolean v))) z) := ok_sB2 (q := (1, 2, 100, [])) (h 73 (by decide)) rfl rfl f v hk (by decide)
theorem n_73 {z : Mem} (h : Sh z) (f : Nat → Nat → Int32) : aln (mkM f z) 73 = some (wI 100) := ok_aln (q := (1, 2, 100, [])) (h 73 (by decide)) rfl (by decide) f
theorem l_74_ {z : Mem} (h : Sh z) (f : Nat → Nat → Int32) {k : Nat} (hk : k < 11264) : lB (mkM f z) 74 (wI k) = some (f 74 k) := ok_lB (q := (1, 1, 11264, [])) (h 74 (by decide)) rfl (by decide) f hk (by decide)
theorem s_74_ {z : Mem} (h : Sh z) (f : Nat → Nat → Int32) {k : Nat} (v : Int32) (hk : k < 11264) : sB (mkM f z) 74 (wI k) v = some (mkM (up f 74 (upd (f 74) k (vp_nar .byte v))) z) := ok_sB1 (q := (1, 1, 11264, [])) (h 74 (by decide)) rfl rfl f v hk (by decide)
theorem n_74 {z : Mem} (h : Sh z) (f : Nat → Nat → Int32) : aln (mkM f z) 74 = some (wI 11264) := ok_aln (q := (1, 1, 11264, [])) (h 74 (by decide)) rfl (by decide) f
theorem l_75_ {z : Mem} (h : Sh z) (f : Nat → Nat → Int32) {k : Nat} (hk : k < 6) : lI (mkM f z) 75 (wI k) = some (f 75 k) := ok_lI (q := (1, 0, 6, [])) (h 75 (by decide)) rfl rfl f hk (by decide)
theorem s_75_ {z : Mem} (h : Sh z) (f : Nat → Nat → Int32) {k : Nat} (v : Int32) (hk : k < 6) : sI (mkM f z) 75 (wI k) v = some (mkM (up f 75 (upd (f 75) k v)) z) := ok_sI (q := (1, 0, 6, [])) (h 75 (by decide)) rfl rfl f v hk (by decide)
theorem n_75 {z : Mem} (h : Sh z) (f : Nat → Nat → Int32) : aln (mkM f z) 75 = some (wI 6) := ok_aln (q := (1, 0, 6, [])) (h 75 (by decide)) rfl (by decide) f
theorem l_76_ {z : Mem} (h : Sh z) (f : Nat → Nat → Int32) {k : Nat} (hk : k < 6) : lI (mkM f z) 76 (wI k) = some (f 76 k) := ok_lI (q := (1, 0, 6, [])) (h 76 (by decide)) rfl rfl f hk (by decide)
theorem s_76_ {z : Mem} (h : Sh z) (f : Nat → Nat → Int32) {k : Nat} (v : Int32) (hk : k < 6) : sI (mkM f z) 76 (wI k) v = some (mkM (up f 76 (upd (f 76) k v)) z) := ok_sI (q := (1, 0, 6, [])) (h 76 (by decide)) rfl rfl f v hk (by decide)
theorem n_76 {z : Mem} (h : Sh z) (f : Nat → Nat → Int32) : aln (mkM f z) 76 = some (wI 6) := ok_aln (q := (1, 0, 6, [])) (h 76 (by decide)) rfl (by decide) f
theorem l_77_ {z : Mem} (h : Sh z) (f : Nat → Nat → Int32) {k : Nat} (hk : k < 6) : lI (mkM f z) 77 (wI k) = some (f 77 k) := ok_lI (q := (1, 0, 6, [])) (h 77 (by decide)) rfl rfl f hk (by decide)
theorem s_77_ {z : Mem} (h : Sh z) (f : Nat → Nat → Int32) {k : Nat} (v : Int32) (hk : k < 6) : sI (mkM f z) 77 (wI k) v = some (mkM (up f 77 (upd (f 77) k v)) z) := ok_sI (q := (1, 0, 6, [])) (h 77 (by decide)) rfl rfl f v hk (by decide)
theorem n_77 {z : Mem} (h : Sh z) (f : Nat → Nat → Int32) : aln (mkM f z) 77 = some (wI 6) := ok_aln (q := (1, 0, 6, [])) (h 77 (by decide)) rfl (by decide) f
theorem l_78_ {z : Mem} (h : Sh z) (f : Nat → Nat → Int32) {k : Nat} (hk : k < 6) : lI (mkM f z) 78 (wI k) = some (f 78 k) := ok_lI (q := (1, 0, 6, [])) (h 78 (by decide)) rfl rfl f hk (by decide)
theorem s_78_ {z : Mem} (h : Sh z) (f : Nat → Nat → Int32) {k : Nat} (v : Int32) (hk : k < 6) : sI (mkM f z) 78 (wI k) v = some (mkM (up f 78 (upd (f 78) k v)) z) := ok_sI (q := (1, 0, 6, [])) (h 78 (by decide)) rfl rfl f v hk (by decide)
theorem n_78 {z : Mem} (h : Sh z) (f : Nat → Nat → Int32) : aln (mkM f z) 78 = some (wI 6) := ok_aln (q := (1, 0, 6, [])) (h 78 (by decide)) rfl (by decide) f
theorem l_79_ {z : Mem} (h : Sh z) (f : Nat → Nat → Int32) {k : Nat} (hk : k < 6) : lI (mkM f z) 79 (wI k) = some (f 79 k) := ok_lI (q := (1, 0, 6, [])) (h 79 (by decide)) rfl rfl f hk (by decide)
theorem s_79_ {z : Mem} (h : Sh z) (f : Nat → Nat → Int32) {k : Nat} (v : Int32) (hk : k < 6) : sI (mkM f z) 79 (wI k) v = some (mkM (up f 79 (upd (f 79) k v)) z) := ok_sI (q := (1, 0, 6, [])) (h 79 (by decide)) rfl rfl f v hk (by decide)
theorem n_79 {z : Mem} (h : Sh z) (f : Nat → Nat → Int32) : aln (mkM f z) 79 = some (wI 6) := ok_aln (q := (1, 0, 6, [])) (h 79 (by decide)) rfl (by decide) f
theorem l_80_ {z : Mem} (h : Sh z) (f : Nat → Nat → Int32) {k : Nat} (hk : k < 7) : lI (mkM f z) 80 (wI k) = some (f 80 k) := ok_lI (q := (1, 0, 7, [])) (h 80 (by decide)) rfl rfl f hk (by decide)
theorem s_80_ {z : Mem} (h : Sh z) (f : Nat → Nat → Int32) {k : Nat} (v : Int32) (hk : k < 7) : sI (mkM f z) 80 (wI k) v = some (mkM (up f 80 (upd (f 80) k v)) z) := ok_sI (q := (1, 0, 7, [])) (h 80 (by decide)) rfl rfl f v hk (by decide)
theorem n_80 {z : Mem} (h : Sh z) (f : Nat → Nat → Int32) : aln (mkM f z) 80 = some (wI 7) := ok_aln (q := (1, 0, 7, [])) (h 80 (by decide)) rfl (by decide) f
theorem l_81_ {z : Mem} (h : Sh z) (f : Nat → Nat → Int32) {k : Nat} (hk : k < 7) : lI (mkM f z) 81 (wI k) = some (f 81 k) := ok_lI (q := (1, 0, 7, [])) (h 81 (by decide)) rfl rfl f hk (by decide)
theorem s_81_ {z : Mem} (h : Sh z) (f : Nat → Nat → Int32) {k : Nat} (v : Int32) (hk : k < 7) : sI (mkM f z) 81 (wI k) v = some (mkM (up f 81 (upd (f 81) k v)) z) := ok_sI (q := (1, 0, 7, [])) (h 81 (by decide)) rfl rfl f v hk (by decide)
theorem n_81 {z : Mem} (h : Sh z) (f : Nat → Nat → Int32) : aln (mkM f z) 81 = some (wI 7) := ok_aln (q := (1, 0, 7, [])) (h 81 (by decide)) rfl (by decide) f
theorem l_83_ {z : Mem} (h : Sh z) (f : Nat → Nat → Int32) {k : Nat} (hk : k < 6) : lI (mkM f z) 83 (wI k) = some (f 83 k) := ok_lI (q := (1, 0, 6, [])) (h 83 (by decide)) rfl rfl f hk (by decide)
theorem s_83_ {z : Mem} (h : Sh z) (f : Nat → Nat → Int32) {k : Nat} (v : Int32) (hk : k < 6) : sI (mkM f z) 83 (wI k) v = some (mkM (up f 83 (upd (f 83) k v)) z) := ok_sI (q := (1, 0, 6, [])) (h 83 (by decide)) rfl rfl f v hk (by decide)
theorem n_83 {z : Mem} (h : Sh z) (f : Nat → Nat → Int32) : aln (mkM f z) 83 = some (wI 6) := ok_aln (q := (1, 0, 6, [])) (h 83 (by decide)) rfl (by decide) f
theorem l_84_ {z : Mem} (h : Sh z) (f : Nat → Nat → Int32) {k : Nat} (hk : k < 10) : lI (mkM f z) 84 (wI k) = some (f 84 k) := ok_lI (q := (1, 0, 10, [])) (h 84 (by decide)) rfl rfl f hk (by decide)
theorem s_84_ {z : Mem} (h : Sh z) (f : Nat → Nat → Int32) {k : Nat} (v : Int32) (hk : k < 10) : sI (mkM f z) 84 (wI k) v = some (mkM (up f 84 (upd (f 84) k v)) z) := ok_sI (q := (1, 0, 10, [])) (h 84 (by decide)) rfl rfl f v hk (by decide)
theorem n_84 {z : Mem} (h : Sh z) (f : Nat → Nat → Int32) : aln (mkM f z) 84 = some (wI 10) := ok_aln (q := (1, 0, 10, [])) (h 84 (by decide)) rfl (by decide) f
theorem l_85_ {z : Mem} (h : Sh z) (f : Nat → Nat → Int32) {k : Nat} (hk : k < 10) : lI (mkM f z) 85 (wI k) = some (f 85 k) := ok_lI (q := (1, 0, 10, [])) (h 85 (by decide)) rfl rfl f hk (by decide)
theorem s_85_ {z : Mem} (h : Sh z) (f : Nat → Nat → Int32) {k : Nat} (v : Int32) (hk : k < 10) : sI (mkM f z) 85 (wI k) v = some (mkM (up f 85 (upd (f 85) k v)) z) := ok_sI (q := (1, 0, 10, [])) (h 85 (by decide)) rfl rfl f v hk (by decide)
theorem n_85 {z : Mem} (h : Sh z) (f : Nat → Nat → Int32) : aln (mkM f z) 85 = some (wI 10) := ok_aln (q := (1, 0, 10, [])) (h 85 (by decide)) rfl (by decide) f
