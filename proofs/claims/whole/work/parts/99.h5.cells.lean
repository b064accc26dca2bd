/-! ===== the cells behind both (printed by wip/whole/genh3.py) ===== -/
set_option maxRecDepth 20000 in
theorem zl_305 (E : Nat → MCQ) : (zm_305 E).1 = 86 := rfl
theorem zf_1 (E : Nat → MCQ) : (zm_305 E).1 = 86 := zl_305 E
set_option maxRecDepth 20000 in
theorem zh_305_0 (E : Nat → MCQ) : (zm_305 E).2.2 0 = .inr (8, [.ref 1, .ref 14, .ref 27, .null, .ref 28, .ref 30, .ref 32, .int 0, .ref 33, .ref 38, .ref 40, .ref 45, .ref 51, .int 0, .int 0, .int (-1), .int (-1), .int 0, .int 0, .ref 57]) := rfl
theorem zc_0 (E : Nat → MCQ) : (zm_305 E).2.2 0 = .inr (8, [.ref 1, .ref 14, .ref 27, .null, .ref 28, .ref 30, .ref 32, .int 0, .ref 33, .ref 38, .ref 40, .ref 45, .ref 51, .int 0, .int 0, .int (-1), .int (-1), .int 0, .int 0, .ref 57]) := zh_305_0 E
set_option maxRecDepth 20000 in
theorem zh_305_1 (E : Nat → MCQ) : (zm_305 E).2.2 1 = .inr (1, [.int 0, .ref 2, .int 0, .ref 3, .ref 4, .ref 5, .ref 6, .ref 7, .ref 8, .ref 9, .int 0, .ref 10, .ref 11, .ref 12, .int 0, .ref 13, .int (-1)]) := rfl
theorem zc_1 (E : Nat → MCQ) : (zm_305 E).2.2 1 = .inr (1, [.int 0, .ref 2, .int 0, .ref 3, .ref 4, .ref 5, .ref 6, .ref 7, .ref 8, .ref 9, .int 0, .ref 10, .ref 11, .ref 12, .int 0, .ref 13, .int (-1)]) := zh_305_1 E
set_option maxRecDepth 20000 in
theorem zh_305_2 (E : Nat → MCQ) : (zm_305 E).2.2 2 = ARt 0 6 := rfl
theorem zc_2 (E : Nat → MCQ) : (zm_305 E).2.2 2 = ARt 0 6 := zh_305_2 E
set_option maxRecDepth 20000 in
theorem zh_305_3 (E : Nat → MCQ) : (zm_305 E).2.2 3 = ARt 0 10 := rfl
theorem zc_3 (E : Nat → MCQ) : (zm_305 E).2.2 3 = ARt 0 10 := zh_305_3 E
set_option maxRecDepth 20000 in
theorem zh_305_4 (E : Nat → MCQ) : (zm_305 E).2.2 4 = ARt 0 10 := rfl
theorem zc_4 (E : Nat → MCQ) : (zm_305 E).2.2 4 = ARt 0 10 := zh_305_4 E
set_option maxRecDepth 20000 in
theorem zh_305_5 (E : Nat → MCQ) : (zm_305 E).2.2 5 = ARt 0 10 := rfl
theorem zc_5 (E : Nat → MCQ) : (zm_305 E).2.2 5 = ARt 0 10 := zh_305_5 E
set_option maxRecDepth 20000 in
theorem zh_305_6 (E : Nat → MCQ) : (zm_305 E).2.2 6 = ARt 0 10 := rfl
theorem zc_6 (E : Nat → MCQ) : (zm_305 E).2.2 6 = ARt 0 10 := zh_305_6 E
set_option maxRecDepth 20000 in
theorem zh_305_7 (E : Nat → MCQ) : (zm_305 E).2.2 7 = ARt 0 10 := rfl
theorem zc_7 (E : Nat → MCQ) : (zm_305 E).2.2 7 = ARt 0 10 := zh_305_7 E
set_option maxRecDepth 20000 in
theorem zh_305_8 (E : Nat → MCQ) : (zm_305 E).2.2 8 = ARt 0 10 := rfl
theorem zc_8 (E : Nat → MCQ) : (zm_305 E).2.2 8 = ARt 0 10 := zh_305_8 E
set_option maxRecDepth 20000 in
theorem zh_305_9 (E : Nat → MCQ) : (zm_305 E).2.2 9 = ARt 0 10 := rfl
theorem zc_9 (E : Nat → MCQ) : (zm_305 E).2.2 9 = ARt 0 10 := zh_305_9 E
set_option maxRecDepth 20000 in
theorem zh_305_10 (E : Nat → MCQ) : (zm_305 E).2.2 10 = ARt 0 10 := rfl
theorem zc_10 (E : Nat → MCQ) : (zm_305 E).2.2 10 = ARt 0 10 := zh_305_10 E
set_option maxRecDepth 20000 in
theorem zh_305_11 (E : Nat → MCQ) : (zm_305 E).2.2 11 = ARt 0 10 := rfl
theorem zc_11 (E : Nat → MCQ) : (zm_305 E).2.2 11 = ARt 0 10 := zh_305_11 E
set_option maxRecDepth 20000 in
theorem zh_305_12 (E : Nat → MCQ) : (zm_305 E).2.2 12 = .inl (0, 3, .inl zw_1) := rfl
theorem zc_12 (E : Nat → MCQ) : (zm_305 E).2.2 12 = .inl (0, 3, .inl zw_1) := zh_305_12 E
set_option maxRecDepth 20000 in
theorem zh_305_13 (E : Nat → MCQ) : (zm_305 E).2.2 13 = ARt 4 6 := rfl
theorem zc_13 (E : Nat → MCQ) : (zm_305 E).2.2 13 = ARt 4 6 := zh_305_13 E
set_option maxRecDepth 20000 in
theorem zh_305_14 (E : Nat → MCQ) : (zm_305 E).2.2 14 = .inr (1, [.int 0, .ref 15, .int 0, .ref 16, .ref 17, .ref 18, .ref 19, .ref 20, .ref 21, .ref 22, .int 0, .ref 23, .ref 24, .ref 25, .int 0, .ref 26, .int (-1)]) := rfl
theorem zc_14 (E : Nat → MCQ) : (zm_305 E).2.2 14 = .inr (1, [.int 0, .ref 15, .int 0, .ref 16, .ref 17, .ref 18, .ref 19, .ref 20, .ref 21, .ref 22, .int 0, .ref 23, .ref 24, .ref 25, .int 0, .ref 26, .int (-1)]) := zh_305_14 E
set_option maxRecDepth 20000 in
theorem zh_305_15 (E : Nat → MCQ) : (zm_305 E).2.2 15 = ARt 0 6 := rfl
theorem zc_15 (E : Nat → MCQ) : (zm_305 E).2.2 15 = ARt 0 6 := zh_305_15 E
set_option maxRecDepth 20000 in
theorem zh_305_16 (E : Nat → MCQ) : (zm_305 E).2.2 16 = ARt 0 10 := rfl
theorem zc_16 (E : Nat → MCQ) : (zm_305 E).2.2 16 = ARt 0 10 := zh_305_16 E
set_option maxRecDepth 20000 in
theorem zh_305_17 (E : Nat → MCQ) : (zm_305 E).2.2 17 = ARt 0 10 := rfl
theorem zc_17 (E : Nat → MCQ) : (zm_305 E).2.2 17 = ARt 0 10 := zh_305_17 E
set_option maxRecDepth 20000 in
theorem zh_305_18 (E : Nat → MCQ) : (zm_305 E).2.2 18 = ARt 0 10 := rfl
theorem zc_18 (E : Nat → MCQ) : (zm_305 E).2.2 18 = ARt 0 10 := zh_305_18 E
set_option maxRecDepth 20000 in
theorem zh_305_19 (E : Nat → MCQ) : (zm_305 E).2.2 19 = ARt 0 10 := rfl
theorem zc_19 (E : Nat → MCQ) : (zm_305 E).2.2 19 = ARt 0 10 := zh_305_19 E
set_option maxRecDepth 20000 in
theorem zh_305_20 (E : Nat → MCQ) : (zm_305 E).2.2 20 = ARt 0 10 := rfl
theorem zc_20 (E : Nat → MCQ) : (zm_305 E).2.2 20 = ARt 0 10 := zh_305_20 E
set_option maxRecDepth 20000 in
theorem zh_305_21 (E : Nat → MCQ) : (zm_305 E).2.2 21 = ARt 0 10 := rfl
theorem zc_21 (E : Nat → MCQ) : (zm_305 E).2.2 21 = ARt 0 10 := zh_305_21 E
set_option maxRecDepth 20000 in
theorem zh_305_22 (E : Nat → MCQ) : (zm_305 E).2.2 22 = ARt 0 10 := rfl
theorem zc_22 (E : Nat → MCQ) : (zm_305 E).2.2 22 = ARt 0 10 := zh_305_22 E
set_option maxRecDepth 20000 in
theorem zh_305_23 (E : Nat → MCQ) : (zm_305 E).2.2 23 = ARt 0 10 := rfl
theorem zc_23 (E : Nat → MCQ) : (zm_305 E).2.2 23 = ARt 0 10 := zh_305_23 E
set_option maxRecDepth 20000 in
theorem zh_305_24 (E : Nat → MCQ) : (zm_305 E).2.2 24 = ARt 0 10 := rfl
theorem zc_24 (E : Nat → MCQ) : (zm_305 E).2.2 24 = ARt 0 10 := zh_305_24 E
set_option maxRecDepth 20000 in
theorem zh_305_25 (E : Nat → MCQ) : (zm_305 E).2.2 25 = .inl (0, 3, .inl zw_2) := rfl
theorem zc_25 (E : Nat → MCQ) : (zm_305 E).2.2 25 = .inl (0, 3, .inl zw_2) := zh_305_25 E
set_option maxRecDepth 20000 in
theorem zh_305_26 (E : Nat → MCQ) : (zm_305 E).2.2 26 = ARt 4 6 := rfl
theorem zc_26 (E : Nat → MCQ) : (zm_305 E).2.2 26 = ARt 4 6 := zh_305_26 E
set_option maxRecDepth 20000 in
theorem zh_305_27 (E : Nat → MCQ) : (zm_305 E).2.2 27 = ARt 5 2 := rfl
theorem zc_27 (E : Nat → MCQ) : (zm_305 E).2.2 27 = ARt 5 2 := zh_305_27 E
set_option maxRecDepth 20000 in
theorem zh_305_28 (E : Nat → MCQ) : (zm_305 E).2.2 28 = .inr (3, [.ref 29, .int 0, .int 0]) := rfl
theorem zc_28 (E : Nat → MCQ) : (zm_305 E).2.2 28 = .inr (3, [.ref 29, .int 0, .int 0]) := zh_305_28 E
set_option maxRecDepth 20000 in
theorem zh_305_29 (E : Nat → MCQ) : (zm_305 E).2.2 29 = ARt 0 119 := rfl
theorem zc_29 (E : Nat → MCQ) : (zm_305 E).2.2 29 = ARt 0 119 := zh_305_29 E
set_option maxRecDepth 20000 in
theorem zh_305_30 (E : Nat → MCQ) : (zm_305 E).2.2 30 = .inr (3, [.ref 31, .int 0, .int 0]) := rfl
theorem zc_30 (E : Nat → MCQ) : (zm_305 E).2.2 30 = .inr (3, [.ref 31, .int 0, .int 0]) := zh_305_30 E
set_option maxRecDepth 20000 in
theorem zh_305_31 (E : Nat → MCQ) : (zm_305 E).2.2 31 = ARt 0 119 := rfl
theorem zc_31 (E : Nat → MCQ) : (zm_305 E).2.2 31 = ARt 0 119 := zh_305_31 E
set_option maxRecDepth 20000 in
theorem zh_305_32 (E : Nat → MCQ) : (zm_305 E).2.2 32 = ARt 0 400 := rfl
theorem zc_32 (E : Nat → MCQ) : (zm_305 E).2.2 32 = ARt 0 400 := zh_305_32 E
set_option maxRecDepth 20000 in
theorem zh_305_33 (E : Nat → MCQ) : (zm_305 E).2.2 33 = .inr (6, [.ref 34, .ref 37, .int 0, .int 0, .int 0, .int 0, .int 0, .int 0, .int 0, .int 0]) := rfl
theorem zc_33 (E : Nat → MCQ) : (zm_305 E).2.2 33 = .inr (6, [.ref 34, .ref 37, .int 0, .int 0, .int 0, .int 0, .int 0, .int 0, .int 0, .int 0]) := zh_305_33 E
set_option maxRecDepth 20000 in
theorem zh_305_34 (E : Nat → MCQ) : (zm_305 E).2.2 34 = .inr (5, [.int 0, .int 0, .ref 35, .ref 36]) := rfl
theorem zc_34 (E : Nat → MCQ) : (zm_305 E).2.2 34 = .inr (5, [.int 0, .int 0, .ref 35, .ref 36]) := zh_305_34 E
set_option maxRecDepth 20000 in
theorem zh_305_35 (E : Nat → MCQ) : (zm_305 E).2.2 35 = ARt 0 72 := rfl
theorem zc_35 (E : Nat → MCQ) : (zm_305 E).2.2 35 = ARt 0 72 := zh_305_35 E
set_option maxRecDepth 20000 in
theorem zh_305_36 (E : Nat → MCQ) : (zm_305 E).2.2 36 = ARt 0 400 := rfl
theorem zc_36 (E : Nat → MCQ) : (zm_305 E).2.2 36 = ARt 0 400 := zh_305_36 E
set_option maxRecDepth 20000 in
theorem zh_305_37 (E : Nat → MCQ) : (zm_305 E).2.2 37 = ARt 0 0 := rfl
theorem zc_37 (E : Nat → MCQ) : (zm_305 E).2.2 37 = ARt 0 0 := zh_305_37 E
set_option maxRecDepth 20000 in
theorem zh_305_38 (E : Nat → MCQ) : (zm_305 E).2.2 38 = .inr (7, [.ref 39, .null, .int 0, .int (-1), .int 0, .int (-1)]) := rfl
theorem zc_38 (E : Nat → MCQ) : (zm_305 E).2.2 38 = .inr (7, [.ref 39, .null, .int 0, .int (-1), .int 0, .int (-1)]) := zh_305_38 E
set_option maxRecDepth 20000 in
theorem zh_305_39 (E : Nat → MCQ) : (zm_305 E).2.2 39 = ARt 0 64 := rfl
theorem zc_39 (E : Nat → MCQ) : (zm_305 E).2.2 39 = ARt 0 64 := zh_305_39 E
set_option maxRecDepth 20000 in
theorem zh_305_40 (E : Nat → MCQ) : (zm_305 E).2.2 40 = .inr (4, [.ref 41, .ref 42, .ref 43, .ref 44, .int 0]) := rfl
theorem zc_40 (E : Nat → MCQ) : (zm_305 E).2.2 40 = .inr (4, [.ref 41, .ref 42, .ref 43, .ref 44, .int 0]) := zh_305_40 E
set_option maxRecDepth 20000 in
theorem zh_305_41 (E : Nat → MCQ) : (zm_305 E).2.2 41 = ARt 0 10 := rfl
theorem zc_41 (E : Nat → MCQ) : (zm_305 E).2.2 41 = ARt 0 10 := zh_305_41 E
set_option maxRecDepth 20000 in
theorem zh_305_42 (E : Nat → MCQ) : (zm_305 E).2.2 42 = ARt 0 10 := rfl
theorem zc_42 (E : Nat → MCQ) : (zm_305 E).2.2 42 = ARt 0 10 := zh_305_42 E
set_option maxRecDepth 20000 in
theorem zh_305_43 (E : Nat → MCQ) : (zm_305 E).2.2 43 = ARt 0 10 := rfl
theorem zc_43 (E : Nat → MCQ) : (zm_305 E).2.2 43 = ARt 0 10 := zh_305_43 E
set_option maxRecDepth 20000 in
theorem zh_305_44 (E : Nat → MCQ) : (zm_305 E).2.2 44 = ARt 0 45 := rfl
theorem zc_44 (E : Nat → MCQ) : (zm_305 E).2.2 44 = ARt 0 45 := zh_305_44 E
set_option maxRecDepth 20000 in
theorem zh_305_45 (E : Nat → MCQ) : (zm_305 E).2.2 45 = .inr (2, [.ref 46, .ref 47, .ref 48, .ref 49, .ref 50, .int 0]) := rfl
theorem zc_45 (E : Nat → MCQ) : (zm_305 E).2.2 45 = .inr (2, [.ref 46, .ref 47, .ref 48, .ref 49, .ref 50, .int 0]) := zh_305_45 E
set_option maxRecDepth 20000 in
theorem zh_305_46 (E : Nat → MCQ) : (zm_305 E).2.2 46 = ARt 0 6 := rfl
theorem zc_46 (E : Nat → MCQ) : (zm_305 E).2.2 46 = ARt 0 6 := zh_305_46 E
set_option maxRecDepth 20000 in
theorem zh_305_47 (E : Nat → MCQ) : (zm_305 E).2.2 47 = ARt 0 6 := rfl
theorem zc_47 (E : Nat → MCQ) : (zm_305 E).2.2 47 = ARt 0 6 := zh_305_47 E
set_option maxRecDepth 20000 in
theorem zh_305_48 (E : Nat → MCQ) : (zm_305 E).2.2 48 = ARt 0 6 := rfl
theorem zc_48 (E : Nat → MCQ) : (zm_305 E).2.2 48 = ARt 0 6 := zh_305_48 E
set_option maxRecDepth 20000 in
theorem zh_305_49 (E : Nat → MCQ) : (zm_305 E).2.2 49 = ARt 0 6 := rfl
theorem zc_49 (E : Nat → MCQ) : (zm_305 E).2.2 49 = ARt 0 6 := zh_305_49 E
set_option maxRecDepth 20000 in
theorem zh_305_50 (E : Nat → MCQ) : (zm_305 E).2.2 50 = ARt 0 6 := rfl
theorem zc_50 (E : Nat → MCQ) : (zm_305 E).2.2 50 = ARt 0 6 := zh_305_50 E
set_option maxRecDepth 20000 in
theorem zh_305_51 (E : Nat → MCQ) : (zm_305 E).2.2 51 = .inr (0, [.ref 52, .ref 53, .ref 54, .ref 55, .ref 56, .int 0, .int 0]) := rfl
theorem zc_51 (E : Nat → MCQ) : (zm_305 E).2.2 51 = .inr (0, [.ref 52, .ref 53, .ref 54, .ref 55, .ref 56, .int 0, .int 0]) := zh_305_51 E
set_option maxRecDepth 20000 in
theorem zh_305_52 (E : Nat → MCQ) : (zm_305 E).2.2 52 = ARt 0 7 := rfl
theorem zc_52 (E : Nat → MCQ) : (zm_305 E).2.2 52 = ARt 0 7 := zh_305_52 E
set_option maxRecDepth 20000 in
theorem zh_305_53 (E : Nat → MCQ) : (zm_305 E).2.2 53 = ARt 0 7 := rfl
theorem zc_53 (E : Nat → MCQ) : (zm_305 E).2.2 53 = ARt 0 7 := zh_305_53 E
set_option maxRecDepth 20000 in
theorem zh_305_54 (E : Nat → MCQ) : (zm_305 E).2.2 54 = ARt 0 7 := rfl
theorem zc_54 (E : Nat → MCQ) : (zm_305 E).2.2 54 = ARt 0 7 := zh_305_54 E
set_option maxRecDepth 20000 in
theorem zh_305_55 (E : Nat → MCQ) : (zm_305 E).2.2 55 = ARt 0 10 := rfl
theorem zc_55 (E : Nat → MCQ) : (zm_305 E).2.2 55 = ARt 0 10 := zh_305_55 E
set_option maxRecDepth 20000 in
theorem zh_305_56 (E : Nat → MCQ) : (zm_305 E).2.2 56 = ARt 0 10 := rfl
theorem zc_56 (E : Nat → MCQ) : (zm_305 E).2.2 56 = ARt 0 10 := zh_305_56 E
set_option maxRecDepth 20000 in
theorem zh_305_57 (E : Nat → MCQ) : (zm_305 E).2.2 57 = ARt 0 5 := rfl
theorem zc_57 (E : Nat → MCQ) : (zm_305 E).2.2 57 = ARt 0 5 := zh_305_57 E
theorem zh_305_58 (E : Nat → MCQ) : (zm_305 E).2.2 58 = .inr (9, [.int 0, .ref 59, .ref 60, .ref 61, .ref 62, .ref 63, .int 0, .ref 64, .int 0, .int 0, .int 0, .ref 65, .ref 66, .int 0, .int (-1), .ref 67, .ref 68, .ref 69, .int 0, .int 0, .int 0, .int 0, .int 0, .int 0, .int 0, .int 0, .ref 70, .int 0, .int 0, .ref 71, .ref 72, .int 0, .ref 73, .ref 74, .ref 75, .ref 76, .ref 77, .ref 78, .int 0, .ref 79, .ref 80, .ref 81, .int 0, .int (-1), .int 0, .int 0, .int 0, .int 0, .int 0, .ref 82, .ref 83, .ref 84, .ref 85, .int (-1), .int 0, .int 0]) := rfl
theorem zc_58 (E : Nat → MCQ) : (zm_305 E).2.2 58 = .inr (9, [.int 0, .ref 59, .ref 60, .ref 61, .ref 62, .ref 63, .int 0, .ref 64, .int 0, .int 0, .int 0, .ref 65, .ref 66, .int 0, .int (-1), .ref 67, .ref 68, .ref 69, .int 0, .int 0, .int 0, .int 0, .int 0, .int 0, .int 0, .int 0, .ref 70, .int 0, .int 0, .ref 71, .ref 72, .int 0, .ref 73, .ref 74, .ref 75, .ref 76, .ref 77, .ref 78, .int 0, .ref 79, .ref 80, .ref 81, .int 0, .int (-1), .int 0, .int 0, .int 0, .int 0, .int 0, .ref 82, .ref 83, .ref 84, .ref 85, .int (-1), .int 0, .int 0]) := zh_305_58 E
set_option maxRecDepth 20000 in
theorem zh_305_59 (E : Nat → MCQ) : (zm_305 E).2.2 59 = ARt 0 7 := rfl
theorem zc_59 (E : Nat → MCQ) : (zm_305 E).2.2 59 = ARt 0 7 := zh_305_59 E
theorem zh_305_60 (E : Nat → MCQ) : (zm_305 E).2.2 60 = .inl (0, 5711, .inl zw_126) := rfl
theorem zc_60 (E : Nat → MCQ) : (zm_305 E).2.2 60 = .inl (0, 5711, .inl zw_126) := zh_305_60 E
set_option maxRecDepth 20000 in
theorem zh_305_61 (E : Nat → MCQ) : (zm_305 E).2.2 61 = ARt 0 11422 := rfl
theorem zc_61 (E : Nat → MCQ) : (zm_305 E).2.2 61 = ARt 0 11422 := zh_305_61 E
set_option maxRecDepth 20000 in
theorem zh_305_62 (E : Nat → MCQ) : (zm_305 E).2.2 62 = ARt 2 2 := rfl
theorem zc_62 (E : Nat → MCQ) : (zm_305 E).2.2 62 = ARt 2 2 := zh_305_62 E
set_option maxRecDepth 20000 in
theorem zh_305_63 (E : Nat → MCQ) : (zm_305 E).2.2 63 = ARt 0 333 := rfl
theorem zc_63 (E : Nat → MCQ) : (zm_305 E).2.2 63 = ARt 0 333 := zh_305_63 E
theorem zh_305_64 (E : Nat → MCQ) : (zm_305 E).2.2 64 = .inl (1, 122, .inl zw_124) := rfl
theorem zc_64 (E : Nat → MCQ) : (zm_305 E).2.2 64 = .inl (1, 122, .inl zw_124) := zh_305_64 E
theorem zh_305_65 (E : Nat → MCQ) : (zm_305 E).2.2 65 = ARt 1 400 := rfl
theorem zc_65 (E : Nat → MCQ) : (zm_305 E).2.2 65 = ARt 1 400 := zh_305_65 E
theorem zh_305_66 (E : Nat → MCQ) : (zm_305 E).2.2 66 = ARt 0 5 := rfl
theorem zc_66 (E : Nat → MCQ) : (zm_305 E).2.2 66 = ARt 0 5 := zh_305_66 E
theorem zh_305_67 (E : Nat → MCQ) : (zm_305 E).2.2 67 = ARt 0 401 := rfl
theorem zc_67 (E : Nat → MCQ) : (zm_305 E).2.2 67 = ARt 0 401 := zh_305_67 E
theorem zh_305_68 (E : Nat → MCQ) : (zm_305 E).2.2 68 = ARt 0 401 := rfl
theorem zc_68 (E : Nat → MCQ) : (zm_305 E).2.2 68 = ARt 0 401 := zh_305_68 E
theorem zh_305_69 (E : Nat → MCQ) : (zm_305 E).2.2 69 = ARt 0 401 := rfl
theorem zc_69 (E : Nat → MCQ) : (zm_305 E).2.2 69 = ARt 0 401 := zh_305_69 E
theorem zh_305_70 (E : Nat → MCQ) : (zm_305 E).2.2 70 = ARt 0 9 := rfl
theorem zc_70 (E : Nat → MCQ) : (zm_305 E).2.2 70 = ARt 0 9 := zh_305_70 E
theorem zh_305_71 (E : Nat → MCQ) : (zm_305 E).2.2 71 = ARt 0 608 := rfl
theorem zc_71 (E : Nat → MCQ) : (zm_305 E).2.2 71 = ARt 0 608 := zh_305_71 E
theorem zh_305_72 (E : Nat → MCQ) : (zm_305 E).2.2 72 = ARt 0 608 := rfl
theorem zc_72 (E : Nat → MCQ) : (zm_305 E).2.2 72 = ARt 0 608 := zh_305_72 E
theorem zh_305_73 (E : Nat → MCQ) : (zm_305 E).2.2 73 = ARt 2 100 := rfl
theorem zc_73 (E : Nat → MCQ) : (zm_305 E).2.2 73 = ARt 2 100 := zh_305_73 E
theorem zh_305_74 (E : Nat → MCQ) : (zm_305 E).2.2 74 = ARt 1 11264 := rfl
theorem zc_74 (E : Nat → MCQ) : (zm_305 E).2.2 74 = ARt 1 11264 := zh_305_74 E
theorem zh_305_75 (E : Nat → MCQ) : (zm_305 E).2.2 75 = ARt 0 6 := rfl
theorem zc_75 (E : Nat → MCQ) : (zm_305 E).2.2 75 = ARt 0 6 := zh_305_75 E
theorem zh_305_76 (E : Nat → MCQ) : (zm_305 E).2.2 76 = ARt 0 6 := rfl
theorem zc_76 (E : Nat → MCQ) : (zm_305 E).2.2 76 = ARt 0 6 := zh_305_76 E
theorem zh_305_77 (E : Nat → MCQ) : (zm_305 E).2.2 77 = ARt 0 6 := rfl
theorem zc_77 (E : Nat → MCQ) : (zm_305 E).2.2 77 = ARt 0 6 := zh_305_77 E
theorem zh_305_78 (E : Nat → MCQ) : (zm_305 E).2.2 78 = ARt 0 6 := rfl
theorem zc_78 (E : Nat → MCQ) : (zm_305 E).2.2 78 = ARt 0 6 := zh_305_78 E
theorem zh_305_79 (E : Nat → MCQ) : (zm_305 E).2.2 79 = ARt 0 6 := rfl
theorem zc_79 (E : Nat → MCQ) : (zm_305 E).2.2 79 = ARt 0 6 := zh_305_79 E
theorem zh_305_80 (E : Nat → MCQ) : (zm_305 E).2.2 80 = ARt 0 7 := rfl
theorem zc_80 (E : Nat → MCQ) : (zm_305 E).2.2 80 = ARt 0 7 := zh_305_80 E
theorem zh_305_81 (E : Nat → MCQ) : (zm_305 E).2.2 81 = ARt 0 7 := rfl
theorem zc_81 (E : Nat → MCQ) : (zm_305 E).2.2 81 = ARt 0 7 := zh_305_81 E
theorem zh_305_82 (E : Nat → MCQ) : (zm_305 E).2.2 82 = ARt 3 2 := rfl
theorem zc_82 (E : Nat → MCQ) : (zm_305 E).2.2 82 = ARt 3 2 := zh_305_82 E
theorem zh_305_83 (E : Nat → MCQ) : (zm_305 E).2.2 83 = ARt 0 6 := rfl
theorem zc_83 (E : Nat → MCQ) : (zm_305 E).2.2 83 = ARt 0 6 := zh_305_83 E
theorem zh_305_84 (E : Nat → MCQ) : (zm_305 E).2.2 84 = ARt 0 10 := rfl
theorem zc_84 (E : Nat → MCQ) : (zm_305 E).2.2 84 = ARt 0 10 := zh_305_84 E
theorem zh_305_85 (E : Nat → MCQ) : (zm_305 E).2.2 85 = ARt 0 10 := rfl
theorem zc_85 (E : Nat → MCQ) : (zm_305 E).2.2 85 = ARt 0 10 := zh_305_85 E
set_option maxRecDepth 20000 in
theorem zf_2 (E : Nat → MCQ) : (zm_305 E).2.1 = 33557 := rfl
theorem st_ne {σ : Mem} {a b : Nat} {c : MCQ} (h : a ≠ b) : (setC σ b c).2.2 a = σ.2.2 a := if_neg h
theorem ad_ne {σ : Mem} {a m k : Nat} {c : MCQ} (hm : σ.1 = m) (h : a ≠ m) : (addC σ k c).2.2 a = σ.2.2 a := if_neg (by rw [hm]; exact h)
theorem zo_0 (E : Nat → MCQ) {a : Nat} (h : 86 ≤ a) : (zm_0 E).2.2 a = E a := rfl
theorem zo_1 (E : Nat → MCQ) {a : Nat} (h : 86 ≤ a) : (zm_1 E).2.2 a = E a := (ad_ne (zl_0 E) (by omega)).trans (zo_0 E h)
theorem zo_2 (E : Nat → MCQ) {a : Nat} (h : 86 ≤ a) : (zm_2 E).2.2 a = E a := (ad_ne (zl_1 E) (by omega)).trans (zo_1 E h)
theorem zo_3 (E : Nat → MCQ) {a : Nat} (h : 86 ≤ a) : (zm_3 E).2.2 a = E a := (ad_ne (zl_2 E) (by omega)).trans (zo_2 E h)
theorem zo_4 (E : Nat → MCQ) {a : Nat} (h : 86 ≤ a) : (zm_4 E).2.2 a = E a := (st_ne (by omega)).trans (zo_3 E h)
theorem zo_5 (E : Nat → MCQ) {a : Nat} (h : 86 ≤ a) : (zm_5 E).2.2 a = E a := (ad_ne (zl_4 E) (by omega)).trans (zo_4 E h)
theorem zo_6 (E : Nat → MCQ) {a : Nat} (h : 86 ≤ a) : (zm_6 E).2.2 a = E a := (st_ne (by omega)).trans (zo_5 E h)
theorem zo_7 (E : Nat → MCQ) {a : Nat} (h : 86 ≤ a) : (zm_7 E).2.2 a = E a := (ad_ne (zl_6 E) (by omega)).trans (zo_6 E h)
theorem zo_8 (E : Nat → MCQ) {a : Nat} (h : 86 ≤ a) : (zm_8 E).2.2 a = E a := (st_ne (by omega)).trans (zo_7 E h)
theorem zo_9 (E : Nat → MCQ) {a : Nat} (h : 86 ≤ a) : (zm_9 E).2.2 a = E a := (ad_ne (zl_8 E) (by omega)).trans (zo_8 E h)
theorem zo_10 (E : Nat → MCQ) {a : Nat} (h : 86 ≤ a) : (zm_10 E).2.2 a = E a := (st_ne (by omega)).trans (zo_9 E h)
theorem zo_11 (E : Nat → MCQ) {a : Nat} (h : 86 ≤ a) : (zm_11 E).2.2 a = E a := (ad_ne (zl_10 E) (by omega)).trans (zo_10 E h)
theorem zo_12 (E : Nat → MCQ) {a : Nat} (h : 86 ≤ a) : (zm_12 E).2.2 a = E a := (st_ne (by omega)).trans (zo_11 E h)
theorem zo_13 (E : Nat → MCQ) {a : Nat} (h : 86 ≤ a) : (zm_13 E).2.2 a = E a := (ad_ne (zl_12 E) (by omega)).trans (zo_12 E h)
theorem zo_14 (E : Nat → MCQ) {a : Nat} (h : 86 ≤ a) : (zm_14 E).2.2 a = E a := (st_ne (by omega)).trans (zo_13 E h)
theorem zo_15 (E : Nat → MCQ) {a : Nat} (h : 86 ≤ a) : (zm_15 E).2.2 a = E a := (ad_ne (zl_14 E) (by omega)).trans (zo_14 E h)
theorem zo_16 (E : Nat → MCQ) {a : Nat} (h : 86 ≤ a) : (zm_16 E).2.2 a = E a := (st_ne (by omega)).trans (zo_15 E h)
theorem zo_17 (E : Nat → MCQ) {a : Nat} (h : 86 ≤ a) : (zm_17 E).2.2 a = E a := (ad_ne (zl_16 E) (by omega)).trans (zo_16 E h)
theorem zo_18 (E : Nat → MCQ) {a : Nat} (h : 86 ≤ a) : (zm_18 E).2.2 a = E a := (st_ne (by omega)).trans (zo_17 E h)
theorem zo_19 (E : Nat → MCQ) {a : Nat} (h : 86 ≤ a) : (zm_19 E).2.2 a = E a := (ad_ne (zl_18 E) (by omega)).trans (zo_18 E h)
theorem zo_20 (E : Nat → MCQ) {a : Nat} (h : 86 ≤ a) : (zm_20 E).2.2 a = E a := (st_ne (by omega)).trans (zo_19 E h)
theorem zo_21 (E : Nat → MCQ) {a : Nat} (h : 86 ≤ a) : (zm_21 E).2.2 a = E a := (ad_ne (zl_20 E) (by omega)).trans (zo_20 E h)
theorem zo_22 (E : Nat → MCQ) {a : Nat} (h : 86 ≤ a) : (zm_22 E).2.2 a = E a := (st_ne (by omega)).trans (zo_21 E h)
theorem zo_23 (E : Nat → MCQ) {a : Nat} (h : 86 ≤ a) : (zm_23 E).2.2 a = E a := (ad_ne (zl_22 E) (by omega)).trans (zo_22 E h)
theorem zo_24 (E : Nat → MCQ) {a : Nat} (h : 86 ≤ a) : (zm_24 E).2.2 a = E a := (st_ne (by omega)).trans (zo_23 E h)
theorem zo_25 (E : Nat → MCQ) {a : Nat} (h : 86 ≤ a) : (zm_25 E).2.2 a = E a := (ad_ne (zl_24 E) (by omega)).trans (zo_24 E h)
theorem zo_26 (E : Nat → MCQ) {a : Nat} (h : 86 ≤ a) : (zm_26 E).2.2 a = E a := (st_ne (by omega)).trans (zo_25 E h)
theorem zo_27 (E : Nat → MCQ) {a : Nat} (h : 86 ≤ a) : (zm_27 E).2.2 a = E a := (st_ne (by omega)).trans (zo_26 E h)
theorem zo_28 (E : Nat → MCQ) {a : Nat} (h : 86 ≤ a) : (zm_28 E).2.2 a = E a := (st_ne (by omega)).trans (zo_27 E h)
theorem zo_29 (E : Nat → MCQ) {a : Nat} (h : 86 ≤ a) : (zm_29 E).2.2 a = E a := (st_ne (by omega)).trans (zo_28 E h)
theorem zo_30 (E : Nat → MCQ) {a : Nat} (h : 86 ≤ a) : (zm_30 E).2.2 a = E a := (ad_ne (zl_29 E) (by omega)).trans (zo_29 E h)
theorem zo_31 (E : Nat → MCQ) {a : Nat} (h : 86 ≤ a) : (zm_31 E).2.2 a = E a := (ad_ne (zl_30 E) (by omega)).trans (zo_30 E h)
theorem zo_32 (E : Nat → MCQ) {a : Nat} (h : 86 ≤ a) : (zm_32 E).2.2 a = E a := (st_ne (by omega)).trans (zo_31 E h)
theorem zo_33 (E : Nat → MCQ) {a : Nat} (h : 86 ≤ a) : (zm_33 E).2.2 a = E a := (ad_ne (zl_32 E) (by omega)).trans (zo_32 E h)
theorem zo_34 (E : Nat → MCQ) {a : Nat} (h : 86 ≤ a) : (zm_34 E).2.2 a = E a := (st_ne (by omega)).trans (zo_33 E h)
theorem zo_35 (E : Nat → MCQ) {a : Nat} (h : 86 ≤ a) : (zm_35 E).2.2 a = E a := (ad_ne (zl_34 E) (by omega)).trans (zo_34 E h)
theorem zo_36 (E : Nat → MCQ) {a : Nat} (h : 86 ≤ a) : (zm_36 E).2.2 a = E a := (st_ne (by omega)).trans (zo_35 E h)
theorem zo_37 (E : Nat → MCQ) {a : Nat} (h : 86 ≤ a) : (zm_37 E).2.2 a = E a := (ad_ne (zl_36 E) (by omega)).trans (zo_36 E h)
theorem zo_38 (E : Nat → MCQ) {a : Nat} (h : 86 ≤ a) : (zm_38 E).2.2 a = E a := (st_ne (by omega)).trans (zo_37 E h)
theorem zo_39 (E : Nat → MCQ) {a : Nat} (h : 86 ≤ a) : (zm_39 E).2.2 a = E a := (ad_ne (zl_38 E) (by omega)).trans (zo_38 E h)
theorem zo_40 (E : Nat → MCQ) {a : Nat} (h : 86 ≤ a) : (zm_40 E).2.2 a = E a := (st_ne (by omega)).trans (zo_39 E h)
theorem zo_41 (E : Nat → MCQ) {a : Nat} (h : 86 ≤ a) : (zm_41 E).2.2 a = E a := (ad_ne (zl_40 E) (by omega)).trans (zo_40 E h)
theorem zo_42 (E : Nat → MCQ) {a : Nat} (h : 86 ≤ a) : (zm_42 E).2.2 a = E a := (st_ne (by omega)).trans (zo_41 E h)
theorem zo_43 (E : Nat → MCQ) {a : Nat} (h : 86 ≤ a) : (zm_43 E).2.2 a = E a := (ad_ne (zl_42 E) (by omega)).trans (zo_42 E h)
theorem zo_44 (E : Nat → MCQ) {a : Nat} (h : 86 ≤ a) : (zm_44 E).2.2 a = E a := (st_ne (by omega)).trans (zo_43 E h)
theorem zo_45 (E : Nat → MCQ) {a : Nat} (h : 86 ≤ a) : (zm_45 E).2.2 a = E a := (ad_ne (zl_44 E) (by omega)).trans (zo_44 E h)
theorem zo_46 (E : Nat → MCQ) {a : Nat} (h : 86 ≤ a) : (zm_46 E).2.2 a = E a := (st_ne (by omega)).trans (zo_45 E h)
theorem zo_47 (E : Nat → MCQ) {a : Nat} (h : 86 ≤ a) : (zm_47 E).2.2 a = E a := (ad_ne (zl_46 E) (by omega)).trans (zo_46 E h)
theorem zo_48 (E : Nat → MCQ) {a : Nat} (h : 86 ≤ a) : (zm_48 E).2.2 a = E a := (st_ne (by omega)).trans (zo_47 E h)
theorem zo_49 (E : Nat → MCQ) {a : Nat} (h : 86 ≤ a) : (zm_49 E).2.2 a = E a := (ad_ne (zl_48 E) (by omega)).trans (zo_48 E h)
theorem zo_50 (E : Nat → MCQ) {a : Nat} (h : 86 ≤ a) : (zm_50 E).2.2 a = E a := (st_ne (by omega)).trans (zo_49 E h)
theorem zo_51 (E : Nat → MCQ) {a : Nat} (h : 86 ≤ a) : (zm_51 E).2.2 a = E a := (ad_ne (zl_50 E) (by omega)).trans (zo_50 E h)
theorem zo_52 (E : Nat → MCQ) {a : Nat} (h : 86 ≤ a) : (zm_52 E).2.2 a = E a := (st_ne (by omega)).trans (zo_51 E h)
theorem zo_53 (E : Nat → MCQ) {a : Nat} (h : 86 ≤ a) : (zm_53 E).2.2 a = E a := (ad_ne (zl_52 E) (by omega)).trans (zo_52 E h)
theorem zo_54 (E : Nat → MCQ) {a : Nat} (h : 86 ≤ a) : (zm_54 E).2.2 a = E a := (st_ne (by omega)).trans (zo_53 E h)
theorem zo_55 (E : Nat → MCQ) {a : Nat} (h : 86 ≤ a) : (zm_55 E).2.2 a = E a := (st_ne (by omega)).trans (zo_54 E h)
theorem zo_56 (E : Nat → MCQ) {a : Nat} (h : 86 ≤ a) : (zm_56 E).2.2 a = E a := (st_ne (by omega)).trans (zo_55 E h)
theorem zo_57 (E : Nat → MCQ) {a : Nat} (h : 86 ≤ a) : (zm_57 E).2.2 a = E a := (st_ne (by omega)).trans (zo_56 E h)
theorem zo_58 (E : Nat → MCQ) {a : Nat} (h : 86 ≤ a) : (zm_58 E).2.2 a = E a := (ad_ne (zl_57 E) (by omega)).trans (zo_57 E h)
theorem zo_59 (E : Nat → MCQ) {a : Nat} (h : 86 ≤ a) : (zm_59 E).2.2 a = E a := (st_ne (by omega)).trans (zo_58 E h)
theorem zo_60 (E : Nat → MCQ) {a : Nat} (h : 86 ≤ a) : (zm_60 E).2.2 a = E a := (ad_ne (zl_59 E) (by omega)).trans (zo_59 E h)
theorem zo_61 (E : Nat → MCQ) {a : Nat} (h : 86 ≤ a) : (zm_61 E).2.2 a = E a := (ad_ne (zl_60 E) (by omega)).trans (zo_60 E h)
theorem zo_62 (E : Nat → MCQ) {a : Nat} (h : 86 ≤ a) : (zm_62 E).2.2 a = E a := (st_ne (by omega)).trans (zo_61 E h)
theorem zo_63 (E : Nat → MCQ) {a : Nat} (h : 86 ≤ a) : (zm_63 E).2.2 a = E a := (st_ne (by omega)).trans (zo_62 E h)
theorem zo_64 (E : Nat → MCQ) {a : Nat} (h : 86 ≤ a) : (zm_64 E).2.2 a = E a := (ad_ne (zl_63 E) (by omega)).trans (zo_63 E h)
theorem zo_65 (E : Nat → MCQ) {a : Nat} (h : 86 ≤ a) : (zm_65 E).2.2 a = E a := (ad_ne (zl_64 E) (by omega)).trans (zo_64 E h)
theorem zo_66 (E : Nat → MCQ) {a : Nat} (h : 86 ≤ a) : (zm_66 E).2.2 a = E a := (st_ne (by omega)).trans (zo_65 E h)
theorem zo_67 (E : Nat → MCQ) {a : Nat} (h : 86 ≤ a) : (zm_67 E).2.2 a = E a := (st_ne (by omega)).trans (zo_66 E h)
theorem zo_68 (E : Nat → MCQ) {a : Nat} (h : 86 ≤ a) : (zm_68 E).2.2 a = E a := (ad_ne (zl_67 E) (by omega)).trans (zo_67 E h)
theorem zo_69 (E : Nat → MCQ) {a : Nat} (h : 86 ≤ a) : (zm_69 E).2.2 a = E a := (st_ne (by omega)).trans (zo_68 E h)
theorem zo_70 (E : Nat → MCQ) {a : Nat} (h : 86 ≤ a) : (zm_70 E).2.2 a = E a := (ad_ne (zl_69 E) (by omega)).trans (zo_69 E h)
theorem zo_71 (E : Nat → MCQ) {a : Nat} (h : 86 ≤ a) : (zm_71 E).2.2 a = E a := (ad_ne (zl_70 E) (by omega)).trans (zo_70 E h)
theorem zo_72 (E : Nat → MCQ) {a : Nat} (h : 86 ≤ a) : (zm_72 E).2.2 a = E a := (ad_ne (zl_71 E) (by omega)).trans (zo_71 E h)
theorem zo_73 (E : Nat → MCQ) {a : Nat} (h : 86 ≤ a) : (zm_73 E).2.2 a = E a := (st_ne (by omega)).trans (zo_72 E h)
theorem zo_74 (E : Nat → MCQ) {a : Nat} (h : 86 ≤ a) : (zm_74 E).2.2 a = E a := (ad_ne (zl_73 E) (by omega)).trans (zo_73 E h)
theorem zo_75 (E : Nat → MCQ) {a : Nat} (h : 86 ≤ a) : (zm_75 E).2.2 a = E a := (st_ne (by omega)).trans (zo_74 E h)
theorem zo_76 (E : Nat → MCQ) {a : Nat} (h : 86 ≤ a) : (zm_76 E).2.2 a = E a := (st_ne (by omega)).trans (zo_75 E h)
theorem zo_77 (E : Nat → MCQ) {a : Nat} (h : 86 ≤ a) : (zm_77 E).2.2 a = E a := (ad_ne (zl_76 E) (by omega)).trans (zo_76 E h)
theorem zo_78 (E : Nat → MCQ) {a : Nat} (h : 86 ≤ a) : (zm_78 E).2.2 a = E a := (st_ne (by omega)).trans (zo_77 E h)
theorem zo_79 (E : Nat → MCQ) {a : Nat} (h : 86 ≤ a) : (zm_79 E).2.2 a = E a := (st_ne (by omega)).trans (zo_78 E h)
theorem zo_80 (E : Nat → MCQ) {a : Nat} (h : 86 ≤ a) : (zm_80 E).2.2 a = E a := (ad_ne (zl_79 E) (by omega)).trans (zo_79 E h)
theorem zo_81 (E : Nat → MCQ) {a : Nat} (h : 86 ≤ a) : (zm_81 E).2.2 a = E a := (ad_ne (zl_80 E) (by omega)).trans (zo_80 E h)
theorem zo_82 (E : Nat → MCQ) {a : Nat} (h : 86 ≤ a) : (zm_82 E).2.2 a = E a := (st_ne (by omega)).trans (zo_81 E h)
theorem zo_83 (E : Nat → MCQ) {a : Nat} (h : 86 ≤ a) : (zm_83 E).2.2 a = E a := (st_ne (by omega)).trans (zo_82 E h)
theorem zo_84 (E : Nat → MCQ) {a : Nat} (h : 86 ≤ a) : (zm_84 E).2.2 a = E a := (st_ne (by omega)).trans (zo_83 E h)
theorem zo_85 (E : Nat → MCQ) {a : Nat} (h : 86 ≤ a) : (zm_85 E).2.2 a = E a := (st_ne (by omega)).trans (zo_84 E h)
theorem zo_86 (E : Nat → MCQ) {a : Nat} (h : 86 ≤ a) : (zm_86 E).2.2 a = E a := (ad_ne (zl_85 E) (by omega)).trans (zo_85 E h)
theorem zo_87 (E : Nat → MCQ) {a : Nat} (h : 86 ≤ a) : (zm_87 E).2.2 a = E a := (ad_ne (zl_86 E) (by omega)).trans (zo_86 E h)
theorem zo_88 (E : Nat → MCQ) {a : Nat} (h : 86 ≤ a) : (zm_88 E).2.2 a = E a := (st_ne (by omega)).trans (zo_87 E h)
theorem zo_89 (E : Nat → MCQ) {a : Nat} (h : 86 ≤ a) : (zm_89 E).2.2 a = E a := (ad_ne (zl_88 E) (by omega)).trans (zo_88 E h)
theorem zo_90 (E : Nat → MCQ) {a : Nat} (h : 86 ≤ a) : (zm_90 E).2.2 a = E a := (st_ne (by omega)).trans (zo_89 E h)
theorem zo_91 (E : Nat → MCQ) {a : Nat} (h : 86 ≤ a) : (zm_91 E).2.2 a = E a := (ad_ne (zl_90 E) (by omega)).trans (zo_90 E h)
theorem zo_92 (E : Nat → MCQ) {a : Nat} (h : 86 ≤ a) : (zm_92 E).2.2 a = E a := (st_ne (by omega)).trans (zo_91 E h)
theorem zo_93 (E : Nat → MCQ) {a : Nat} (h : 86 ≤ a) : (zm_93 E).2.2 a = E a := (ad_ne (zl_92 E) (by omega)).trans (zo_92 E h)
theorem zo_94 (E : Nat → MCQ) {a : Nat} (h : 86 ≤ a) : (zm_94 E).2.2 a = E a := (st_ne (by omega)).trans (zo_93 E h)
theorem zo_95 (E : Nat → MCQ) {a : Nat} (h : 86 ≤ a) : (zm_95 E).2.2 a = E a := (st_ne (by omega)).trans (zo_94 E h)
theorem zo_96 (E : Nat → MCQ) {a : Nat} (h : 86 ≤ a) : (zm_96 E).2.2 a = E a := (ad_ne (zl_95 E) (by omega)).trans (zo_95 E h)
theorem zo_97 (E : Nat → MCQ) {a : Nat} (h : 86 ≤ a) : (zm_97 E).2.2 a = E a := (ad_ne (zl_96 E) (by omega)).trans (zo_96 E h)
theorem zo_98 (E : Nat → MCQ) {a : Nat} (h : 86 ≤ a) : (zm_98 E).2.2 a = E a := (st_ne (by omega)).trans (zo_97 E h)
theorem zo_99 (E : Nat → MCQ) {a : Nat} (h : 86 ≤ a) : (zm_99 E).2.2 a = E a := (ad_ne (zl_98 E) (by omega)).trans (zo_98 E h)
theorem zo_100 (E : Nat → MCQ) {a : Nat} (h : 86 ≤ a) : (zm_100 E).2.2 a = E a := (st_ne (by omega)).trans (zo_99 E h)
theorem zo_101 (E : Nat → MCQ) {a : Nat} (h : 86 ≤ a) : (zm_101 E).2.2 a = E a := (ad_ne (zl_100 E) (by omega)).trans (zo_100 E h)
theorem zo_102 (E : Nat → MCQ) {a : Nat} (h : 86 ≤ a) : (zm_102 E).2.2 a = E a := (st_ne (by omega)).trans (zo_101 E h)
theorem zo_103 (E : Nat → MCQ) {a : Nat} (h : 86 ≤ a) : (zm_103 E).2.2 a = E a := (ad_ne (zl_102 E) (by omega)).trans (zo_102 E h)
theorem zo_104 (E : Nat → MCQ) {a : Nat} (h : 86 ≤ a) : (zm_104 E).2.2 a = E a := (st_ne (by omega)).trans (zo_103 E h)
theorem zo_105 (E : Nat → MCQ) {a : Nat} (h : 86 ≤ a) : (zm_105 E).2.2 a = E a := (ad_ne (zl_104 E) (by omega)).trans (zo_104 E h)
theorem zo_106 (E : Nat → MCQ) {a : Nat} (h : 86 ≤ a) : (zm_106 E).2.2 a = E a := (st_ne (by omega)).trans (zo_105 E h)
theorem zo_107 (E : Nat → MCQ) {a : Nat} (h : 86 ≤ a) : (zm_107 E).2.2 a = E a := (st_ne (by omega)).trans (zo_106 E h)
theorem zo_108 (E : Nat → MCQ) {a : Nat} (h : 86 ≤ a) : (zm_108 E).2.2 a = E a := (ad_ne (zl_107 E) (by omega)).trans (zo_107 E h)
theorem zo_109 (E : Nat → MCQ) {a : Nat} (h : 86 ≤ a) : (zm_109 E).2.2 a = E a := (ad_ne (zl_108 E) (by omega)).trans (zo_108 E h)
theorem zo_110 (E : Nat → MCQ) {a : Nat} (h : 86 ≤ a) : (zm_110 E).2.2 a = E a := (st_ne (by omega)).trans (zo_109 E h)
theorem zo_111 (E : Nat → MCQ) {a : Nat} (h : 86 ≤ a) : (zm_111 E).2.2 a = E a := (ad_ne (zl_110 E) (by omega)).trans (zo_110 E h)
theorem zo_112 (E : Nat → MCQ) {a : Nat} (h : 86 ≤ a) : (zm_112 E).2.2 a = E a := (st_ne (by omega)).trans (zo_111 E h)
theorem zo_113 (E : Nat → MCQ) {a : Nat} (h : 86 ≤ a) : (zm_113 E).2.2 a = E a := (ad_ne (zl_112 E) (by omega)).trans (zo_112 E h)
theorem zo_114 (E : Nat → MCQ) {a : Nat} (h : 86 ≤ a) : (zm_114 E).2.2 a = E a := (st_ne (by omega)).trans (zo_113 E h)
theorem zo_115 (E : Nat → MCQ) {a : Nat} (h : 86 ≤ a) : (zm_115 E).2.2 a = E a := (ad_ne (zl_114 E) (by omega)).trans (zo_114 E h)
theorem zo_116 (E : Nat → MCQ) {a : Nat} (h : 86 ≤ a) : (zm_116 E).2.2 a = E a := (st_ne (by omega)).trans (zo_115 E h)
theorem zo_117 (E : Nat → MCQ) {a : Nat} (h : 86 ≤ a) : (zm_117 E).2.2 a = E a := (ad_ne (zl_116 E) (by omega)).trans (zo_116 E h)
theorem zo_118 (E : Nat → MCQ) {a : Nat} (h : 86 ≤ a) : (zm_118 E).2.2 a = E a := (st_ne (by omega)).trans (zo_117 E h)
theorem zo_119 (E : Nat → MCQ) {a : Nat} (h : 86 ≤ a) : (zm_119 E).2.2 a = E a := (st_ne (by omega)).trans (zo_118 E h)
theorem zo_120 (E : Nat → MCQ) {a : Nat} (h : 86 ≤ a) : (zm_120 E).2.2 a = E a := (st_ne (by omega)).trans (zo_119 E h)
theorem zo_121 (E : Nat → MCQ) {a : Nat} (h : 86 ≤ a) : (zm_121 E).2.2 a = E a := (st_ne (by omega)).trans (zo_120 E h)
theorem zo_122 (E : Nat → MCQ) {a : Nat} (h : 86 ≤ a) : (zm_122 E).2.2 a = E a := (ad_ne (zl_121 E) (by omega)).trans (zo_121 E h)
theorem zo_123 (E : Nat → MCQ) {a : Nat} (h : 86 ≤ a) : (zm_123 E).2.2 a = E a := (st_ne (by omega)).trans (zo_122 E h)
theorem zo_124 (E : Nat → MCQ) {a : Nat} (h : 86 ≤ a) : (zm_124 E).2.2 a = E a := (ad_ne (zl_123 E) (by omega)).trans (zo_123 E h)
theorem zo_125 (E : Nat → MCQ) {a : Nat} (h : 86 ≤ a) : (zm_125 E).2.2 a = E a := (ad_ne (zl_124 E) (by omega)).trans (zo_124 E h)
theorem zo_126 (E : Nat → MCQ) {a : Nat} (h : 86 ≤ a) : (zm_126 E).2.2 a = E a := (st_ne (by omega)).trans (zo_125 E h)
theorem zo_127 (E : Nat → MCQ) {a : Nat} (h : 86 ≤ a) : (zm_127 E).2.2 a = E a := (ad_ne (zl_126 E) (by omega)).trans (zo_126 E h)
theorem zo_128 (E : Nat → MCQ) {a : Nat} (h : 86 ≤ a) : (zm_128 E).2.2 a = E a := (st_ne (by omega)).trans (zo_127 E h)
theorem zo_129 (E : Nat → MCQ) {a : Nat} (h : 86 ≤ a) : (zm_129 E).2.2 a = E a := (ad_ne (zl_128 E) (by omega)).trans (zo_128 E h)
theorem zo_130 (E : Nat → MCQ) {a : Nat} (h : 86 ≤ a) : (zm_130 E).2.2 a = E a := (st_ne (by omega)).trans (zo_129 E h)
theorem zo_131 (E : Nat → MCQ) {a : Nat} (h : 86 ≤ a) : (zm_131 E).2.2 a = E a := (ad_ne (zl_130 E) (by omega)).trans (zo_130 E h)
theorem zo_132 (E : Nat → MCQ) {a : Nat} (h : 86 ≤ a) : (zm_132 E).2.2 a = E a := (st_ne (by omega)).trans (zo_131 E h)
theorem zo_133 (E : Nat → MCQ) {a : Nat} (h : 86 ≤ a) : (zm_133 E).2.2 a = E a := (ad_ne (zl_132 E) (by omega)).trans (zo_132 E h)
theorem zo_134 (E : Nat → MCQ) {a : Nat} (h : 86 ≤ a) : (zm_134 E).2.2 a = E a := (st_ne (by omega)).trans (zo_133 E h)
theorem zo_135 (E : Nat → MCQ) {a : Nat} (h : 86 ≤ a) : (zm_135 E).2.2 a = E a := (ad_ne (zl_134 E) (by omega)).trans (zo_134 E h)
theorem zo_136 (E : Nat → MCQ) {a : Nat} (h : 86 ≤ a) : (zm_136 E).2.2 a = E a := (st_ne (by omega)).trans (zo_135 E h)
theorem zo_137 (E : Nat → MCQ) {a : Nat} (h : 86 ≤ a) : (zm_137 E).2.2 a = E a := (st_ne (by omega)).trans (zo_136 E h)
theorem zo_138 (E : Nat → MCQ) {a : Nat} (h : 86 ≤ a) : (zm_138 E).2.2 a = E a := (st_ne (by omega)).trans (zo_137 E h)
theorem zo_139 (E : Nat → MCQ) {a : Nat} (h : 86 ≤ a) : (zm_139 E).2.2 a = E a := (st_ne (by omega)).trans (zo_138 E h)
theorem zo_140 (E : Nat → MCQ) {a : Nat} (h : 86 ≤ a) : (zm_140 E).2.2 a = E a := (st_ne (by omega)).trans (zo_139 E h)
theorem zo_141 (E : Nat → MCQ) {a : Nat} (h : 86 ≤ a) : (zm_141 E).2.2 a = E a := (st_ne (by omega)).trans (zo_140 E h)
theorem zo_142 (E : Nat → MCQ) {a : Nat} (h : 86 ≤ a) : (zm_142 E).2.2 a = E a := (st_ne (by omega)).trans (zo_141 E h)
theorem zo_143 (E : Nat → MCQ) {a : Nat} (h : 86 ≤ a) : (zm_143 E).2.2 a = E a := (st_ne (by omega)).trans (zo_142 E h)
theorem zo_144 (E : Nat → MCQ) {a : Nat} (h : 86 ≤ a) : (zm_144 E).2.2 a = E a := (st_ne (by omega)).trans (zo_143 E h)
theorem zo_145 (E : Nat → MCQ) {a : Nat} (h : 86 ≤ a) : (zm_145 E).2.2 a = E a := (st_ne (by omega)).trans (zo_144 E h)
theorem zo_146 (E : Nat → MCQ) {a : Nat} (h : 86 ≤ a) : (zm_146 E).2.2 a = E a := (st_ne (by omega)).trans (zo_145 E h)
theorem zo_147 (E : Nat → MCQ) {a : Nat} (h : 86 ≤ a) : (zm_147 E).2.2 a = E a := (st_ne (by omega)).trans (zo_146 E h)
theorem zo_148 (E : Nat → MCQ) {a : Nat} (h : 86 ≤ a) : (zm_148 E).2.2 a = E a := (st_ne (by omega)).trans (zo_147 E h)
theorem zo_149 (E : Nat → MCQ) {a : Nat} (h : 86 ≤ a) : (zm_149 E).2.2 a = E a := (st_ne (by omega)).trans (zo_148 E h)
theorem zo_150 (E : Nat → MCQ) {a : Nat} (h : 86 ≤ a) : (zm_150 E).2.2 a = E a := (st_ne (by omega)).trans (zo_149 E h)
theorem zo_151 (E : Nat → MCQ) {a : Nat} (h : 86 ≤ a) : (zm_151 E).2.2 a = E a := (st_ne (by omega)).trans (zo_150 E h)
theorem zo_152 (E : Nat → MCQ) {a : Nat} (h : 86 ≤ a) : (zm_152 E).2.2 a = E a := (st_ne (by omega)).trans (zo_151 E h)
theorem zo_153 (E : Nat → MCQ) {a : Nat} (h : 86 ≤ a) : (zm_153 E).2.2 a = E a := (st_ne (by omega)).trans (zo_152 E h)
theorem zo_154 (E : Nat → MCQ) {a : Nat} (h : 86 ≤ a) : (zm_154 E).2.2 a = E a := (st_ne (by omega)).trans (zo_153 E h)
theorem zo_155 (E : Nat → MCQ) {a : Nat} (h : 86 ≤ a) : (zm_155 E).2.2 a = E a := (st_ne (by omega)).trans (zo_154 E h)
theorem zo_156 (E : Nat → MCQ) {a : Nat} (h : 86 ≤ a) : (zm_156 E).2.2 a = E a := (st_ne (by omega)).trans (zo_155 E h)
theorem zo_157 (E : Nat → MCQ) {a : Nat} (h : 86 ≤ a) : (zm_157 E).2.2 a = E a := (st_ne (by omega)).trans (zo_156 E h)
theorem zo_158 (E : Nat → MCQ) {a : Nat} (h : 86 ≤ a) : (zm_158 E).2.2 a = E a := (st_ne (by omega)).trans (zo_157 E h)
theorem zo_159 (E : Nat → MCQ) {a : Nat} (h : 86 ≤ a) : (zm_159 E).2.2 a = E a := (st_ne (by omega)).trans (zo_158 E h)
theorem zo_160 (E : Nat → MCQ) {a : Nat} (h : 86 ≤ a) : (zm_160 E).2.2 a = E a := (st_ne (by omega)).trans (zo_159 E h)
theorem zo_161 (E : Nat → MCQ) {a : Nat} (h : 86 ≤ a) : (zm_161 E).2.2 a = E a := (st_ne (by omega)).trans (zo_160 E h)
theorem zo_162 (E : Nat → MCQ) {a : Nat} (h : 86 ≤ a) : (zm_162 E).2.2 a = E a := (st_ne (by omega)).trans (zo_161 E h)
theorem zo_163 (E : Nat → MCQ) {a : Nat} (h : 86 ≤ a) : (zm_163 E).2.2 a = E a := (st_ne (by omega)).trans (zo_162 E h)
theorem zo_164 (E : Nat → MCQ) {a : Nat} (h : 86 ≤ a) : (zm_164 E).2.2 a = E a := (st_ne (by omega)).trans (zo_163 E h)
theorem zo_165 (E : Nat → MCQ) {a : Nat} (h : 86 ≤ a) : (zm_165 E).2.2 a = E a := (st_ne (by omega)).trans (zo_164 E h)
theorem zo_166 (E : Nat → MCQ) {a : Nat} (h : 86 ≤ a) : (zm_166 E).2.2 a = E a := (st_ne (by omega)).trans (zo_165 E h)
theorem zo_167 (E : Nat → MCQ) {a : Nat} (h : 86 ≤ a) : (zm_167 E).2.2 a = E a := (st_ne (by omega)).trans (zo_166 E h)
theorem zo_168 (E : Nat → MCQ) {a : Nat} (h : 86 ≤ a) : (zm_168 E).2.2 a = E a := (st_ne (by omega)).trans (zo_167 E h)
theorem zo_169 (E : Nat → MCQ) {a : Nat} (h : 86 ≤ a) : (zm_169 E).2.2 a = E a := (st_ne (by omega)).trans (zo_168 E h)
theorem zo_170 (E : Nat → MCQ) {a : Nat} (h : 86 ≤ a) : (zm_170 E).2.2 a = E a := (st_ne (by omega)).trans (zo_169 E h)
theorem zo_171 (E : Nat → MCQ) {a : Nat} (h : 86 ≤ a) : (zm_171 E).2.2 a = E a := (st_ne (by omega)).trans (zo_170 E h)
theorem zo_172 (E : Nat → MCQ) {a : Nat} (h : 86 ≤ a) : (zm_172 E).2.2 a = E a := (st_ne (by omega)).trans (zo_171 E h)
theorem zo_173 (E : Nat → MCQ) {a : Nat} (h : 86 ≤ a) : (zm_173 E).2.2 a = E a := (st_ne (by omega)).trans (zo_172 E h)
theorem zo_174 (E : Nat → MCQ) {a : Nat} (h : 86 ≤ a) : (zm_174 E).2.2 a = E a := (st_ne (by omega)).trans (zo_173 E h)
theorem zo_175 (E : Nat → MCQ) {a : Nat} (h : 86 ≤ a) : (zm_175 E).2.2 a = E a := (st_ne (by omega)).trans (zo_174 E h)
theorem zo_176 (E : Nat → MCQ) {a : Nat} (h : 86 ≤ a) : (zm_176 E).2.2 a = E a := (st_ne (by omega)).trans (zo_175 E h)
theorem zo_177 (E : Nat → MCQ) {a : Nat} (h : 86 ≤ a) : (zm_177 E).2.2 a = E a := (st_ne (by omega)).trans (zo_176 E h)
theorem zo_178 (E : Nat → MCQ) {a : Nat} (h : 86 ≤ a) : (zm_178 E).2.2 a = E a := (st_ne (by omega)).trans (zo_177 E h)
theorem zo_179 (E : Nat → MCQ) {a : Nat} (h : 86 ≤ a) : (zm_179 E).2.2 a = E a := (st_ne (by omega)).trans (zo_178 E h)
theorem zo_180 (E : Nat → MCQ) {a : Nat} (h : 86 ≤ a) : (zm_180 E).2.2 a = E a := (st_ne (by omega)).trans (zo_179 E h)
theorem zo_181 (E : Nat → MCQ) {a : Nat} (h : 86 ≤ a) : (zm_181 E).2.2 a = E a := (st_ne (by omega)).trans (zo_180 E h)
theorem zo_182 (E : Nat → MCQ) {a : Nat} (h : 86 ≤ a) : (zm_182 E).2.2 a = E a := (st_ne (by omega)).trans (zo_181 E h)
theorem zo_183 (E : Nat → MCQ) {a : Nat} (h : 86 ≤ a) : (zm_183 E).2.2 a = E a := (st_ne (by omega)).trans (zo_182 E h)
theorem zo_184 (E : Nat → MCQ) {a : Nat} (h : 86 ≤ a) : (zm_184 E).2.2 a = E a := (st_ne (by omega)).trans (zo_183 E h)
theorem zo_185 (E : Nat → MCQ) {a : Nat} (h : 86 ≤ a) : (zm_185 E).2.2 a = E a := (st_ne (by omega)).trans (zo_184 E h)
theorem zo_186 (E : Nat → MCQ) {a : Nat} (h : 86 ≤ a) : (zm_186 E).2.2 a = E a := (st_ne (by omega)).trans (zo_185 E h)
theorem zo_187 (E : Nat → MCQ) {a : Nat} (h : 86 ≤ a) : (zm_187 E).2.2 a = E a := (st_ne (by omega)).trans (zo_186 E h)
theorem zo_188 (E : Nat → MCQ) {a : Nat} (h : 86 ≤ a) : (zm_188 E).2.2 a = E a := (st_ne (by omega)).trans (zo_187 E h)
theorem zo_189 (E : Nat → MCQ) {a : Nat} (h : 86 ≤ a) : (zm_189 E).2.2 a = E a := (st_ne (by omega)).trans (zo_188 E h)
theorem zo_190 (E : Nat → MCQ) {a : Nat} (h : 86 ≤ a) : (zm_190 E).2.2 a = E a := (st_ne (by omega)).trans (zo_189 E h)
theorem zo_191 (E : Nat → MCQ) {a : Nat} (h : 86 ≤ a) : (zm_191 E).2.2 a = E a := (st_ne (by omega)).trans (zo_190 E h)
theorem zo_192 (E : Nat → MCQ) {a : Nat} (h : 86 ≤ a) : (zm_192 E).2.2 a = E a := (st_ne (by omega)).trans (zo_191 E h)
theorem zo_193 (E : Nat → MCQ) {a : Nat} (h : 86 ≤ a) : (zm_193 E).2.2 a = E a := (st_ne (by omega)).trans (zo_192 E h)
theorem zo_194 (E : Nat → MCQ) {a : Nat} (h : 86 ≤ a) : (zm_194 E).2.2 a = E a := (st_ne (by omega)).trans (zo_193 E h)
theorem zo_195 (E : Nat → MCQ) {a : Nat} (h : 86 ≤ a) : (zm_195 E).2.2 a = E a := (st_ne (by omega)).trans (zo_194 E h)
theorem zo_196 (E : Nat → MCQ) {a : Nat} (h : 86 ≤ a) : (zm_196 E).2.2 a = E a := (st_ne (by omega)).trans (zo_195 E h)
theorem zo_197 (E : Nat → MCQ) {a : Nat} (h : 86 ≤ a) : (zm_197 E).2.2 a = E a := (st_ne (by omega)).trans (zo_196 E h)
theorem zo_198 (E : Nat → MCQ) {a : Nat} (h : 86 ≤ a) : (zm_198 E).2.2 a = E a := (st_ne (by omega)).trans (zo_197 E h)
theorem zo_199 (E : Nat → MCQ) {a : Nat} (h : 86 ≤ a) : (zm_199 E).2.2 a = E a := (st_ne (by omega)).trans (zo_198 E h)
theorem zo_200 (E : Nat → MCQ) {a : Nat} (h : 86 ≤ a) : (zm_200 E).2.2 a = E a := (st_ne (by omega)).trans (zo_199 E h)
theorem zo_201 (E : Nat → MCQ) {a : Nat} (h : 86 ≤ a) : (zm_201 E).2.2 a = E a := (st_ne (by omega)).trans (zo_200 E h)
theorem zo_202 (E : Nat → MCQ) {a : Nat} (h : 86 ≤ a) : (zm_202 E).2.2 a = E a := (st_ne (by omega)).trans (zo_201 E h)
theorem zo_203 (E : Nat → MCQ) {a : Nat} (h : 86 ≤ a) : (zm_203 E).2.2 a = E a := (st_ne (by omega)).trans (zo_202 E h)
theorem zo_204 (E : Nat → MCQ) {a : Nat} (h : 86 ≤ a) : (zm_204 E).2.2 a = E a := (st_ne (by omega)).trans (zo_203 E h)
theorem zo_205 (E : Nat → MCQ) {a : Nat} (h : 86 ≤ a) : (zm_205 E).2.2 a = E a := (st_ne (by omega)).trans (zo_204 E h)
theorem zo_206 (E : Nat → MCQ) {a : Nat} (h : 86 ≤ a) : (zm_206 E).2.2 a = E a := (st_ne (by omega)).trans (zo_205 E h)
theorem zo_207 (E : Nat → MCQ) {a : Nat} (h : 86 ≤ a) : (zm_207 E).2.2 a = E a := (st_ne (by omega)).trans (zo_206 E h)
theorem zo_208 (E : Nat → MCQ) {a : Nat} (h : 86 ≤ a) : (zm_208 E).2.2 a = E a := (st_ne (by omega)).trans (zo_207 E h)
theorem zo_209 (E : Nat → MCQ) {a : Nat} (h : 86 ≤ a) : (zm_209 E).2.2 a = E a := (st_ne (by omega)).trans (zo_208 E h)
theorem zo_210 (E : Nat → MCQ) {a : Nat} (h : 86 ≤ a) : (zm_210 E).2.2 a = E a := (st_ne (by omega)).trans (zo_209 E h)
theorem zo_211 (E : Nat → MCQ) {a : Nat} (h : 86 ≤ a) : (zm_211 E).2.2 a = E a := (st_ne (by omega)).trans (zo_210 E h)
theorem zo_212 (E : Nat → MCQ) {a : Nat} (h : 86 ≤ a) : (zm_212 E).2.2 a = E a := (st_ne (by omega)).trans (zo_211 E h)
theorem zo_213 (E : Nat → MCQ) {a : Nat} (h : 86 ≤ a) : (zm_213 E).2.2 a = E a := (st_ne (by omega)).trans (zo_212 E h)
theorem zo_214 (E : Nat → MCQ) {a : Nat} (h : 86 ≤ a) : (zm_214 E).2.2 a = E a := (st_ne (by omega)).trans (zo_213 E h)
theorem zo_215 (E : Nat → MCQ) {a : Nat} (h : 86 ≤ a) : (zm_215 E).2.2 a = E a := (st_ne (by omega)).trans (zo_214 E h)
theorem zo_216 (E : Nat → MCQ) {a : Nat} (h : 86 ≤ a) : (zm_216 E).2.2 a = E a := (st_ne (by omega)).trans (zo_215 E h)
theorem zo_217 (E : Nat → MCQ) {a : Nat} (h : 86 ≤ a) : (zm_217 E).2.2 a = E a := (st_ne (by omega)).trans (zo_216 E h)
theorem zo_218 (E : Nat → MCQ) {a : Nat} (h : 86 ≤ a) : (zm_218 E).2.2 a = E a := (st_ne (by omega)).trans (zo_217 E h)
theorem zo_219 (E : Nat → MCQ) {a : Nat} (h : 86 ≤ a) : (zm_219 E).2.2 a = E a := (st_ne (by omega)).trans (zo_218 E h)
theorem zo_220 (E : Nat → MCQ) {a : Nat} (h : 86 ≤ a) : (zm_220 E).2.2 a = E a := (st_ne (by omega)).trans (zo_219 E h)
theorem zo_221 (E : Nat → MCQ) {a : Nat} (h : 86 ≤ a) : (zm_221 E).2.2 a = E a := (st_ne (by omega)).trans (zo_220 E h)
theorem zo_222 (E : Nat → MCQ) {a : Nat} (h : 86 ≤ a) : (zm_222 E).2.2 a = E a := (st_ne (by omega)).trans (zo_221 E h)
theorem zo_223 (E : Nat → MCQ) {a : Nat} (h : 86 ≤ a) : (zm_223 E).2.2 a = E a := (st_ne (by omega)).trans (zo_222 E h)
theorem zo_224 (E : Nat → MCQ) {a : Nat} (h : 86 ≤ a) : (zm_224 E).2.2 a = E a := (st_ne (by omega)).trans (zo_223 E h)
theorem zo_225 (E : Nat → MCQ) {a : Nat} (h : 86 ≤ a) : (zm_225 E).2.2 a = E a := (st_ne (by omega)).trans (zo_224 E h)
theorem zo_226 (E : Nat → MCQ) {a : Nat} (h : 86 ≤ a) : (zm_226 E).2.2 a = E a := (st_ne (by omega)).trans (zo_225 E h)
theorem zo_227 (E : Nat → MCQ) {a : Nat} (h : 86 ≤ a) : (zm_227 E).2.2 a = E a := (st_ne (by omega)).trans (zo_226 E h)
theorem zo_228 (E : Nat → MCQ) {a : Nat} (h : 86 ≤ a) : (zm_228 E).2.2 a = E a := (st_ne (by omega)).trans (zo_227 E h)
theorem zo_229 (E : Nat → MCQ) {a : Nat} (h : 86 ≤ a) : (zm_229 E).2.2 a = E a := (st_ne (by omega)).trans (zo_228 E h)
theorem zo_230 (E : Nat → MCQ) {a : Nat} (h : 86 ≤ a) : (zm_230 E).2.2 a = E a := (st_ne (by omega)).trans (zo_229 E h)
theorem zo_231 (E : Nat → MCQ) {a : Nat} (h : 86 ≤ a) : (zm_231 E).2.2 a = E a := (st_ne (by omega)).trans (zo_230 E h)
theorem zo_232 (E : Nat → MCQ) {a : Nat} (h : 86 ≤ a) : (zm_232 E).2.2 a = E a := (st_ne (by omega)).trans (zo_231 E h)
theorem zo_233 (E : Nat → MCQ) {a : Nat} (h : 86 ≤ a) : (zm_233 E).2.2 a = E a := (st_ne (by omega)).trans (zo_232 E h)
theorem zo_234 (E : Nat → MCQ) {a : Nat} (h : 86 ≤ a) : (zm_234 E).2.2 a = E a := (st_ne (by omega)).trans (zo_233 E h)
theorem zo_235 (E : Nat → MCQ) {a : Nat} (h : 86 ≤ a) : (zm_235 E).2.2 a = E a := (st_ne (by omega)).trans (zo_234 E h)
theorem zo_236 (E : Nat → MCQ) {a : Nat} (h : 86 ≤ a) : (zm_236 E).2.2 a = E a := (st_ne (by omega)).trans (zo_235 E h)
theorem zo_237 (E : Nat → MCQ) {a : Nat} (h : 86 ≤ a) : (zm_237 E).2.2 a = E a := (st_ne (by omega)).trans (zo_236 E h)
theorem zo_238 (E : Nat → MCQ) {a : Nat} (h : 86 ≤ a) : (zm_238 E).2.2 a = E a := (st_ne (by omega)).trans (zo_237 E h)
theorem zo_239 (E : Nat → MCQ) {a : Nat} (h : 86 ≤ a) : (zm_239 E).2.2 a = E a := (st_ne (by omega)).trans (zo_238 E h)
theorem zo_240 (E : Nat → MCQ) {a : Nat} (h : 86 ≤ a) : (zm_240 E).2.2 a = E a := (st_ne (by omega)).trans (zo_239 E h)
theorem zo_241 (E : Nat → MCQ) {a : Nat} (h : 86 ≤ a) : (zm_241 E).2.2 a = E a := (st_ne (by omega)).trans (zo_240 E h)
theorem zo_242 (E : Nat → MCQ) {a : Nat} (h : 86 ≤ a) : (zm_242 E).2.2 a = E a := (st_ne (by omega)).trans (zo_241 E h)
theorem zo_243 (E : Nat → MCQ) {a : Nat} (h : 86 ≤ a) : (zm_243 E).2.2 a = E a := (st_ne (by omega)).trans (zo_242 E h)
theorem zo_244 (E : Nat → MCQ) {a : Nat} (h : 86 ≤ a) : (zm_244 E).2.2 a = E a := (st_ne (by omega)).trans (zo_243 E h)
theorem zo_245 (E : Nat → MCQ) {a : Nat} (h : 86 ≤ a) : (zm_245 E).2.2 a = E a := (st_ne (by omega)).trans (zo_244 E h)
theorem zo_246 (E : Nat → MCQ) {a : Nat} (h : 86 ≤ a) : (zm_246 E).2.2 a = E a := (st_ne (by omega)).trans (zo_245 E h)
theorem zo_247 (E : Nat → MCQ) {a : Nat} (h : 86 ≤ a) : (zm_247 E).2.2 a = E a := (st_ne (by omega)).trans (zo_246 E h)
theorem zo_248 (E : Nat → MCQ) {a : Nat} (h : 86 ≤ a) : (zm_248 E).2.2 a = E a := (st_ne (by omega)).trans (zo_247 E h)
theorem zo_249 (E : Nat → MCQ) {a : Nat} (h : 86 ≤ a) : (zm_249 E).2.2 a = E a := (st_ne (by omega)).trans (zo_248 E h)
theorem zo_250 (E : Nat → MCQ) {a : Nat} (h : 86 ≤ a) : (zm_250 E).2.2 a = E a := (st_ne (by omega)).trans (zo_249 E h)
theorem zo_251 (E : Nat → MCQ) {a : Nat} (h : 86 ≤ a) : (zm_251 E).2.2 a = E a := (st_ne (by omega)).trans (zo_250 E h)
theorem zo_252 (E : Nat → MCQ) {a : Nat} (h : 86 ≤ a) : (zm_252 E).2.2 a = E a := (st_ne (by omega)).trans (zo_251 E h)
theorem zo_253 (E : Nat → MCQ) {a : Nat} (h : 86 ≤ a) : (zm_253 E).2.2 a = E a := (st_ne (by omega)).trans (zo_252 E h)
theorem zo_254 (E : Nat → MCQ) {a : Nat} (h : 86 ≤ a) : (zm_254 E).2.2 a = E a := (st_ne (by omega)).trans (zo_253 E h)
theorem zo_255 (E : Nat → MCQ) {a : Nat} (h : 86 ≤ a) : (zm_255 E).2.2 a = E a := (st_ne (by omega)).trans (zo_254 E h)
theorem zo_256 (E : Nat → MCQ) {a : Nat} (h : 86 ≤ a) : (zm_256 E).2.2 a = E a := (st_ne (by omega)).trans (zo_255 E h)
theorem zo_257 (E : Nat → MCQ) {a : Nat} (h : 86 ≤ a) : (zm_257 E).2.2 a = E a := (st_ne (by omega)).trans (zo_256 E h)
theorem zo_258 (E : Nat → MCQ) {a : Nat} (h : 86 ≤ a) : (zm_258 E).2.2 a = E a := (st_ne (by omega)).trans (zo_257 E h)
theorem zo_259 (E : Nat → MCQ) {a : Nat} (h : 86 ≤ a) : (zm_259 E).2.2 a = E a := (ad_ne (zl_258 E) (by omega)).trans (zo_258 E h)
theorem zo_260 (E : Nat → MCQ) {a : Nat} (h : 86 ≤ a) : (zm_260 E).2.2 a = E a := (st_ne (by omega)).trans (zo_259 E h)
theorem zo_261 (E : Nat → MCQ) {a : Nat} (h : 86 ≤ a) : (zm_261 E).2.2 a = E a := (ad_ne (zl_260 E) (by omega)).trans (zo_260 E h)
theorem zo_262 (E : Nat → MCQ) {a : Nat} (h : 86 ≤ a) : (zm_262 E).2.2 a = E a := (st_ne (by omega)).trans (zo_261 E h)
theorem zo_263 (E : Nat → MCQ) {a : Nat} (h : 86 ≤ a) : (zm_263 E).2.2 a = E a := (st_ne (by omega)).trans (zo_262 E h)
theorem zo_264 (E : Nat → MCQ) {a : Nat} (h : 86 ≤ a) : (zm_264 E).2.2 a = E a := (ad_ne (zl_263 E) (by omega)).trans (zo_263 E h)
theorem zo_265 (E : Nat → MCQ) {a : Nat} (h : 86 ≤ a) : (zm_265 E).2.2 a = E a := (st_ne (by omega)).trans (zo_264 E h)
theorem zo_266 (E : Nat → MCQ) {a : Nat} (h : 86 ≤ a) : (zm_266 E).2.2 a = E a := (ad_ne (zl_265 E) (by omega)).trans (zo_265 E h)
theorem zo_267 (E : Nat → MCQ) {a : Nat} (h : 86 ≤ a) : (zm_267 E).2.2 a = E a := (st_ne (by omega)).trans (zo_266 E h)
theorem zo_268 (E : Nat → MCQ) {a : Nat} (h : 86 ≤ a) : (zm_268 E).2.2 a = E a := (ad_ne (zl_267 E) (by omega)).trans (zo_267 E h)
theorem zo_269 (E : Nat → MCQ) {a : Nat} (h : 86 ≤ a) : (zm_269 E).2.2 a = E a := (st_ne (by omega)).trans (zo_268 E h)
theorem zo_270 (E : Nat → MCQ) {a : Nat} (h : 86 ≤ a) : (zm_270 E).2.2 a = E a := (ad_ne (zl_269 E) (by omega)).trans (zo_269 E h)
theorem zo_271 (E : Nat → MCQ) {a : Nat} (h : 86 ≤ a) : (zm_271 E).2.2 a = E a := (st_ne (by omega)).trans (zo_270 E h)
theorem zo_272 (E : Nat → MCQ) {a : Nat} (h : 86 ≤ a) : (zm_272 E).2.2 a = E a := (ad_ne (zl_271 E) (by omega)).trans (zo_271 E h)
theorem zo_273 (E : Nat → MCQ) {a : Nat} (h : 86 ≤ a) : (zm_273 E).2.2 a = E a := (st_ne (by omega)).trans (zo_272 E h)
theorem zo_274 (E : Nat → MCQ) {a : Nat} (h : 86 ≤ a) : (zm_274 E).2.2 a = E a := (ad_ne (zl_273 E) (by omega)).trans (zo_273 E h)
theorem zo_275 (E : Nat → MCQ) {a : Nat} (h : 86 ≤ a) : (zm_275 E).2.2 a = E a := (st_ne (by omega)).trans (zo_274 E h)
theorem zo_276 (E : Nat → MCQ) {a : Nat} (h : 86 ≤ a) : (zm_276 E).2.2 a = E a := (ad_ne (zl_275 E) (by omega)).trans (zo_275 E h)
theorem zo_277 (E : Nat → MCQ) {a : Nat} (h : 86 ≤ a) : (zm_277 E).2.2 a = E a := (st_ne (by omega)).trans (zo_276 E h)
theorem zo_278 (E : Nat → MCQ) {a : Nat} (h : 86 ≤ a) : (zm_278 E).2.2 a = E a := (ad_ne (zl_277 E) (by omega)).trans (zo_277 E h)
theorem zo_279 (E : Nat → MCQ) {a : Nat} (h : 86 ≤ a) : (zm_279 E).2.2 a = E a := (st_ne (by omega)).trans (zo_278 E h)
theorem zo_280 (E : Nat → MCQ) {a : Nat} (h : 86 ≤ a) : (zm_280 E).2.2 a = E a := (ad_ne (zl_279 E) (by omega)).trans (zo_279 E h)
theorem zo_281 (E : Nat → MCQ) {a : Nat} (h : 86 ≤ a) : (zm_281 E).2.2 a = E a := (st_ne (by omega)).trans (zo_280 E h)
theorem zo_282 (E : Nat → MCQ) {a : Nat} (h : 86 ≤ a) : (zm_282 E).2.2 a = E a := (ad_ne (zl_281 E) (by omega)).trans (zo_281 E h)
theorem zo_283 (E : Nat → MCQ) {a : Nat} (h : 86 ≤ a) : (zm_283 E).2.2 a = E a := (st_ne (by omega)).trans (zo_282 E h)
theorem zo_284 (E : Nat → MCQ) {a : Nat} (h : 86 ≤ a) : (zm_284 E).2.2 a = E a := (ad_ne (zl_283 E) (by omega)).trans (zo_283 E h)
theorem zo_285 (E : Nat → MCQ) {a : Nat} (h : 86 ≤ a) : (zm_285 E).2.2 a = E a := (st_ne (by omega)).trans (zo_284 E h)
theorem zo_286 (E : Nat → MCQ) {a : Nat} (h : 86 ≤ a) : (zm_286 E).2.2 a = E a := (ad_ne (zl_285 E) (by omega)).trans (zo_285 E h)
theorem zo_287 (E : Nat → MCQ) {a : Nat} (h : 86 ≤ a) : (zm_287 E).2.2 a = E a := (st_ne (by omega)).trans (zo_286 E h)
theorem zo_288 (E : Nat → MCQ) {a : Nat} (h : 86 ≤ a) : (zm_288 E).2.2 a = E a := (ad_ne (zl_287 E) (by omega)).trans (zo_287 E h)
theorem zo_289 (E : Nat → MCQ) {a : Nat} (h : 86 ≤ a) : (zm_289 E).2.2 a = E a := (st_ne (by omega)).trans (zo_288 E h)
theorem zo_290 (E : Nat → MCQ) {a : Nat} (h : 86 ≤ a) : (zm_290 E).2.2 a = E a := (ad_ne (zl_289 E) (by omega)).trans (zo_289 E h)
theorem zo_291 (E : Nat → MCQ) {a : Nat} (h : 86 ≤ a) : (zm_291 E).2.2 a = E a := (st_ne (by omega)).trans (zo_290 E h)
theorem zo_292 (E : Nat → MCQ) {a : Nat} (h : 86 ≤ a) : (zm_292 E).2.2 a = E a := (ad_ne (zl_291 E) (by omega)).trans (zo_291 E h)
theorem zo_293 (E : Nat → MCQ) {a : Nat} (h : 86 ≤ a) : (zm_293 E).2.2 a = E a := (st_ne (by omega)).trans (zo_292 E h)
theorem zo_294 (E : Nat → MCQ) {a : Nat} (h : 86 ≤ a) : (zm_294 E).2.2 a = E a := (st_ne (by omega)).trans (zo_293 E h)
theorem zo_295 (E : Nat → MCQ) {a : Nat} (h : 86 ≤ a) : (zm_295 E).2.2 a = E a := (ad_ne (zl_294 E) (by omega)).trans (zo_294 E h)
theorem zo_296 (E : Nat → MCQ) {a : Nat} (h : 86 ≤ a) : (zm_296 E).2.2 a = E a := (st_ne (by omega)).trans (zo_295 E h)
theorem zo_297 (E : Nat → MCQ) {a : Nat} (h : 86 ≤ a) : (zm_297 E).2.2 a = E a := (ad_ne (zl_296 E) (by omega)).trans (zo_296 E h)
theorem zo_298 (E : Nat → MCQ) {a : Nat} (h : 86 ≤ a) : (zm_298 E).2.2 a = E a := (st_ne (by omega)).trans (zo_297 E h)
theorem zo_299 (E : Nat → MCQ) {a : Nat} (h : 86 ≤ a) : (zm_299 E).2.2 a = E a := (ad_ne (zl_298 E) (by omega)).trans (zo_298 E h)
theorem zo_300 (E : Nat → MCQ) {a : Nat} (h : 86 ≤ a) : (zm_300 E).2.2 a = E a := (st_ne (by omega)).trans (zo_299 E h)
theorem zo_301 (E : Nat → MCQ) {a : Nat} (h : 86 ≤ a) : (zm_301 E).2.2 a = E a := (ad_ne (zl_300 E) (by omega)).trans (zo_300 E h)
theorem zo_302 (E : Nat → MCQ) {a : Nat} (h : 86 ≤ a) : (zm_302 E).2.2 a = E a := (st_ne (by omega)).trans (zo_301 E h)
theorem zo_303 (E : Nat → MCQ) {a : Nat} (h : 86 ≤ a) : (zm_303 E).2.2 a = E a := (st_ne (by omega)).trans (zo_302 E h)
theorem zo_304 (E : Nat → MCQ) {a : Nat} (h : 86 ≤ a) : (zm_304 E).2.2 a = E a := (st_ne (by omega)).trans (zo_303 E h)
theorem zo_305 (E : Nat → MCQ) {a : Nat} (h : 86 ≤ a) : (zm_305 E).2.2 a = E a := (st_ne (by omega)).trans (zo_304 E h)
