/-! ===== ORDERS: the reference, all of them ===== -/
section
variable {z : Mem} {f f' F : Nat → Nat → Int32} {N N' N0 : Nat → Nat} {U U' U0 : US} {Z : Nat → Option (Nat → Nat)} {T : Nat → Nat} {L : Nat} {c c' : Nat → Int32} {W : WS} {A n : Nat} {C V : Nat → Nat} {cls : List CL}
/-- what the reference sets aside -/
def MSV (f : Nat → Nat → Int32) (N0 : Nat → Nat) (U0 : US) : Prop := (∀ i, i < 37 → f 63 (37 * 7 + i) = wI (N0 i)) ∧ U0.1 ≤ 16 ∧ ∀ i, i < U0.1 → (∀ k, k < 37 → f 72 (38 * i + k) = wI ((U0.2 i).2 k)) ∧ f 72 (38 * i + 37) = wI (U0.2 i).1
theorem MSV_OG (h : MSV f N0 U0) (hg : OG f f') : MSV f' N0 U0 := by
  unfold MSV
  rw [hg.1 63 (by decide) (by decide) (by decide) (by decide) (by decide), hg.1 72 (by decide) (by decide) (by decide) (by decide) (by decide)]
  exact h
theorem orders_28 (hz : Sh z) {d : Nat} : ∀ (m k : Nat) (g : Nat → Int32), k + m = 608 →
    ∃ g', Ev (d + 1) mM_orders 28 [(0, .ref 58), (1, .int (wI k))] [] (mkM (up F 72 g) z) = Ev (d + 1) mM_orders 28 [(0, .ref 58), (1, .int (wI 608))] [] (mkM (up F 72 g') z) ∧ (∀ j, j < k → g' j = g j) ∧ ∀ j, k ≤ j → j < 608 → g' j = F 71 j := by
  intro m
  induction m with
  | zero =>
    intro k g hk
    obtain rfl : k = 608 := by omega
    exact ⟨g, rfl, fun _ _ => rfl, fun j h1 h2 => by omega⟩
  | succ m ih =>
    intro k g hk
    obtain ⟨g', i1, i2, i3⟩ := ih (k + 1) (upd g k (F 71 k)) (by omega)
    refine ⟨g', ?_, fun j hj => ?_, fun j h1 h2 => ?_⟩
    · rw [q_M_orders_28]
      simp -dsimp (disch := omega) only [↓c_58 hz, g_58_0 hz, p_58_0 hz, r_58_1 hz, r_58_2 hz, r_58_3 hz, r_58_4 hz, r_58_5 hz, g_58_6 hz, p_58_6 hz, r_58_7 hz, g_58_8 hz, p_58_8 hz, g_58_9 hz, p_58_9 hz, g_58_10 hz, p_58_10 hz, r_58_11 hz, r_58_12 hz, g_58_13 hz, p_58_13 hz, g_58_14 hz, p_58_14 hz, r_58_15 hz, r_58_16 hz, r_58_17 hz, g_58_18 hz, p_58_18 hz, g_58_19 hz, p_58_19 hz, g_58_20 hz, p_58_20 hz, g_58_21 hz, p_58_21 hz, g_58_22 hz, p_58_22 hz, g_58_23 hz, p_58_23 hz, g_58_24 hz, p_58_24 hz, g_58_25 hz, p_58_25 hz, r_58_26 hz, g_58_27 hz, p_58_27 hz, g_58_28 hz, p_58_28 hz, r_58_29 hz, r_58_30 hz, g_58_31 hz, p_58_31 hz, r_58_32 hz, r_58_33 hz, r_58_34 hz, r_58_35 hz, r_58_36 hz, r_58_37 hz, g_58_38 hz, p_58_38 hz, r_58_39 hz, r_58_40 hz, r_58_41 hz, g_58_42 hz, p_58_42 hz, g_58_43 hz, p_58_43 hz, g_58_44 hz, p_58_44 hz, g_58_45 hz, p_58_45 hz, g_58_46 hz, p_58_46 hz, g_58_47 hz, p_58_47 hz, g_58_48 hz, p_58_48 hz, r_58_49 hz, r_58_50 hz, r_58_51 hz, r_58_52 hz, g_58_53 hz, p_58_53 hz, g_58_54 hz, p_58_54 hz, g_58_55 hz, p_58_55 hz, l_59 hz, s_59 hz, n_59 hz, l_60 hz, s_60 hz, n_60 hz, l_61 hz, s_61 hz, n_61 hz, l_62 hz, s_62 hz, n_62 hz, l_63 hz, s_63 hz, n_63 hz, l_64 hz, s_64 hz, n_64 hz, l_65 hz, s_65 hz, n_65 hz, l_66 hz, s_66 hz, n_66 hz, l_67 hz, s_67 hz, n_67 hz, l_68 hz, s_68 hz, n_68 hz, l_69 hz, s_69 hz, n_69 hz, l_70 hz, s_70 hz, n_70 hz, l_71 hz, s_71 hz, n_71 hz, l_72 hz, s_72 hz, n_72 hz, l_73 hz, s_73 hz, n_73 hz, l_74 hz, s_74 hz, n_74 hz, l_75 hz, s_75 hz, n_75 hz, l_76 hz, s_76 hz, n_76 hz, l_77 hz, s_77 hz, n_77 hz, l_78 hz, s_78 hz, n_78 hz, l_79 hz, s_79 hz, n_79 hz, l_80 hz, s_80 hz, n_80 hz, l_81 hz, s_81 hz, n_81 hz, l_82 hz, s_82 hz, l_83 hz, s_83 hz, n_83 hz, l_84 hz, s_84 hz, n_84 hz, l_85 hz, s_85 hz, n_85 hz, hO_s, hI_s, hL_s, hQ_s, hQ_n, hR_s, hV_s, hN_n, hN_s, cond_true, lI_0, lI_1, sI_0, sI_1, lL_0, lL_1, ↓reduceIte, not_true_eq_false, not_false_eq_true, Nat.reduceEqDiff, Nat.reduceAdd, Nat.reduceMul, Nat.reduceSub, Nat.reduceLeDiff, Nat.reduceLT, li_2, li_3, li_4, li_5, li_6, li_7, li_8, li_9, li_10, li_11, li_12, li_13, li_14, li_15, li_16, li_17, li_18, li_19, li_20, li_21, li_22, li_23, li_24, li_25, li_26, li_27, li_28, li_29, li_30, li_31, li_32, li_33, li_34, li_35, li_36, li_37, li_38, li_39, li_40, li_41, li_42, li_43, li_44, li_45, li_46, li_47, li_48, li_49, li_50, li_51, li_52, li_53, li_54, li_55, li_56, li_57, li_58, li_59, li_60, li_61, li_62, li_63, li_64, li_65, li_66, li_67, li_68, li_69, li_70, li_71, li_72, li_73, li_74, li_75, li_76, li_77, li_78, li_79, li_80, li_81, li_82, li_83, li_84, li_85, li_86, li_87, li_88, li_89, li_90, li_91, li_92, li_93, li_94, li_95, li_96, li_97, li_98, li_99, li_100, li_101, li_102, li_103, li_104, li_105, li_106, li_107, li_108, li_109, li_110, li_111, li_112, li_113, li_114, li_115, li_116, li_117, li_118, li_119, li_120, li_121, li_122, li_255, li_400, li_608, li_998, li_999, li_1000, li_1024, li_1103, li_2400, li_2911, li_4095, li_4096, li_5711, li_9999, li_12345, li_1000000, li_1000003, li_252645135, li_858993459, li_1431655765, wI_add, wI_mul, wI_add1, wI_1add, wI_le, eq_false (show ¬ 608 ≤ k by omega), up_ne, up_eq, up_up, i1]
    · rw [i2 j (by omega), upd_ne _ _ _ (by omega)]
    · by_cases e : j = k
      · subst e
        rw [i2 _ (by omega), upd_eq]
      · exact i3 j (by omega) h2
theorem orders_124 (hz : Sh z) {x1 x3 : Int32} {d : Nat} : ∀ (m k : Nat) (g : Nat → Int32), k + m = 608 →
    ∃ g', Ev (d + 1) mM_orders 124 [(0, .ref 58), (1, .int x1), (3, .int x3), (4, .int (wI k))] [] (mkM (up F 71 g) z) = Ev (d + 1) mM_orders 124 [(0, .ref 58), (1, .int x1), (3, .int x3), (4, .int (wI 608))] [] (mkM (up F 71 g') z) ∧ (∀ j, j < k → g' j = g j) ∧ ∀ j, k ≤ j → j < 608 → g' j = F 72 j := by
  intro m
  induction m with
  | zero =>
    intro k g hk
    obtain rfl : k = 608 := by omega
    exact ⟨g, rfl, fun _ _ => rfl, fun j h1 h2 => by omega⟩
  | succ m ih =>
    intro k g hk
    obtain ⟨g', i1, i2, i3⟩ := ih (k + 1) (upd g k (F 72 k)) (by omega)
    refine ⟨g', ?_, fun j hj => ?_, fun j h1 h2 => ?_⟩
    · rw [q_M_orders_124]
      simp -dsimp (disch := omega) only [↓c_58 hz, g_58_0 hz, p_58_0 hz, r_58_1 hz, r_58_2 hz, r_58_3 hz, r_58_4 hz, r_58_5 hz, g_58_6 hz, p_58_6 hz, r_58_7 hz, g_58_8 hz, p_58_8 hz, g_58_9 hz, p_58_9 hz, g_58_10 hz, p_58_10 hz, r_58_11 hz, r_58_12 hz, g_58_13 hz, p_58_13 hz, g_58_14 hz, p_58_14 hz, r_58_15 hz, r_58_16 hz, r_58_17 hz, g_58_18 hz, p_58_18 hz, g_58_19 hz, p_58_19 hz, g_58_20 hz, p_58_20 hz, g_58_21 hz, p_58_21 hz, g_58_22 hz, p_58_22 hz, g_58_23 hz, p_58_23 hz, g_58_24 hz, p_58_24 hz, g_58_25 hz, p_58_25 hz, r_58_26 hz, g_58_27 hz, p_58_27 hz, g_58_28 hz, p_58_28 hz, r_58_29 hz, r_58_30 hz, g_58_31 hz, p_58_31 hz, r_58_32 hz, r_58_33 hz, r_58_34 hz, r_58_35 hz, r_58_36 hz, r_58_37 hz, g_58_38 hz, p_58_38 hz, r_58_39 hz, r_58_40 hz, r_58_41 hz, g_58_42 hz, p_58_42 hz, g_58_43 hz, p_58_43 hz, g_58_44 hz, p_58_44 hz, g_58_45 hz, p_58_45 hz, g_58_46 hz, p_58_46 hz, g_58_47 hz, p_58_47 hz, g_58_48 hz, p_58_48 hz, r_58_49 hz, r_58_50 hz, r_58_51 hz, r_58_52 hz, g_58_53 hz, p_58_53 hz, g_58_54 hz, p_58_54 hz, g_58_55 hz, p_58_55 hz, l_59 hz, s_59 hz, n_59 hz, l_60 hz, s_60 hz, n_60 hz, l_61 hz, s_61 hz, n_61 hz, l_62 hz, s_62 hz, n_62 hz, l_63 hz, s_63 hz, n_63 hz, l_64 hz, s_64 hz, n_64 hz, l_65 hz, s_65 hz, n_65 hz, l_66 hz, s_66 hz, n_66 hz, l_67 hz, s_67 hz, n_67 hz, l_68 hz, s_68 hz, n_68 hz, l_69 hz, s_69 hz, n_69 hz, l_70 hz, s_70 hz, n_70 hz, l_71 hz, s_71 hz, n_71 hz, l_72 hz, s_72 hz, n_72 hz, l_73 hz, s_73 hz, n_73 hz, l_74 hz, s_74 hz, n_74 hz, l_75 hz, s_75 hz, n_75 hz, l_76 hz, s_76 hz, n_76 hz, l_77 hz, s_77 hz, n_77 hz, l_78 hz, s_78 hz, n_78 hz, l_79 hz, s_79 hz, n_79 hz, l_80 hz, s_80 hz, n_80 hz, l_81 hz, s_81 hz, n_81 hz, l_82 hz, s_82 hz, l_83 hz, s_83 hz, n_83 hz, l_84 hz, s_84 hz, n_84 hz, l_85 hz, s_85 hz, n_85 hz, hO_s, hI_s, hL_s, hQ_s, hQ_n, hR_s, hV_s, hN_n, hN_s, cond_true, lI_0, lI_1, sI_0, sI_1, lL_0, lL_1, ↓reduceIte, not_true_eq_false, not_false_eq_true, Nat.reduceEqDiff, Nat.reduceAdd, Nat.reduceMul, Nat.reduceSub, Nat.reduceLeDiff, Nat.reduceLT, li_2, li_3, li_4, li_5, li_6, li_7, li_8, li_9, li_10, li_11, li_12, li_13, li_14, li_15, li_16, li_17, li_18, li_19, li_20, li_21, li_22, li_23, li_24, li_25, li_26, li_27, li_28, li_29, li_30, li_31, li_32, li_33, li_34, li_35, li_36, li_37, li_38, li_39, li_40, li_41, li_42, li_43, li_44, li_45, li_46, li_47, li_48, li_49, li_50, li_51, li_52, li_53, li_54, li_55, li_56, li_57, li_58, li_59, li_60, li_61, li_62, li_63, li_64, li_65, li_66, li_67, li_68, li_69, li_70, li_71, li_72, li_73, li_74, li_75, li_76, li_77, li_78, li_79, li_80, li_81, li_82, li_83, li_84, li_85, li_86, li_87, li_88, li_89, li_90, li_91, li_92, li_93, li_94, li_95, li_96, li_97, li_98, li_99, li_100, li_101, li_102, li_103, li_104, li_105, li_106, li_107, li_108, li_109, li_110, li_111, li_112, li_113, li_114, li_115, li_116, li_117, li_118, li_119, li_120, li_121, li_122, li_255, li_400, li_608, li_998, li_999, li_1000, li_1024, li_1103, li_2400, li_2911, li_4095, li_4096, li_5711, li_9999, li_12345, li_1000000, li_1000003, li_252645135, li_858993459, li_1431655765, wI_add, wI_mul, wI_add1, wI_1add, wI_le, eq_false (show ¬ 608 ≤ k by omega), up_ne, up_eq, up_up, i1]
    · rw [i2 j (by omega), upd_ne _ _ _ (by omega)]
    · by_cases e : j = k
      · subst e
        rw [i2 _ (by omega), upd_eq]
      · exact i3 j (by omega) h2
/-- an order can't be: all is as it was -/
theorem m_back (hz : Sh z) (h : IM f N U Z T L c) (hs : MSV f N0 U0) (hj : ∀ j, 37 ≤ j → N j = N0 j) (hv : VK N0) (hl : LL N0) {i : Nat} {d : Nat} (hd : 1 ≤ d) :
    ∃ f1 f', EC d mM_takesBack [.ref 58, .int (wI 7)] (mkM f z) = some (none, mkM f1 z) ∧ Ev (d + 1) mM_orders 124 [(0, .ref 58), (1, .int (wI U0.1)), (3, .int (wI i)), (4, .int 0)] [] (mkM f1 z) = some (some (.int (-3)), mkM f' z) ∧ IM f' N0 U0 Z T L (refC (upd c 7 (wI i)) 3) ∧ QM f f' := by
  obtain ⟨s1, s2, s3⟩ := hs
  obtain ⟨g, i1, i2⟩ := m_takesBack (X := N0) hz h.1.1 (k := 7) (by decide) s1 hj hd
  obtain ⟨g', j1, -, j3⟩ := orders_124 (F := up f 60 g) (x1 := wI U0.1) (x3 := wI i) hz (d := d) 608 0 (up f 60 g 71) rfl
  rw [up_same] at j1
  obtain ⟨f3, ef3⟩ : ∃ f3, f3 = up (up (up f 60 g) 71 g') 58 (upd (upd (f 58) 31 (wI U0.1)) 43 (wI i)) := ⟨_, rfl⟩
  have n3 : ∀ a, a ≠ 58 → a ≠ 60 → a ≠ 71 → f3 a = f a := fun a a1 a2 a3 => by rw [ef3, up_ne _ _ _ a1, up_ne _ _ _ a3, up_ne _ _ _ a2]
  have k3 : ∀ k, k ≠ 31 → k ≠ 43 → f3 58 k = f 58 k := fun k a1 a2 => by rw [ef3, up_eq, upd_ne _ _ _ a2, upd_ne _ _ _ a1]
  have hM : IM f3 N0 U0 Z T L (upd c 7 (wI i)) := by
    refine IM_mk h ⟨MK_60 i2 (by rw [ef3, up_ne _ _ _ (by decide), up_ne _ _ _ (by decide)]), hv, hl, by rw [k3 24 (by decide) (by decide)]; exact h.1.2.2.2⟩ ⟨s2, by rw [ef3, up_eq, upd_ne _ _ _ (by decide), upd_eq], fun a ha => ?_⟩ (n3 _ (by decide) (by decide) (by decide)) (n3 _ (by decide) (by decide) (by decide)) (n3 _ (by decide) (by decide) (by decide)) (k3 _ (by decide) (by decide)) (k3 _ (by decide) (by decide)) (n3 _ (by decide) (by decide) (by decide)) (n3 _ (by decide) (by decide) (by decide)) (n3 _ (by decide) (by decide) (by decide)) (k3 _ (by decide) (by decide)) (n3 _ (by decide) (by decide) (by decide)) ?_
    · have e71 : ∀ j, j < 608 → f3 71 j = f 72 j := fun j hj => by rw [ef3, up_ne _ _ _ (by decide), up_eq, j3 j (by omega) hj, up_ne _ _ _ (by decide)]
      exact ⟨fun k hk => by rw [e71 _ (by omega)]; exact (s3 a ha).1 k hk, by rw [e71 _ (by omega)]; exact (s3 a ha).2⟩
    · have hx := h.2.2.2.2.2
      have e43 : f3 58 43 = wI i := by rw [ef3, up_eq, upd_eq]
      unfold CM at *
      obtain ⟨x0, x1, x2, x3, x4, x5, x6, x7, x8⟩ := hx
      rw [e43, n3 59 (by decide) (by decide) (by decide), k3 0 (by decide) (by decide), k3 14 (by decide) (by decide), k3 6 (by decide) (by decide)]
      simp (disch := decide) only [upd_ne, upd_eq, x0, x1, x2, x3, x4, x5, x6, x7, x8, and_self]
  obtain ⟨f', k1, k2, k4⟩ := m_refuses hz hM (e := 3) (by omega) hd
  refine ⟨up f 60 g, f', i1, ?_, k2, fun a ha => by rw [k4 a ha, n3 a (by omega) (by omega) (by omega)]⟩
  rw [show (0 : Int32) = wI 0 from rfl, j1, q_M_orders_124]
  rw [ef3] at k1
  simp -dsimp (disch := omega) only [↓c_58 hz, g_58_0 hz, p_58_0 hz, r_58_1 hz, r_58_2 hz, r_58_3 hz, r_58_4 hz, r_58_5 hz, g_58_6 hz, p_58_6 hz, r_58_7 hz, g_58_8 hz, p_58_8 hz, g_58_9 hz, p_58_9 hz, g_58_10 hz, p_58_10 hz, r_58_11 hz, r_58_12 hz, g_58_13 hz, p_58_13 hz, g_58_14 hz, p_58_14 hz, r_58_15 hz, r_58_16 hz, r_58_17 hz, g_58_18 hz, p_58_18 hz, g_58_19 hz, p_58_19 hz, g_58_20 hz, p_58_20 hz, g_58_21 hz, p_58_21 hz, g_58_22 hz, p_58_22 hz, g_58_23 hz, p_58_23 hz, g_58_24 hz, p_58_24 hz, g_58_25 hz, p_58_25 hz, r_58_26 hz, g_58_27 hz, p_58_27 hz, g_58_28 hz, p_58_28 hz, r_58_29 hz, r_58_30 hz, g_58_31 hz, p_58_31 hz, r_58_32 hz, r_58_33 hz, r_58_34 hz, r_58_35 hz, r_58_36 hz, r_58_37 hz, g_58_38 hz, p_58_38 hz, r_58_39 hz, r_58_40 hz, r_58_41 hz, g_58_42 hz, p_58_42 hz, g_58_43 hz, p_58_43 hz, g_58_44 hz, p_58_44 hz, g_58_45 hz, p_58_45 hz, g_58_46 hz, p_58_46 hz, g_58_47 hz, p_58_47 hz, g_58_48 hz, p_58_48 hz, r_58_49 hz, r_58_50 hz, r_58_51 hz, r_58_52 hz, g_58_53 hz, p_58_53 hz, g_58_54 hz, p_58_54 hz, g_58_55 hz, p_58_55 hz, l_59 hz, s_59 hz, n_59 hz, l_60 hz, s_60 hz, n_60 hz, l_61 hz, s_61 hz, n_61 hz, l_62 hz, s_62 hz, n_62 hz, l_63 hz, s_63 hz, n_63 hz, l_64 hz, s_64 hz, n_64 hz, l_65 hz, s_65 hz, n_65 hz, l_66 hz, s_66 hz, n_66 hz, l_67 hz, s_67 hz, n_67 hz, l_68 hz, s_68 hz, n_68 hz, l_69 hz, s_69 hz, n_69 hz, l_70 hz, s_70 hz, n_70 hz, l_71 hz, s_71 hz, n_71 hz, l_72 hz, s_72 hz, n_72 hz, l_73 hz, s_73 hz, n_73 hz, l_74 hz, s_74 hz, n_74 hz, l_75 hz, s_75 hz, n_75 hz, l_76 hz, s_76 hz, n_76 hz, l_77 hz, s_77 hz, n_77 hz, l_78 hz, s_78 hz, n_78 hz, l_79 hz, s_79 hz, n_79 hz, l_80 hz, s_80 hz, n_80 hz, l_81 hz, s_81 hz, n_81 hz, l_82 hz, s_82 hz, l_83 hz, s_83 hz, n_83 hz, l_84 hz, s_84 hz, n_84 hz, l_85 hz, s_85 hz, n_85 hz, hO_s, hI_s, hL_s, hQ_s, hQ_n, hR_s, hV_s, hN_n, hN_s, cond_true, lI_0, lI_1, sI_0, sI_1, lL_0, lL_1, ↓reduceIte, not_true_eq_false, not_false_eq_true, Nat.reduceEqDiff, Nat.reduceAdd, Nat.reduceMul, Nat.reduceSub, Nat.reduceLeDiff, Nat.reduceLT, li_2, li_3, li_4, li_5, li_6, li_7, li_8, li_9, li_10, li_11, li_12, li_13, li_14, li_15, li_16, li_17, li_18, li_19, li_20, li_21, li_22, li_23, li_24, li_25, li_26, li_27, li_28, li_29, li_30, li_31, li_32, li_33, li_34, li_35, li_36, li_37, li_38, li_39, li_40, li_41, li_42, li_43, li_44, li_45, li_46, li_47, li_48, li_49, li_50, li_51, li_52, li_53, li_54, li_55, li_56, li_57, li_58, li_59, li_60, li_61, li_62, li_63, li_64, li_65, li_66, li_67, li_68, li_69, li_70, li_71, li_72, li_73, li_74, li_75, li_76, li_77, li_78, li_79, li_80, li_81, li_82, li_83, li_84, li_85, li_86, li_87, li_88, li_89, li_90, li_91, li_92, li_93, li_94, li_95, li_96, li_97, li_98, li_99, li_100, li_101, li_102, li_103, li_104, li_105, li_106, li_107, li_108, li_109, li_110, li_111, li_112, li_113, li_114, li_115, li_116, li_117, li_118, li_119, li_120, li_121, li_122, li_255, li_400, li_608, li_998, li_999, li_1000, li_1024, li_1103, li_2400, li_2911, li_4095, li_4096, li_5711, li_9999, li_12345, li_1000000, li_1000003, li_252645135, li_858993459, li_1431655765, wI_add, wI_mul, wI_add1, wI_1add, wI_le, up_ne, up_eq, up_up, k1]
theorem m_stop (hz : Sh z) (h : RO f W Z T L c) {y : Nat} (h44 : f 58 44 = wI y) (hy : A + n ≤ y) (hy2 : y < 100000) {x1 x3 : Int32} {d : Nat} (hd : 1 ≤ d) : ∃ f', Ev (d + 1) mM_orders 96 [(0, .ref 58), (1, .int x1), (2, .int (wI (A + n))), (3, .int x3)] [] (mkM f z) = some (some (.int (jI W.2.2.1)), mkM f' z) ∧ IM f' W.1 W.2.1 Z T L (okC c) ∧ QM f f' := by
  obtain ⟨f', k1, k2, k3⟩ := m_good hz h.1 hd (jI W.2.2.1)
  refine ⟨f', ?_, k2, k3⟩
  rw [q_M_orders_96]
  simp -dsimp (disch := omega) only [↓c_58 hz, g_58_0 hz, p_58_0 hz, r_58_1 hz, r_58_2 hz, r_58_3 hz, r_58_4 hz, r_58_5 hz, g_58_6 hz, p_58_6 hz, r_58_7 hz, g_58_8 hz, p_58_8 hz, g_58_9 hz, p_58_9 hz, g_58_10 hz, p_58_10 hz, r_58_11 hz, r_58_12 hz, g_58_13 hz, p_58_13 hz, g_58_14 hz, p_58_14 hz, r_58_15 hz, r_58_16 hz, r_58_17 hz, g_58_18 hz, p_58_18 hz, g_58_19 hz, p_58_19 hz, g_58_20 hz, p_58_20 hz, g_58_21 hz, p_58_21 hz, g_58_22 hz, p_58_22 hz, g_58_23 hz, p_58_23 hz, g_58_24 hz, p_58_24 hz, g_58_25 hz, p_58_25 hz, r_58_26 hz, g_58_27 hz, p_58_27 hz, g_58_28 hz, p_58_28 hz, r_58_29 hz, r_58_30 hz, g_58_31 hz, p_58_31 hz, r_58_32 hz, r_58_33 hz, r_58_34 hz, r_58_35 hz, r_58_36 hz, r_58_37 hz, g_58_38 hz, p_58_38 hz, r_58_39 hz, r_58_40 hz, r_58_41 hz, g_58_42 hz, p_58_42 hz, g_58_43 hz, p_58_43 hz, g_58_44 hz, p_58_44 hz, g_58_45 hz, p_58_45 hz, g_58_46 hz, p_58_46 hz, g_58_47 hz, p_58_47 hz, g_58_48 hz, p_58_48 hz, r_58_49 hz, r_58_50 hz, r_58_51 hz, r_58_52 hz, g_58_53 hz, p_58_53 hz, g_58_54 hz, p_58_54 hz, g_58_55 hz, p_58_55 hz, l_59 hz, s_59 hz, n_59 hz, l_60 hz, s_60 hz, n_60 hz, l_61 hz, s_61 hz, n_61 hz, l_62 hz, s_62 hz, n_62 hz, l_63 hz, s_63 hz, n_63 hz, l_64 hz, s_64 hz, n_64 hz, l_65 hz, s_65 hz, n_65 hz, l_66 hz, s_66 hz, n_66 hz, l_67 hz, s_67 hz, n_67 hz, l_68 hz, s_68 hz, n_68 hz, l_69 hz, s_69 hz, n_69 hz, l_70 hz, s_70 hz, n_70 hz, l_71 hz, s_71 hz, n_71 hz, l_72 hz, s_72 hz, n_72 hz, l_73 hz, s_73 hz, n_73 hz, l_74 hz, s_74 hz, n_74 hz, l_75 hz, s_75 hz, n_75 hz, l_76 hz, s_76 hz, n_76 hz, l_77 hz, s_77 hz, n_77 hz, l_78 hz, s_78 hz, n_78 hz, l_79 hz, s_79 hz, n_79 hz, l_80 hz, s_80 hz, n_80 hz, l_81 hz, s_81 hz, n_81 hz, l_82 hz, s_82 hz, l_83 hz, s_83 hz, n_83 hz, l_84 hz, s_84 hz, n_84 hz, l_85 hz, s_85 hz, n_85 hz, hO_s, hI_s, hL_s, hQ_s, hQ_n, hR_s, hV_s, hN_n, hN_s, cond_true, lI_0, lI_1, sI_0, sI_1, lL_0, lL_1, ↓reduceIte, not_true_eq_false, not_false_eq_true, Nat.reduceEqDiff, Nat.reduceAdd, Nat.reduceMul, Nat.reduceSub, Nat.reduceLeDiff, Nat.reduceLT, li_2, li_3, li_4, li_5, li_6, li_7, li_8, li_9, li_10, li_11, li_12, li_13, li_14, li_15, li_16, li_17, li_18, li_19, li_20, li_21, li_22, li_23, li_24, li_25, li_26, li_27, li_28, li_29, li_30, li_31, li_32, li_33, li_34, li_35, li_36, li_37, li_38, li_39, li_40, li_41, li_42, li_43, li_44, li_45, li_46, li_47, li_48, li_49, li_50, li_51, li_52, li_53, li_54, li_55, li_56, li_57, li_58, li_59, li_60, li_61, li_62, li_63, li_64, li_65, li_66, li_67, li_68, li_69, li_70, li_71, li_72, li_73, li_74, li_75, li_76, li_77, li_78, li_79, li_80, li_81, li_82, li_83, li_84, li_85, li_86, li_87, li_88, li_89, li_90, li_91, li_92, li_93, li_94, li_95, li_96, li_97, li_98, li_99, li_100, li_101, li_102, li_103, li_104, li_105, li_106, li_107, li_108, li_109, li_110, li_111, li_112, li_113, li_114, li_115, li_116, li_117, li_118, li_119, li_120, li_121, li_122, li_255, li_400, li_608, li_998, li_999, li_1000, li_1024, li_1103, li_2400, li_2911, li_4095, li_4096, li_5711, li_9999, li_12345, li_1000000, li_1000003, li_252645135, li_858993459, li_1431655765, wI_add, wI_mul, wI_add1, wI_1add, h44, wI_le, eq_true hy, h.2.1, k1]
theorem m_run (hz : Sh z) (hA : A + n ≤ 2800) (hA0 : 0 < A) (hn4 : n ≤ 400) (hv : VK N0) (hl : LL N0) {d : Nat} (hd : 52 ≤ d) : ∀ (m cc t l : Nat) (cls : List CL) (W : WS) (f : Nat → Nat → Int32) (i : Nat) (b : Int), pText C (pOrdC C V) n m cc t l = .inr cls → RO f W Z T L c → WB W b → b + 20 * cls.length ≤ 10000 → f 58 44 = wI (A + t) → CV W A n C V → MSV f N0 U0 → (∀ j, 37 ≤ j → W.1 j = N0 j) → i + cls.length ≤ 12 →
    (∀ W', oRun i cls W = .inr W' → ∃ f', Ev (d + 1) mM_orders 96 [(0, .ref 58), (1, .int (wI U0.1)), (2, .int (wI (A + n))), (3, .int (wI i))] [] (mkM f z) = some (some (.int (jI W'.2.2.1)), mkM f' z) ∧ IM f' W'.1 W'.2.1 Z T L (okC c) ∧ QM f f') ∧
    (∀ k, oRun i cls W = .inl k → ∃ f', Ev (d + 1) mM_orders 96 [(0, .ref 58), (1, .int (wI U0.1)), (2, .int (wI (A + n))), (3, .int (wI i))] [] (mkM f z) = some (some (.int (-3)), mkM f' z) ∧ IM f' N0 U0 Z T L (refC (upd c 7 (wI k)) 3) ∧ QM f f') := by
  intro m
  induction m with
  | zero => intro cc t l cls W f i b h; cases h
  | succ m ih =>
    intro cc t l cls W f i b h hR hw hb h44 hcv hs hj hi
    have e1 : ((1 : Int32) = 0) = False := eq_false (by decide)
    rw [pText] at h
    cases e2 : pOrdC C V cc t l with
    | inl x => rw [e2] at h; cases h
    | inr q =>
      rw [e2] at h
      dsimp only at h
      obtain ⟨o1, o2, o3, o4⟩ := ok_ordC _ _ _ _ e2
      have cin : ∀ j, C j ≠ 0 → j < n := fun j hj => by
        rw [← hcv.1] at hj
        exact cdN_lt hj
      have htn : t < n := cin t (o4 t (Nat.le_refl _) o1)
      have hq1 : q.1 ≤ n := by
        rcases Nat.lt_or_ge n q.1 with h | h
        · have := cin n (o4 n (by omega) h); omega
        · exact h
      -- what is left of the text
      obtain ⟨qs, hcls, hrest⟩ : ∃ qs, cls = q :: qs ∧ ((qs = [] ∧ q.1 = n) ∨ pText C (pOrdC C V) n m (cc + q.2.2.2.1.length) (q.1 + 1) q.2.1 = .inr qs) := by
        split at h
        · rename_i hqn
          cases h
          exact ⟨[], rfl, Or.inl ⟨rfl, hqn⟩⟩
        · split at h
          · cases e3 : pText C (pOrdC C V) n m (cc + q.2.2.2.1.length) (q.1 + 1) q.2.1 with
            | inl x => rw [e3] at h; cases h
            | inr qs =>
              rw [e3] at h
              cases h
              exact ⟨qs, rfl, Or.inr rfl⟩
          · cases h
      subst hcls
      rw [List.length_cons] at hb hi
      obtain ⟨P, Q⟩ := m_runs hz hA hA0 hn4 htn e2 hR hw (by omega) h44 hcv (d := d) (by omega)
      have hRun : oRun i (q :: qs) W = match oTimes q (q.2.2.1.getD 1 0) W with
        | none => .inl i
        | some W' => oRun (i + 1) qs W' := rfl
      rw [hRun]
      have h6 : ¬ A + n ≤ A + t := by omega
      cases e : oTimes q (q.2.2.1.getD 1 0) W with
      | none =>
        obtain ⟨f1, W1, y1, y2, y3, y4⟩ := Q e
        obtain ⟨f2, f', k1, k2, k3, k4⟩ := m_back hz y2.1 (MSV_OG hs y3) (fun j hj' => by rw [y4 j hj', hj j hj']) hv hl (i := i) (d := d) (by omega)
        refine ⟨fun W' e' => (by cases e'), fun k e' => ?_⟩
        cases e'
        refine ⟨f', ?_, k3, (OG_QM y3).tr k4⟩
        rw [q_M_orders_96]
        simp -dsimp (disch := omega) only [↓c_58 hz, g_58_0 hz, p_58_0 hz, r_58_1 hz, r_58_2 hz, r_58_3 hz, r_58_4 hz, r_58_5 hz, g_58_6 hz, p_58_6 hz, r_58_7 hz, g_58_8 hz, p_58_8 hz, g_58_9 hz, p_58_9 hz, g_58_10 hz, p_58_10 hz, r_58_11 hz, r_58_12 hz, g_58_13 hz, p_58_13 hz, g_58_14 hz, p_58_14 hz, r_58_15 hz, r_58_16 hz, r_58_17 hz, g_58_18 hz, p_58_18 hz, g_58_19 hz, p_58_19 hz, g_58_20 hz, p_58_20 hz, g_58_21 hz, p_58_21 hz, g_58_22 hz, p_58_22 hz, g_58_23 hz, p_58_23 hz, g_58_24 hz, p_58_24 hz, g_58_25 hz, p_58_25 hz, r_58_26 hz, g_58_27 hz, p_58_27 hz, g_58_28 hz, p_58_28 hz, r_58_29 hz, r_58_30 hz, g_58_31 hz, p_58_31 hz, r_58_32 hz, r_58_33 hz, r_58_34 hz, r_58_35 hz, r_58_36 hz, r_58_37 hz, g_58_38 hz, p_58_38 hz, r_58_39 hz, r_58_40 hz, r_58_41 hz, g_58_42 hz, p_58_42 hz, g_58_43 hz, p_58_43 hz, g_58_44 hz, p_58_44 hz, g_58_45 hz, p_58_45 hz, g_58_46 hz, p_58_46 hz, g_58_47 hz, p_58_47 hz, g_58_48 hz, p_58_48 hz, r_58_49 hz, r_58_50 hz, r_58_51 hz, r_58_52 hz, g_58_53 hz, p_58_53 hz, g_58_54 hz, p_58_54 hz, g_58_55 hz, p_58_55 hz, l_59 hz, s_59 hz, n_59 hz, l_60 hz, s_60 hz, n_60 hz, l_61 hz, s_61 hz, n_61 hz, l_62 hz, s_62 hz, n_62 hz, l_63 hz, s_63 hz, n_63 hz, l_64 hz, s_64 hz, n_64 hz, l_65 hz, s_65 hz, n_65 hz, l_66 hz, s_66 hz, n_66 hz, l_67 hz, s_67 hz, n_67 hz, l_68 hz, s_68 hz, n_68 hz, l_69 hz, s_69 hz, n_69 hz, l_70 hz, s_70 hz, n_70 hz, l_71 hz, s_71 hz, n_71 hz, l_72 hz, s_72 hz, n_72 hz, l_73 hz, s_73 hz, n_73 hz, l_74 hz, s_74 hz, n_74 hz, l_75 hz, s_75 hz, n_75 hz, l_76 hz, s_76 hz, n_76 hz, l_77 hz, s_77 hz, n_77 hz, l_78 hz, s_78 hz, n_78 hz, l_79 hz, s_79 hz, n_79 hz, l_80 hz, s_80 hz, n_80 hz, l_81 hz, s_81 hz, n_81 hz, l_82 hz, s_82 hz, l_83 hz, s_83 hz, n_83 hz, l_84 hz, s_84 hz, n_84 hz, l_85 hz, s_85 hz, n_85 hz, hO_s, hI_s, hL_s, hQ_s, hQ_n, hR_s, hV_s, hN_n, hN_s, cond_true, lI_0, lI_1, sI_0, sI_1, lL_0, lL_1, ↓reduceIte, not_true_eq_false, not_false_eq_true, Nat.reduceEqDiff, Nat.reduceAdd, Nat.reduceMul, Nat.reduceSub, Nat.reduceLeDiff, Nat.reduceLT, li_2, li_3, li_4, li_5, li_6, li_7, li_8, li_9, li_10, li_11, li_12, li_13, li_14, li_15, li_16, li_17, li_18, li_19, li_20, li_21, li_22, li_23, li_24, li_25, li_26, li_27, li_28, li_29, li_30, li_31, li_32, li_33, li_34, li_35, li_36, li_37, li_38, li_39, li_40, li_41, li_42, li_43, li_44, li_45, li_46, li_47, li_48, li_49, li_50, li_51, li_52, li_53, li_54, li_55, li_56, li_57, li_58, li_59, li_60, li_61, li_62, li_63, li_64, li_65, li_66, li_67, li_68, li_69, li_70, li_71, li_72, li_73, li_74, li_75, li_76, li_77, li_78, li_79, li_80, li_81, li_82, li_83, li_84, li_85, li_86, li_87, li_88, li_89, li_90, li_91, li_92, li_93, li_94, li_95, li_96, li_97, li_98, li_99, li_100, li_101, li_102, li_103, li_104, li_105, li_106, li_107, li_108, li_109, li_110, li_111, li_112, li_113, li_114, li_115, li_116, li_117, li_118, li_119, li_120, li_121, li_122, li_255, li_400, li_608, li_998, li_999, li_1000, li_1024, li_1103, li_2400, li_2911, li_4095, li_4096, li_5711, li_9999, li_12345, li_1000000, li_1000003, li_252645135, li_858993459, li_1431655765, wI_add, wI_mul, wI_add1, wI_1add, h44, wI_le, h6, y1, k1, k2]
      | some W1 =>
        obtain ⟨f1, y1, y2, y3, y4, y5, y6, y7⟩ := P W1 e
        have stepQ : Ev (d + 1) mM_orders 96 [(0, .ref 58), (1, .int (wI U0.1)), (2, .int (wI (A + n))), (3, .int (wI i))] [] (mkM f z) = Ev (d + 1) mM_orders 96 [(0, .ref 58), (1, .int (wI U0.1)), (2, .int (wI (A + n))), (3, .int (wI (i + 1)))] [] (mkM f1 z) := by
          rw [q_M_orders_96]
          simp -dsimp (disch := omega) only [↓c_58 hz, g_58_0 hz, p_58_0 hz, r_58_1 hz, r_58_2 hz, r_58_3 hz, r_58_4 hz, r_58_5 hz, g_58_6 hz, p_58_6 hz, r_58_7 hz, g_58_8 hz, p_58_8 hz, g_58_9 hz, p_58_9 hz, g_58_10 hz, p_58_10 hz, r_58_11 hz, r_58_12 hz, g_58_13 hz, p_58_13 hz, g_58_14 hz, p_58_14 hz, r_58_15 hz, r_58_16 hz, r_58_17 hz, g_58_18 hz, p_58_18 hz, g_58_19 hz, p_58_19 hz, g_58_20 hz, p_58_20 hz, g_58_21 hz, p_58_21 hz, g_58_22 hz, p_58_22 hz, g_58_23 hz, p_58_23 hz, g_58_24 hz, p_58_24 hz, g_58_25 hz, p_58_25 hz, r_58_26 hz, g_58_27 hz, p_58_27 hz, g_58_28 hz, p_58_28 hz, r_58_29 hz, r_58_30 hz, g_58_31 hz, p_58_31 hz, r_58_32 hz, r_58_33 hz, r_58_34 hz, r_58_35 hz, r_58_36 hz, r_58_37 hz, g_58_38 hz, p_58_38 hz, r_58_39 hz, r_58_40 hz, r_58_41 hz, g_58_42 hz, p_58_42 hz, g_58_43 hz, p_58_43 hz, g_58_44 hz, p_58_44 hz, g_58_45 hz, p_58_45 hz, g_58_46 hz, p_58_46 hz, g_58_47 hz, p_58_47 hz, g_58_48 hz, p_58_48 hz, r_58_49 hz, r_58_50 hz, r_58_51 hz, r_58_52 hz, g_58_53 hz, p_58_53 hz, g_58_54 hz, p_58_54 hz, g_58_55 hz, p_58_55 hz, l_59 hz, s_59 hz, n_59 hz, l_60 hz, s_60 hz, n_60 hz, l_61 hz, s_61 hz, n_61 hz, l_62 hz, s_62 hz, n_62 hz, l_63 hz, s_63 hz, n_63 hz, l_64 hz, s_64 hz, n_64 hz, l_65 hz, s_65 hz, n_65 hz, l_66 hz, s_66 hz, n_66 hz, l_67 hz, s_67 hz, n_67 hz, l_68 hz, s_68 hz, n_68 hz, l_69 hz, s_69 hz, n_69 hz, l_70 hz, s_70 hz, n_70 hz, l_71 hz, s_71 hz, n_71 hz, l_72 hz, s_72 hz, n_72 hz, l_73 hz, s_73 hz, n_73 hz, l_74 hz, s_74 hz, n_74 hz, l_75 hz, s_75 hz, n_75 hz, l_76 hz, s_76 hz, n_76 hz, l_77 hz, s_77 hz, n_77 hz, l_78 hz, s_78 hz, n_78 hz, l_79 hz, s_79 hz, n_79 hz, l_80 hz, s_80 hz, n_80 hz, l_81 hz, s_81 hz, n_81 hz, l_82 hz, s_82 hz, l_83 hz, s_83 hz, n_83 hz, l_84 hz, s_84 hz, n_84 hz, l_85 hz, s_85 hz, n_85 hz, hO_s, hI_s, hL_s, hQ_s, hQ_n, hR_s, hV_s, hN_n, hN_s, cond_true, lI_0, lI_1, sI_0, sI_1, lL_0, lL_1, ↓reduceIte, not_true_eq_false, not_false_eq_true, Nat.reduceEqDiff, Nat.reduceAdd, Nat.reduceMul, Nat.reduceSub, Nat.reduceLeDiff, Nat.reduceLT, li_2, li_3, li_4, li_5, li_6, li_7, li_8, li_9, li_10, li_11, li_12, li_13, li_14, li_15, li_16, li_17, li_18, li_19, li_20, li_21, li_22, li_23, li_24, li_25, li_26, li_27, li_28, li_29, li_30, li_31, li_32, li_33, li_34, li_35, li_36, li_37, li_38, li_39, li_40, li_41, li_42, li_43, li_44, li_45, li_46, li_47, li_48, li_49, li_50, li_51, li_52, li_53, li_54, li_55, li_56, li_57, li_58, li_59, li_60, li_61, li_62, li_63, li_64, li_65, li_66, li_67, li_68, li_69, li_70, li_71, li_72, li_73, li_74, li_75, li_76, li_77, li_78, li_79, li_80, li_81, li_82, li_83, li_84, li_85, li_86, li_87, li_88, li_89, li_90, li_91, li_92, li_93, li_94, li_95, li_96, li_97, li_98, li_99, li_100, li_101, li_102, li_103, li_104, li_105, li_106, li_107, li_108, li_109, li_110, li_111, li_112, li_113, li_114, li_115, li_116, li_117, li_118, li_119, li_120, li_121, li_122, li_255, li_400, li_608, li_998, li_999, li_1000, li_1024, li_1103, li_2400, li_2911, li_4095, li_4096, li_5711, li_9999, li_12345, li_1000000, li_1000003, li_252645135, li_858993459, li_1431655765, wI_add, wI_mul, wI_add1, wI_1add, h44, wI_le, h6, y1, e1]
        rw [stepQ]
        dsimp only
        rcases hrest with ⟨rfl, hqn⟩ | hrest
        · obtain ⟨f', k1, k2, k3⟩ := m_stop (A := A) (n := n) hz y2 y5 (by omega) (by omega) (x1 := wI U0.1) (x3 := wI (i + 1)) (d := d) (by omega)
          refine ⟨fun W' e' => ?_, fun k e' => (by cases e')⟩
          cases e'
          exact ⟨f', k1, k2, (OG_QM y4).tr k3⟩
        · obtain ⟨P2, Q2⟩ := ih _ _ _ qs W1 f1 (i + 1) (b + 20) hrest y2 y3 (by omega) y5 y6 (MSV_OG hs y4) (fun j hj' => by rw [y7 j hj', hj j hj']) (by omega)
          refine ⟨fun W' e' => ?_, fun k e' => ?_⟩
          · obtain ⟨f', k1, k2, k3⟩ := P2 W' e'
            exact ⟨f', k1, k2, (OG_QM y4).tr k3⟩
          · obtain ⟨f', k1, k2, k3⟩ := Q2 k e'
            exact ⟨f', k1, k2, (OG_QM y4).tr k3⟩
end
