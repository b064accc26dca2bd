/-! ===== a chest is copied ===== -/
section
variable {z : Mem} {f F : Nat → Nat → Int32} {N : Nat → Nat} {b e : Nat}
theorem copy_L (hb : Ch z b) (he : Ch z e) (hn : b ≠ e) (hF : ∀ i, i < 6 → F (e + 12) i = 0 ∨ ∃ q hl sl, F (e + 12) i = wI q ∧ 86 ≤ q ∧ q < 2147480000 ∧ Pg z q hl sl) {d : Nat} : ∀ (m k : Nat) (g : Nat → Int32), k + m = 6 →
    ∃ g', Ev (d + 1) mChest_copyFrom 206 [(0, .ref b), (1, .ref e), (2, .int (wI k))] [] (mkM (up F (b + 12) g) z) = some (none, mkM (up F (b + 12) g') z) ∧ (∀ j, j < k → g' j = g j) ∧ ∀ j, k ≤ j → j < 6 → g' j = F (e + 12) j := by
  have hd := Ch_dis hb he hn
  intro m
  induction m with
  | zero =>
    intro k g hk
    obtain rfl : k = 6 := by omega
    refine ⟨g, ?_, fun _ _ => rfl, fun j h1 h2 => by omega⟩
    rw [q_Chest_copyFrom_206]
    simp -dsimp (disch := omega) only [↓c_C hb, g_C_0 hb, p_C_0 hb, r_C_1 hb, g_C_2 hb, p_C_2 hb, r_C_3 hb, r_C_4 hb, r_C_5 hb, r_C_6 hb, r_C_7 hb, r_C_8 hb, r_C_9 hb, g_C_10 hb, p_C_10 hb, r_C_11 hb, r_C_12 hb, r_C_13 hb, g_C_14 hb, p_C_14 hb, r_C_15 hb, g_C_16 hb, p_C_16 hb, l_C1 hb, s_C1 hb, n_C1 hb, l_C2 hb, s_C2 hb, n_C2 hb, l_C3 hb, s_C3 hb, n_C3 hb, l_C4 hb, s_C4 hb, n_C4 hb, l_C5 hb, s_C5 hb, n_C5 hb, l_C6 hb, s_C6 hb, n_C6 hb, l_C7 hb, s_C7 hb, n_C7 hb, l_C8 hb, s_C8 hb, n_C8 hb, l_C9 hb, s_C9 hb, n_C9 hb, l_C10 hb, s_C10 hb, n_C10 hb, l_C11 hb, s_C11 hb, n_C11 hb, l_C12 hb, hO_s, hI_s, hL_s, hQ_s, hQ_n, hR_s, hV_s, hN_n, hN_s, cond_true, lI_0, lI_1, sI_0, sI_1, lL_0, lL_1, ↓reduceIte, not_true_eq_false, not_false_eq_true, Nat.reduceEqDiff, Nat.reduceAdd, Nat.reduceMul, Nat.reduceSub, Nat.reduceLeDiff, Nat.reduceLT, li_2, li_3, li_4, li_5, li_6, li_7, li_8, li_9, li_10, li_11, li_12, li_13, li_14, li_15, li_16, li_17, li_18, li_19, li_20, li_21, li_22, li_23, li_24, li_25, li_26, li_27, li_28, li_29, li_30, li_31, li_32, li_33, li_34, li_35, li_36, li_37, li_38, li_39, li_40, li_41, li_42, li_43, li_44, li_45, li_46, li_47, li_48, li_49, li_50, li_51, li_52, li_53, li_54, li_55, li_56, li_57, li_58, li_59, li_60, li_61, li_62, li_63, li_64, li_65, li_66, li_67, li_68, li_69, li_70, li_71, li_72, li_73, li_74, li_75, li_76, li_77, li_78, li_79, li_80, li_81, li_82, li_83, li_84, li_85, li_86, li_87, li_88, li_89, li_90, li_91, li_92, li_93, li_94, li_95, li_96, li_97, li_98, li_99, li_100, li_101, li_102, li_103, li_104, li_105, li_106, li_107, li_108, li_109, li_110, li_111, li_112, li_113, li_114, li_115, li_116, li_117, li_118, li_119, li_120, li_121, li_122, li_255, li_400, li_608, li_998, li_999, li_1000, li_1024, li_1103, li_2400, li_2911, li_4095, li_4096, li_5711, li_9999, li_12345, li_1000000, li_1000003, li_252645135, li_858993459, li_1431655765, wI_add, wI_mul, wI_add1, wI_1add, wI_le]
  | succ m ih =>
    intro k g hk
    obtain ⟨g', i1, i2, i3⟩ := ih (k + 1) (upd g k (F (e + 12) k)) (by omega)
    refine ⟨g', ?_, fun j hj => ?_, fun j h1 h2 => ?_⟩
    · rw [q_Chest_copyFrom_206]
      rcases hF k (by omega) with h0 | ⟨q, hl, sl, h1, h2, h3, h4⟩
      · rw [h0] at i1
        have s1 := s_C12 hb (up F (b + 12) g) (k := k) (x := none) (v := 0) rfl (fun y hy => by cases hy) (by omega)
        simp -dsimp (disch := omega) only [↓c_C hb, g_C_0 hb, p_C_0 hb, r_C_1 hb, g_C_2 hb, p_C_2 hb, r_C_3 hb, r_C_4 hb, r_C_5 hb, r_C_6 hb, r_C_7 hb, r_C_8 hb, r_C_9 hb, g_C_10 hb, p_C_10 hb, r_C_11 hb, r_C_12 hb, r_C_13 hb, g_C_14 hb, p_C_14 hb, r_C_15 hb, g_C_16 hb, p_C_16 hb, l_C1 hb, s_C1 hb, n_C1 hb, l_C2 hb, s_C2 hb, n_C2 hb, l_C3 hb, s_C3 hb, n_C3 hb, l_C4 hb, s_C4 hb, n_C4 hb, l_C5 hb, s_C5 hb, n_C5 hb, l_C6 hb, s_C6 hb, n_C6 hb, l_C7 hb, s_C7 hb, n_C7 hb, l_C8 hb, s_C8 hb, n_C8 hb, l_C9 hb, s_C9 hb, n_C9 hb, l_C10 hb, s_C10 hb, n_C10 hb, l_C11 hb, s_C11 hb, n_C11 hb, l_C12 hb, hO_s, hI_s, hL_s, hQ_s, hQ_n, hR_s, hV_s, hN_n, hN_s, cond_true, lI_0, lI_1, sI_0, sI_1, lL_0, lL_1, ↓reduceIte, not_true_eq_false, not_false_eq_true, Nat.reduceEqDiff, Nat.reduceAdd, Nat.reduceMul, Nat.reduceSub, Nat.reduceLeDiff, Nat.reduceLT, li_2, li_3, li_4, li_5, li_6, li_7, li_8, li_9, li_10, li_11, li_12, li_13, li_14, li_15, li_16, li_17, li_18, li_19, li_20, li_21, li_22, li_23, li_24, li_25, li_26, li_27, li_28, li_29, li_30, li_31, li_32, li_33, li_34, li_35, li_36, li_37, li_38, li_39, li_40, li_41, li_42, li_43, li_44, li_45, li_46, li_47, li_48, li_49, li_50, li_51, li_52, li_53, li_54, li_55, li_56, li_57, li_58, li_59, li_60, li_61, li_62, li_63, li_64, li_65, li_66, li_67, li_68, li_69, li_70, li_71, li_72, li_73, li_74, li_75, li_76, li_77, li_78, li_79, li_80, li_81, li_82, li_83, li_84, li_85, li_86, li_87, li_88, li_89, li_90, li_91, li_92, li_93, li_94, li_95, li_96, li_97, li_98, li_99, li_100, li_101, li_102, li_103, li_104, li_105, li_106, li_107, li_108, li_109, li_110, li_111, li_112, li_113, li_114, li_115, li_116, li_117, li_118, li_119, li_120, li_121, li_122, li_255, li_400, li_608, li_998, li_999, li_1000, li_1024, li_1103, li_2400, li_2911, li_4095, li_4096, li_5711, li_9999, li_12345, li_1000000, li_1000003, li_252645135, li_858993459, li_1431655765, wI_add, wI_mul, wI_add1, wI_1add, r_C_15 he, l_C12 he, wI_le, eq_false (show ¬ 6 ≤ k by omega), up_ne, h0, rfo_0, s1, up_eq, up_up, i1]
      · rw [h1] at i1
        have s1 := s_C12 hb (up F (b + 12) g) (k := k) (x := some q) (v := wI q) (rfo_w (by omega) (by omega)) (fun y hy => by cases hy; exact cc_Q h4 _) (by omega)
        simp -dsimp (disch := omega) only [↓c_C hb, g_C_0 hb, p_C_0 hb, r_C_1 hb, g_C_2 hb, p_C_2 hb, r_C_3 hb, r_C_4 hb, r_C_5 hb, r_C_6 hb, r_C_7 hb, r_C_8 hb, r_C_9 hb, g_C_10 hb, p_C_10 hb, r_C_11 hb, r_C_12 hb, r_C_13 hb, g_C_14 hb, p_C_14 hb, r_C_15 hb, g_C_16 hb, p_C_16 hb, l_C1 hb, s_C1 hb, n_C1 hb, l_C2 hb, s_C2 hb, n_C2 hb, l_C3 hb, s_C3 hb, n_C3 hb, l_C4 hb, s_C4 hb, n_C4 hb, l_C5 hb, s_C5 hb, n_C5 hb, l_C6 hb, s_C6 hb, n_C6 hb, l_C7 hb, s_C7 hb, n_C7 hb, l_C8 hb, s_C8 hb, n_C8 hb, l_C9 hb, s_C9 hb, n_C9 hb, l_C10 hb, s_C10 hb, n_C10 hb, l_C11 hb, s_C11 hb, n_C11 hb, l_C12 hb, hO_s, hI_s, hL_s, hQ_s, hQ_n, hR_s, hV_s, hN_n, hN_s, cond_true, lI_0, lI_1, sI_0, sI_1, lL_0, lL_1, ↓reduceIte, not_true_eq_false, not_false_eq_true, Nat.reduceEqDiff, Nat.reduceAdd, Nat.reduceMul, Nat.reduceSub, Nat.reduceLeDiff, Nat.reduceLT, li_2, li_3, li_4, li_5, li_6, li_7, li_8, li_9, li_10, li_11, li_12, li_13, li_14, li_15, li_16, li_17, li_18, li_19, li_20, li_21, li_22, li_23, li_24, li_25, li_26, li_27, li_28, li_29, li_30, li_31, li_32, li_33, li_34, li_35, li_36, li_37, li_38, li_39, li_40, li_41, li_42, li_43, li_44, li_45, li_46, li_47, li_48, li_49, li_50, li_51, li_52, li_53, li_54, li_55, li_56, li_57, li_58, li_59, li_60, li_61, li_62, li_63, li_64, li_65, li_66, li_67, li_68, li_69, li_70, li_71, li_72, li_73, li_74, li_75, li_76, li_77, li_78, li_79, li_80, li_81, li_82, li_83, li_84, li_85, li_86, li_87, li_88, li_89, li_90, li_91, li_92, li_93, li_94, li_95, li_96, li_97, li_98, li_99, li_100, li_101, li_102, li_103, li_104, li_105, li_106, li_107, li_108, li_109, li_110, li_111, li_112, li_113, li_114, li_115, li_116, li_117, li_118, li_119, li_120, li_121, li_122, li_255, li_400, li_608, li_998, li_999, li_1000, li_1024, li_1103, li_2400, li_2911, li_4095, li_4096, li_5711, li_9999, li_12345, li_1000000, li_1000003, li_252645135, li_858993459, li_1431655765, wI_add, wI_mul, wI_add1, wI_1add, r_C_15 he, l_C12 he, wI_le, eq_false (show ¬ 6 ≤ k by omega), up_ne, h1, rfo_w, s1, up_eq, up_up, i1]
    · rw [i2 j (by omega), upd_ne _ _ _ (by omega)]
    · by_cases e0 : j = k
      · subst e0
        rw [i2 _ (by omega), upd_eq]
      · exact i3 j (by omega) h2
theorem t_copyFrom (hb : Ch z b) (hk : KH f z e N) (hn : b ≠ e) {d : Nat} (hd : 1 ≤ d) : ∃ f', EC d mChest_copyFrom [.ref b, .ref e] (mkM f z) = some (none, mkM f' z) ∧ KH f' z b N ∧ ∀ a, a < b ∨ b + 12 < a → f' a = f a := by
  obtain ⟨d, rfl⟩ : ∃ e, d = e + 1 := ⟨d - 1, by omega⟩
  have he := hk.1
  have hdis := Ch_dis hb he hn
  obtain ⟨F, eF⟩ : ∃ F : Nat → Nat → Int32, F = up (up (up (up (up (up (up (up (up (up (up (up f b (upd (upd (upd (upd (upd (f b) 0 (f e 0)) 2 (f e 2)) 10 (f e 10)) 14 (f e 14)) 16 (f e 16))) (b + 1) (va_cpy (f (e + 1)) (f (b + 1)) 0 0 6)) (b + 2) (va_cpy (f (e + 2)) (f (b + 2)) 0 0 10)) (b + 3) (va_cpy (f (e + 3)) (f (b + 3)) 0 0 10)) (b + 4) (va_cpy (f (e + 4)) (f (b + 4)) 0 0 10)) (b + 5) (va_cpy (f (e + 5)) (f (b + 5)) 0 0 10)) (b + 6) (va_cpy (f (e + 6)) (f (b + 6)) 0 0 10)) (b + 7) (va_cpy (f (e + 7)) (f (b + 7)) 0 0 10)) (b + 8) (va_cpy (f (e + 8)) (f (b + 8)) 0 0 10)) (b + 9) (va_cpy (f (e + 9)) (f (b + 9)) 0 0 10)) (b + 10) (va_cpy (f (e + 10)) (f (b + 10)) 0 0 10)) (b + 11) (va_cpy (f (e + 11)) (f (b + 11)) 0 0 3) := ⟨_, rfl⟩
  have Fo : ∀ a, a < b ∨ b + 11 < a → F a = f a := fun a ha => by rw [eF]; simp (disch := omega) only [up_ne]
  have F0 : F b = upd (upd (upd (upd (upd (f b) 0 (f e 0)) 2 (f e 2)) 10 (f e 10)) 14 (f e 14)) 16 (f e 16) := by rw [eF]; simp (disch := omega) only [up_ne, up_eq]
  have Fr : ∀ j, 1 ≤ j → j ≤ 11 → ∀ k, k < (if j = 1 then 6 else if j = 11 then 3 else 10) → F (b + j) k = f (e + j) k := by
    intro j h1 h2 k hk
    rcases (show j = 1 ∨ j = 2 ∨ j = 3 ∨ j = 4 ∨ j = 5 ∨ j = 6 ∨ j = 7 ∨ j = 8 ∨ j = 9 ∨ j = 10 ∨ j = 11 by omega) with rfl | rfl | rfl | rfl | rfl | rfl | rfl | rfl | rfl | rfl | rfl <;>
    · rw [eF]
      simp (disch := omega) only [up_ne, up_eq]
      exact va_cpy_lt hk
  obtain ⟨g', i1, i2, i3⟩ := copy_L (F := F) hb he hn (fun i hi => by rw [Fo _ (by omega)]; exact hk.2.2.2.2 i hi) (d := d) 6 0 (F (b + 12)) rfl
  rw [up_same] at i1
  have Ho : ∀ a, a ≠ b + 12 → up F (b + 12) g' a = F a := fun a ha => up_ne _ _ _ ha
  refine ⟨up F (b + 12) g', ?_, ⟨hb, ?_, hk.2.2.1, ?_, ?_⟩, fun a ha => by rw [Ho a (by omega), Fo a (by omega)]⟩
  · rw [eF, show wI 0 = (0 : Int32) from rfl] at i1
    have y1 := fun f => y_C1 hb he f
    have y2 := fun f => y_C2 hb he f
    have y3 := fun f => y_C3 hb he f
    have y4 := fun f => y_C4 hb he f
    have y5 := fun f => y_C5 hb he f
    have y6 := fun f => y_C6 hb he f
    have y7 := fun f => y_C7 hb he f
    have y8 := fun f => y_C8 hb he f
    have y9 := fun f => y_C9 hb he f
    have y10 := fun f => y_C10 hb he f
    have y11 := fun f => y_C11 hb he f
    simp only [show (6 : Int32) = wI 6 from rfl, show (10 : Int32) = wI 10 from rfl, show (3 : Int32) = wI 3 from rfl] at y1 y2 y3 y4 y5 y6 y7 y8 y9 y10 y11
    rw [eF, q_Chest_copyFrom]
    simp -dsimp (disch := omega) only [↓c_C hb, g_C_0 hb, p_C_0 hb, r_C_1 hb, g_C_2 hb, p_C_2 hb, r_C_3 hb, r_C_4 hb, r_C_5 hb, r_C_6 hb, r_C_7 hb, r_C_8 hb, r_C_9 hb, g_C_10 hb, p_C_10 hb, r_C_11 hb, r_C_12 hb, r_C_13 hb, g_C_14 hb, p_C_14 hb, r_C_15 hb, g_C_16 hb, p_C_16 hb, l_C1 hb, s_C1 hb, n_C1 hb, l_C2 hb, s_C2 hb, n_C2 hb, l_C3 hb, s_C3 hb, n_C3 hb, l_C4 hb, s_C4 hb, n_C4 hb, l_C5 hb, s_C5 hb, n_C5 hb, l_C6 hb, s_C6 hb, n_C6 hb, l_C7 hb, s_C7 hb, n_C7 hb, l_C8 hb, s_C8 hb, n_C8 hb, l_C9 hb, s_C9 hb, n_C9 hb, l_C10 hb, s_C10 hb, n_C10 hb, l_C11 hb, s_C11 hb, n_C11 hb, l_C12 hb, hO_s, hI_s, hL_s, hQ_s, hQ_n, hR_s, hV_s, hN_n, hN_s, cond_true, lI_0, lI_1, sI_0, sI_1, lL_0, lL_1, ↓reduceIte, not_true_eq_false, not_false_eq_true, Nat.reduceEqDiff, Nat.reduceAdd, Nat.reduceMul, Nat.reduceSub, Nat.reduceLeDiff, Nat.reduceLT, li_2, li_3, li_4, li_5, li_6, li_7, li_8, li_9, li_10, li_11, li_12, li_13, li_14, li_15, li_16, li_17, li_18, li_19, li_20, li_21, li_22, li_23, li_24, li_25, li_26, li_27, li_28, li_29, li_30, li_31, li_32, li_33, li_34, li_35, li_36, li_37, li_38, li_39, li_40, li_41, li_42, li_43, li_44, li_45, li_46, li_47, li_48, li_49, li_50, li_51, li_52, li_53, li_54, li_55, li_56, li_57, li_58, li_59, li_60, li_61, li_62, li_63, li_64, li_65, li_66, li_67, li_68, li_69, li_70, li_71, li_72, li_73, li_74, li_75, li_76, li_77, li_78, li_79, li_80, li_81, li_82, li_83, li_84, li_85, li_86, li_87, li_88, li_89, li_90, li_91, li_92, li_93, li_94, li_95, li_96, li_97, li_98, li_99, li_100, li_101, li_102, li_103, li_104, li_105, li_106, li_107, li_108, li_109, li_110, li_111, li_112, li_113, li_114, li_115, li_116, li_117, li_118, li_119, li_120, li_121, li_122, li_255, li_400, li_608, li_998, li_999, li_1000, li_1024, li_1103, li_2400, li_2911, li_4095, li_4096, li_5711, li_9999, li_12345, li_1000000, li_1000003, li_252645135, li_858993459, li_1431655765, g_C_0 he, g_C_2 he, g_C_10 he, g_C_14 he, g_C_16 he, r_C_1 he, r_C_3 he, r_C_4 he, r_C_5 he, r_C_6 he, r_C_7 he, r_C_8 he, r_C_9 he, r_C_11 he, r_C_12 he, r_C_13 he, y1, y2, y3, y4, y5, y6, y7, y8, y9, y10, y11, up_ne, up_eq, up_up, i1]
  · have hc := hk.2.1
    obtain ⟨c99, c100, c101, c102, c103, cpu, cow, cho, csu, cgr, cki, cdu, cpa, cfg, cfs, cda, cdm, cmo⟩ := hc
    refine ⟨?_, ?_, ?_, ?_, ?_, fun j hj => ?_, fun j hj => ?_, fun j hj => ?_, fun j hj => ?_, fun j hj => ?_, fun j hj => ?_, fun j hj => ?_, fun j hj => ?_, fun j hj => ?_, fun j hj => ?_, ?_, ?_, ?_⟩
    · rw [Ho b (by omega), F0]; simp (disch := decide) only [upd_ne, upd_eq]; exact c99
    · rw [Ho b (by omega), F0]; simp (disch := decide) only [upd_ne, upd_eq]; exact c100
    · rw [Ho b (by omega), F0]; simp (disch := decide) only [upd_ne, upd_eq]; exact c101
    · rw [Ho b (by omega), F0]; simp (disch := decide) only [upd_ne, upd_eq]; exact c102
    · rw [Ho b (by omega), F0, upd_eq]; exact c103
    · rw [Ho _ (by omega), Fr 1 (by decide) (by decide) _ hj]; exact cpu j hj
    · rw [Ho _ (by omega), Fr 2 (by decide) (by decide) _ hj]; exact cow j hj
    · rw [Ho _ (by omega), Fr 3 (by decide) (by decide) _ hj]; exact cho j hj
    · rw [Ho _ (by omega), Fr 4 (by decide) (by decide) _ hj]; exact csu j hj
    · rw [Ho _ (by omega), Fr 5 (by decide) (by decide) _ hj]; exact cgr j hj
    · rw [Ho _ (by omega), Fr 6 (by decide) (by decide) _ hj]; exact cki j hj
    · rw [Ho _ (by omega), Fr 7 (by decide) (by decide) _ hj]; exact cdu j hj
    · rw [Ho _ (by omega), Fr 8 (by decide) (by decide) _ hj]; exact cpa j hj
    · rw [Ho _ (by omega), Fr 9 (by decide) (by decide) _ hj]; exact cfg j hj
    · rw [Ho _ (by omega), Fr 10 (by decide) (by decide) _ hj]; exact cfs j hj
    · rw [Ho _ (by omega), Fr 11 (by decide) (by decide) _ (by decide)]; exact cda
    · rw [Ho _ (by omega), Fr 11 (by decide) (by decide) _ (by decide)]; exact cdm
    · rw [Ho _ (by omega), Fr 11 (by decide) (by decide) _ (by decide)]; exact cmo
  · intro i hi
    have h6 := hk.2.2.1.2.2.2.2.1
    obtain ⟨q, hl, sl, cls, a1, a2, a3, a4, a5, a6⟩ := hk.2.2.2.1 i hi
    have hq := Pg_dis hb a4
    refine ⟨q, hl, sl, cls, ?_, a2, a3, a4, PT_c a5 ?_ ?_ ?_, a6⟩
    · rw [up_eq, i3 i (by omega) (by omega), Fo _ (by omega)]; exact a1
    · rw [Ho _ (by omega), Fo _ (by omega)]
    · rw [Ho _ (by omega), Fo _ (by omega)]
    · rw [Ho _ (by omega), Fo _ (by omega)]
  · intro i hi
    rw [up_eq, i3 i (by omega) hi, Fo _ (by omega)]
    exact hk.2.2.2.2 i hi
end
