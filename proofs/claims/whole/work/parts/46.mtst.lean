/-! ===== the reference's evaluator: TESTS of every depth ===== -/
section
variable {z : Mem} {f : Nat → Nat → Int32} {N : Nat → Nat} {A n : Nat} {o : Bool} {e : EnvT}
theorem plainOf_L (hz : Sh z) (hm : MK f N) (hv : VK N) (hg : f 58 23 = wI (A + n)) (hA : A + n ≤ 2800) {d : Nat} (hd2 : 2 ≤ d) {lv br : Bool} : ∀ (m t : Nat) (p : Bool), n ≤ t + m → A + t < 3000 →
    Ev (d + 1) mM_plainOf 2 [(0, .ref 58), (1, .int (bz (lv = true))), (2, .int (bz (p = true)))] [] (mkM (EE2 f (A + t) br) z) =
    hI (EC d mM_positiveOf [.ref 58, .int (bz (lv = true))] (mkM (EE2 f (A + (pNots (cdN N A n) m t).1) br) z)) fun i4 σ3 => if i4 = bz ((p != (pNots (cdN N A n) m t).2) = true) then some (some (.int 0), σ3) else some (some (.int 1), σ3) := by
  have hB := hv.1
  have e1 : ((1 : Int32) = 0) = False := eq_false (by decide)
  intro m
  induction m with
  | zero =>
    intro t p hn ht
    have h0 : ¬ cdN N A n t = 7 := by unfold cdN; rw [if_neg (by omega)]; decide
    rw [q_M_plainOf_2]
    simp -dsimp (disch := first | omega | exact hB _) only [↓c_58 hz, g_58_0 hz, p_58_0 hz, r_58_1 hz, r_58_2 hz, r_58_3 hz, r_58_4 hz, r_58_5 hz, g_58_6 hz, p_58_6 hz, r_58_7 hz, g_58_8 hz, p_58_8 hz, g_58_9 hz, p_58_9 hz, g_58_10 hz, p_58_10 hz, r_58_11 hz, r_58_12 hz, g_58_13 hz, p_58_13 hz, g_58_14 hz, p_58_14 hz, r_58_15 hz, r_58_16 hz, r_58_17 hz, g_58_18 hz, p_58_18 hz, g_58_19 hz, p_58_19 hz, g_58_20 hz, p_58_20 hz, g_58_21 hz, p_58_21 hz, g_58_22 hz, p_58_22 hz, g_58_23 hz, p_58_23 hz, g_58_24 hz, p_58_24 hz, g_58_25 hz, p_58_25 hz, r_58_26 hz, g_58_27 hz, p_58_27 hz, g_58_28 hz, p_58_28 hz, r_58_29 hz, r_58_30 hz, g_58_31 hz, p_58_31 hz, r_58_32 hz, r_58_33 hz, r_58_34 hz, r_58_35 hz, r_58_36 hz, r_58_37 hz, g_58_38 hz, p_58_38 hz, r_58_39 hz, r_58_40 hz, r_58_41 hz, g_58_42 hz, p_58_42 hz, g_58_43 hz, p_58_43 hz, g_58_44 hz, p_58_44 hz, g_58_45 hz, p_58_45 hz, g_58_46 hz, p_58_46 hz, g_58_47 hz, p_58_47 hz, g_58_48 hz, p_58_48 hz, r_58_49 hz, r_58_50 hz, r_58_51 hz, r_58_52 hz, g_58_53 hz, p_58_53 hz, g_58_54 hz, p_58_54 hz, g_58_55 hz, p_58_55 hz, l_59 hz, s_59 hz, n_59 hz, l_60 hz, s_60 hz, n_60 hz, l_61 hz, s_61 hz, n_61 hz, l_62 hz, s_62 hz, n_62 hz, l_63 hz, s_63 hz, n_63 hz, l_64 hz, s_64 hz, n_64 hz, l_65 hz, s_65 hz, n_65 hz, l_66 hz, s_66 hz, n_66 hz, l_67 hz, s_67 hz, n_67 hz, l_68 hz, s_68 hz, n_68 hz, l_69 hz, s_69 hz, n_69 hz, l_70 hz, s_70 hz, n_70 hz, l_71 hz, s_71 hz, n_71 hz, l_72 hz, s_72 hz, n_72 hz, l_73 hz, s_73 hz, n_73 hz, l_74 hz, s_74 hz, n_74 hz, l_75 hz, s_75 hz, n_75 hz, l_76 hz, s_76 hz, n_76 hz, l_77 hz, s_77 hz, n_77 hz, l_78 hz, s_78 hz, n_78 hz, l_79 hz, s_79 hz, n_79 hz, l_80 hz, s_80 hz, n_80 hz, l_81 hz, s_81 hz, n_81 hz, l_82 hz, s_82 hz, l_83 hz, s_83 hz, n_83 hz, l_84 hz, s_84 hz, n_84 hz, l_85 hz, s_85 hz, n_85 hz, hO_s, hI_s, hL_s, hQ_s, hQ_n, hR_s, hV_s, hN_n, hN_s, cond_true, lI_0, lI_1, sI_0, sI_1, lL_0, lL_1, ↓reduceIte, not_true_eq_false, not_false_eq_true, Nat.reduceEqDiff, Nat.reduceAdd, Nat.reduceMul, Nat.reduceSub, Nat.reduceLeDiff, Nat.reduceLT, li_2, li_3, li_4, li_5, li_6, li_7, li_8, li_9, li_10, li_11, li_12, li_13, li_14, li_15, li_16, li_17, li_18, li_19, li_20, li_21, li_22, li_23, li_24, li_25, li_26, li_27, li_28, li_29, li_30, li_31, li_32, li_33, li_34, li_35, li_36, li_37, li_38, li_39, li_40, li_41, li_42, li_43, li_44, li_45, li_46, li_47, li_48, li_49, li_50, li_51, li_52, li_53, li_54, li_55, li_56, li_57, li_58, li_59, li_60, li_61, li_62, li_63, li_64, li_65, li_66, li_67, li_68, li_69, li_70, li_71, li_72, li_73, li_74, li_75, li_76, li_77, li_78, li_79, li_80, li_81, li_82, li_83, li_84, li_85, li_86, li_87, li_88, li_89, li_90, li_91, li_92, li_93, li_94, li_95, li_96, li_97, li_98, li_99, li_100, li_101, li_102, li_103, li_104, li_105, li_106, li_107, li_108, li_109, li_110, li_111, li_112, li_113, li_114, li_115, li_116, li_117, li_118, li_119, li_120, li_121, li_122, li_255, li_400, li_608, li_998, li_999, li_1000, li_1024, li_1103, li_2400, li_2911, li_4095, li_4096, li_5711, li_9999, li_12345, li_1000000, li_1000003, li_252645135, li_858993459, li_1431655765, wI_add, wI_mul, wI_add1, wI_1add, t_M_passes0 hz hm hv hg hA, h0, bz_F, eq_self, pNots]
    cases p <;> rfl
  | succ m ih =>
    intro t p hn ht
    rw [q_M_plainOf_2, pNots]
    by_cases h7 : cdN N A n t = 7
    · have htn := cdN_lt (show cdN N A n t ≠ 0 by omega)
      have i1 := fun p => ih (t + 1) p (by omega) (by omega)
      rw [if_pos h7]
      have i0 := i1 false
      have i2 := i1 true
      rw [bz_ff] at i0
      rw [bz_tt] at i2
      simp -dsimp (disch := first | omega | exact hB _) only [↓c_58 hz, g_58_0 hz, p_58_0 hz, r_58_1 hz, r_58_2 hz, r_58_3 hz, r_58_4 hz, r_58_5 hz, g_58_6 hz, p_58_6 hz, r_58_7 hz, g_58_8 hz, p_58_8 hz, g_58_9 hz, p_58_9 hz, g_58_10 hz, p_58_10 hz, r_58_11 hz, r_58_12 hz, g_58_13 hz, p_58_13 hz, g_58_14 hz, p_58_14 hz, r_58_15 hz, r_58_16 hz, r_58_17 hz, g_58_18 hz, p_58_18 hz, g_58_19 hz, p_58_19 hz, g_58_20 hz, p_58_20 hz, g_58_21 hz, p_58_21 hz, g_58_22 hz, p_58_22 hz, g_58_23 hz, p_58_23 hz, g_58_24 hz, p_58_24 hz, g_58_25 hz, p_58_25 hz, r_58_26 hz, g_58_27 hz, p_58_27 hz, g_58_28 hz, p_58_28 hz, r_58_29 hz, r_58_30 hz, g_58_31 hz, p_58_31 hz, r_58_32 hz, r_58_33 hz, r_58_34 hz, r_58_35 hz, r_58_36 hz, r_58_37 hz, g_58_38 hz, p_58_38 hz, r_58_39 hz, r_58_40 hz, r_58_41 hz, g_58_42 hz, p_58_42 hz, g_58_43 hz, p_58_43 hz, g_58_44 hz, p_58_44 hz, g_58_45 hz, p_58_45 hz, g_58_46 hz, p_58_46 hz, g_58_47 hz, p_58_47 hz, g_58_48 hz, p_58_48 hz, r_58_49 hz, r_58_50 hz, r_58_51 hz, r_58_52 hz, g_58_53 hz, p_58_53 hz, g_58_54 hz, p_58_54 hz, g_58_55 hz, p_58_55 hz, l_59 hz, s_59 hz, n_59 hz, l_60 hz, s_60 hz, n_60 hz, l_61 hz, s_61 hz, n_61 hz, l_62 hz, s_62 hz, n_62 hz, l_63 hz, s_63 hz, n_63 hz, l_64 hz, s_64 hz, n_64 hz, l_65 hz, s_65 hz, n_65 hz, l_66 hz, s_66 hz, n_66 hz, l_67 hz, s_67 hz, n_67 hz, l_68 hz, s_68 hz, n_68 hz, l_69 hz, s_69 hz, n_69 hz, l_70 hz, s_70 hz, n_70 hz, l_71 hz, s_71 hz, n_71 hz, l_72 hz, s_72 hz, n_72 hz, l_73 hz, s_73 hz, n_73 hz, l_74 hz, s_74 hz, n_74 hz, l_75 hz, s_75 hz, n_75 hz, l_76 hz, s_76 hz, n_76 hz, l_77 hz, s_77 hz, n_77 hz, l_78 hz, s_78 hz, n_78 hz, l_79 hz, s_79 hz, n_79 hz, l_80 hz, s_80 hz, n_80 hz, l_81 hz, s_81 hz, n_81 hz, l_82 hz, s_82 hz, l_83 hz, s_83 hz, n_83 hz, l_84 hz, s_84 hz, n_84 hz, l_85 hz, s_85 hz, n_85 hz, hO_s, hI_s, hL_s, hQ_s, hQ_n, hR_s, hV_s, hN_n, hN_s, cond_true, lI_0, lI_1, sI_0, sI_1, lL_0, lL_1, ↓reduceIte, not_true_eq_false, not_false_eq_true, Nat.reduceEqDiff, Nat.reduceAdd, Nat.reduceMul, Nat.reduceSub, Nat.reduceLeDiff, Nat.reduceLT, li_2, li_3, li_4, li_5, li_6, li_7, li_8, li_9, li_10, li_11, li_12, li_13, li_14, li_15, li_16, li_17, li_18, li_19, li_20, li_21, li_22, li_23, li_24, li_25, li_26, li_27, li_28, li_29, li_30, li_31, li_32, li_33, li_34, li_35, li_36, li_37, li_38, li_39, li_40, li_41, li_42, li_43, li_44, li_45, li_46, li_47, li_48, li_49, li_50, li_51, li_52, li_53, li_54, li_55, li_56, li_57, li_58, li_59, li_60, li_61, li_62, li_63, li_64, li_65, li_66, li_67, li_68, li_69, li_70, li_71, li_72, li_73, li_74, li_75, li_76, li_77, li_78, li_79, li_80, li_81, li_82, li_83, li_84, li_85, li_86, li_87, li_88, li_89, li_90, li_91, li_92, li_93, li_94, li_95, li_96, li_97, li_98, li_99, li_100, li_101, li_102, li_103, li_104, li_105, li_106, li_107, li_108, li_109, li_110, li_111, li_112, li_113, li_114, li_115, li_116, li_117, li_118, li_119, li_120, li_121, li_122, li_255, li_400, li_608, li_998, li_999, li_1000, li_1024, li_1103, li_2400, li_2911, li_4095, li_4096, li_5711, li_9999, li_12345, li_1000000, li_1000003, li_252645135, li_858993459, li_1431655765, wI_add, wI_mul, wI_add1, wI_1add, t_M_passes0 hz hm hv hg hA, eq_true h7, bz_T, e1]
      cases p
      · simp only [bz_ff, ↓reduceIte]
        refine i2.trans ?_
        congr 1
        funext i4 σ3
        cases (pNots (cdN N A n) m (t + 1)).2 <;> rfl
      · simp only [bz_tt, bz_T, e1, ↓reduceIte]
        refine i0.trans ?_
        congr 1
        funext i4 σ3
        cases (pNots (cdN N A n) m (t + 1)).2 <;> rfl
    · rw [if_neg h7]
      simp -dsimp (disch := first | omega | exact hB _) only [↓c_58 hz, g_58_0 hz, p_58_0 hz, r_58_1 hz, r_58_2 hz, r_58_3 hz, r_58_4 hz, r_58_5 hz, g_58_6 hz, p_58_6 hz, r_58_7 hz, g_58_8 hz, p_58_8 hz, g_58_9 hz, p_58_9 hz, g_58_10 hz, p_58_10 hz, r_58_11 hz, r_58_12 hz, g_58_13 hz, p_58_13 hz, g_58_14 hz, p_58_14 hz, r_58_15 hz, r_58_16 hz, r_58_17 hz, g_58_18 hz, p_58_18 hz, g_58_19 hz, p_58_19 hz, g_58_20 hz, p_58_20 hz, g_58_21 hz, p_58_21 hz, g_58_22 hz, p_58_22 hz, g_58_23 hz, p_58_23 hz, g_58_24 hz, p_58_24 hz, g_58_25 hz, p_58_25 hz, r_58_26 hz, g_58_27 hz, p_58_27 hz, g_58_28 hz, p_58_28 hz, r_58_29 hz, r_58_30 hz, g_58_31 hz, p_58_31 hz, r_58_32 hz, r_58_33 hz, r_58_34 hz, r_58_35 hz, r_58_36 hz, r_58_37 hz, g_58_38 hz, p_58_38 hz, r_58_39 hz, r_58_40 hz, r_58_41 hz, g_58_42 hz, p_58_42 hz, g_58_43 hz, p_58_43 hz, g_58_44 hz, p_58_44 hz, g_58_45 hz, p_58_45 hz, g_58_46 hz, p_58_46 hz, g_58_47 hz, p_58_47 hz, g_58_48 hz, p_58_48 hz, r_58_49 hz, r_58_50 hz, r_58_51 hz, r_58_52 hz, g_58_53 hz, p_58_53 hz, g_58_54 hz, p_58_54 hz, g_58_55 hz, p_58_55 hz, l_59 hz, s_59 hz, n_59 hz, l_60 hz, s_60 hz, n_60 hz, l_61 hz, s_61 hz, n_61 hz, l_62 hz, s_62 hz, n_62 hz, l_63 hz, s_63 hz, n_63 hz, l_64 hz, s_64 hz, n_64 hz, l_65 hz, s_65 hz, n_65 hz, l_66 hz, s_66 hz, n_66 hz, l_67 hz, s_67 hz, n_67 hz, l_68 hz, s_68 hz, n_68 hz, l_69 hz, s_69 hz, n_69 hz, l_70 hz, s_70 hz, n_70 hz, l_71 hz, s_71 hz, n_71 hz, l_72 hz, s_72 hz, n_72 hz, l_73 hz, s_73 hz, n_73 hz, l_74 hz, s_74 hz, n_74 hz, l_75 hz, s_75 hz, n_75 hz, l_76 hz, s_76 hz, n_76 hz, l_77 hz, s_77 hz, n_77 hz, l_78 hz, s_78 hz, n_78 hz, l_79 hz, s_79 hz, n_79 hz, l_80 hz, s_80 hz, n_80 hz, l_81 hz, s_81 hz, n_81 hz, l_82 hz, s_82 hz, l_83 hz, s_83 hz, n_83 hz, l_84 hz, s_84 hz, n_84 hz, l_85 hz, s_85 hz, n_85 hz, hO_s, hI_s, hL_s, hQ_s, hQ_n, hR_s, hV_s, hN_n, hN_s, cond_true, lI_0, lI_1, sI_0, sI_1, lL_0, lL_1, ↓reduceIte, not_true_eq_false, not_false_eq_true, Nat.reduceEqDiff, Nat.reduceAdd, Nat.reduceMul, Nat.reduceSub, Nat.reduceLeDiff, Nat.reduceLT, li_2, li_3, li_4, li_5, li_6, li_7, li_8, li_9, li_10, li_11, li_12, li_13, li_14, li_15, li_16, li_17, li_18, li_19, li_20, li_21, li_22, li_23, li_24, li_25, li_26, li_27, li_28, li_29, li_30, li_31, li_32, li_33, li_34, li_35, li_36, li_37, li_38, li_39, li_40, li_41, li_42, li_43, li_44, li_45, li_46, li_47, li_48, li_49, li_50, li_51, li_52, li_53, li_54, li_55, li_56, li_57, li_58, li_59, li_60, li_61, li_62, li_63, li_64, li_65, li_66, li_67, li_68, li_69, li_70, li_71, li_72, li_73, li_74, li_75, li_76, li_77, li_78, li_79, li_80, li_81, li_82, li_83, li_84, li_85, li_86, li_87, li_88, li_89, li_90, li_91, li_92, li_93, li_94, li_95, li_96, li_97, li_98, li_99, li_100, li_101, li_102, li_103, li_104, li_105, li_106, li_107, li_108, li_109, li_110, li_111, li_112, li_113, li_114, li_115, li_116, li_117, li_118, li_119, li_120, li_121, li_122, li_255, li_400, li_608, li_998, li_999, li_1000, li_1024, li_1103, li_2400, li_2911, li_4095, li_4096, li_5711, li_9999, li_12345, li_1000000, li_1000003, li_252645135, li_858993459, li_1431655765, wI_add, wI_mul, wI_add1, wI_1add, t_M_passes0 hz hm hv hg hA, h7, bz_F, eq_self]
      cases p <;> rfl
theorem bz_inj (a b : Bool) : (bz (a = true) = bz (b = true)) = (a = b) := by
  cases a <;> cases b <;> apply propext <;> constructor <;> intro h <;> first | rfl | (cases h; done)
theorem t_M_plainOf0 (hz : Sh z) (hm : MK f N) (hv : VK N) (hg : f 58 23 = wI (A + n)) (hA : A + n ≤ 2800) (hC : VCtx o f z e) (hn4 : n ≤ 400) {r : Nat} {inner : Option (Nat → Nat → Nat → PR Bool)} {dd : Nat} (hdd : 2 ≤ dd) (hi : TS f z e A mM_positiveOf dd (pPos o (cdN N A n) (vlN N A) r inner)) (hok : Okq (cdN N A n) (pPos o (cdN N A n) (vlN N A) r inner)) : TS f z e A mM_plainOf (dd + 1) (pPlain o (cdN N A n) (vlN N A) r inner) := by
  intro d hd c t l q lv br h ht
  obtain ⟨d, rfl⟩ : ∃ e, d = e + 1 := ⟨d - 1, by omega⟩
  unfold pPlain at h
  cases e2 : pPos o (cdN N A n) (vlN N A) r inner c (pNots (cdN N A n) 401 t).1 l with
  | inl x => rw [e2] at h; cases h
  | inr q1 =>
    rw [e2] at h
    cases h
    dsimp only
    obtain ⟨⟨a1, a2, a3, a4, a5⟩, a6, a7⟩ := hok _ _ _ _ e2
    have htn := cdN_lt (a5 _ (Nat.le_refl _) a6)
    obtain ⟨w1, i1, o1⟩ := hi d (by omega) c _ l q1 lv br e2 (by omega)
    have i2 := plainOf_L hz hm hv hg hA (d := d) (by omega) (lv := lv) (br := br) 401 t false (by omega) ht
    refine ⟨w1 != (pNots (cdN N A n) 401 t).2, ?_, ?_⟩
    · rw [q_M_plainOf]
      rw [bz_ff] at i2
      rw [i2, i1, hI_s]
      have hb : brk lv br (negD (pNots (cdN N A n) 401 t).2 q1.2.2.2 e) = brk lv br (q1.2.2.2 e) := by
        unfold negD
        cases lv <;> cases br <;> cases q1.2.2.2 e <;> rfl
      rw [hb]
      simp only [bz_inj]
      cases w1 <;> cases (pNots (cdN N A n) 401 t).2 <;> rfl
    · intro hl hb v hv1
      unfold negD at hv1
      cases k : q1.2.2.2 e with
      | none => rw [k] at hv1; cases hv1
      | some b =>
        rw [k] at hv1
        cases hv1
        rw [o1 hl hb b k]
theorem t_M_testOf (hz : Sh z) (hm : MK f N) (hv : VK N) (hg : f 58 23 = wI (A + n)) (hA : A + n ≤ 2800) (hC : VCtx o f z e) (hn4 : n ≤ 400) : ∀ r, TS f z e A mM_testOf (4 * r + 11) (pTest o (cdN N A n) (vlN N A) r)
  | 0 => t_M_testOf0 hz hm hv hg hA (by omega) (t_M_bothOf0 hz hm hv hg hA (by omega) (t_M_plainOf0 hz hm hv hg hA hC hn4 (dd := 8) (by omega) (t_M_positiveOf0 hz hm hv hg hA hC hn4 (dd0 := 0) (by omega) (by omega) (fun sm h => by cases h)) (ok_pos (fun sm h => by cases h))) (ok_plain (fun sm h => by cases h)) hn4) (ok_join (ok_plain (fun sm h => by cases h)) (by decide)) hn4
  | r + 1 => t_M_testOf0 hz hm hv hg hA (by omega) (t_M_bothOf0 hz hm hv hg hA (by omega) (t_M_plainOf0 hz hm hv hg hA hC hn4 (dd := 4 * r + 12) (by omega) (t_M_positiveOf0 hz hm hv hg hA hC hn4 (dd0 := 4 * r + 11) (by omega) (by omega) (fun sm h => by cases h; exact t_M_testOf hz hm hv hg hA hC hn4 r)) (ok_pos (fun sm h => by cases h; exact ok_test r))) (ok_plain (fun sm h => by cases h; exact ok_test r)) hn4) (ok_join (ok_plain (fun sm h => by cases h; exact ok_test r)) (by decide)) hn4
end
