/-! ===== the program's reader: ORDERS' heads, whole CLAUSES ===== -/
section
variable {z : Mem} {f : Nat → Nat → Int32} {T : Nat → Nat} {L : Nat} {o : Bool}
theorem HO_r {f f1 f' : Nat → Nat → Int32} {n c : Nat} {R : Nat ⊕ CH} (h1 : R33 f f1) (h2 : HO T L o f1 n c R f') : HO T L o f n c R f' := by
  cases R with
  | inl e => exact ⟨h2.1, (h1.fr 0).fg.tr h2.2⟩
  | inr q => exact ⟨h2.1, h2.2.1, h2.2.2.1, ((h1.fr c).fc (n * 6)).t2 h2.2.2.2.1, h2.2.2.2.2⟩
theorem t_orderHead1 (hz : Sh z) (ht : Tx z) {t l c n : Nat} (hp : PS T L true f t l c) (h0 : f 34 0 = wI n) (hn : n < 12) (hct : c ≤ t) {d : Nat} (hd : 31 ≤ d) : ∃ f', EC (d + 1) mReader_readOrderHead [.ref 33] (mkM f z) = Ev (d + 1) mReader_readOrderHead 79 [(0, .ref 33)] [] (mkM f' z) ∧ HO T L true f n c (pOrdH1 (cdT T L) (vlT T L) c t l) f' := by
  have e1 : ((1 : Int32) = 0) = False := eq_false (by decide)
  have tw := fun (f : Nat → Nat → Int32) (hp : PS T L true f t l c) (k : Nat) (hk : k < 25) => t_takeWord hz ht hp.1 hp.2.1 hk (d := d) (by omega)
  rw [q_Reader_readOrderHead]
  unfold pOrdH1
  obtain ⟨f1, k1, r1, q1⟩ : ∃ f1, EC d mReader_takeWord [.ref 33, .ref 1000015] (mkM f z) = some (some (.int (bz (cdB T L (plB T L t) = 20))), mkM f1 z) ∧ RP T L f1 (if cdB T L (plB T L t) = 20 then nxB T L (plB T L t) else plB T L t) ∧ R33 f f1 := tw f hp 15 (by decide)
  by_cases h1 : cdT T L t = 20
  · have h1' : cdB T L (plB T L t) = 20 := h1
    rw [bz_pos h1'] at k1
    rw [if_pos h1'] at r1
    have hp1 : PS T L true f1 (t + 1) l c := q1.ps hp r1
    obtain ⟨f2, i1, i2⟩ : ∃ f2, EC d mReader_readTwoSums [.ref 33, .int (wI 0), .ref 1000007] (mkM f1 z) = some (none, mkM f2 z) ∧ HO T L true f1 n c (pTwo1 (cdT T L) (vlT T L) 12 0 c (t + 1) l) f2 := t_twoSums hz ht hp1 (k := 0) (kx := 7) (by rw [q1.1 34 (by decide)]; exact h0) hn (by omega) (by decide) (d := d) (by omega)
    rw [show (wI 0 : Int32) = 0 from rfl] at i1
    refine ⟨f2, ?_, ?_⟩
    · simp -dsimp only [↓c_0 hz, r_0_0 hz, r_0_1 hz, r_0_2 hz, v_0_3 hz, w_0_3 hz, p_0_3 hz, r_0_4 hz, r_0_5 hz, r_0_6 hz, g_0_7 hz, p_0_7 hz, r_0_8 hz, r_0_9 hz, r_0_10 hz, r_0_11 hz, r_0_12 hz, g_0_13 hz, p_0_13 hz, g_0_14 hz, p_0_14 hz, g_0_15 hz, p_0_15 hz, g_0_16 hz, p_0_16 hz, g_0_17 hz, p_0_17 hz, g_0_18 hz, p_0_18 hz, r_0_19 hz, ↓c_1 hz, g_1_0 hz, p_1_0 hz, r_1_1 hz, g_1_2 hz, p_1_2 hz, r_1_3 hz, r_1_4 hz, r_1_5 hz, r_1_6 hz, r_1_7 hz, r_1_8 hz, r_1_9 hz, g_1_10 hz, p_1_10 hz, r_1_11 hz, r_1_12 hz, r_1_13 hz, g_1_14 hz, p_1_14 hz, r_1_15 hz, g_1_16 hz, p_1_16 hz, l_2 hz, s_2 hz, n_2 hz, l_3 hz, s_3 hz, n_3 hz, l_4 hz, s_4 hz, n_4 hz, l_5 hz, s_5 hz, n_5 hz, l_6 hz, s_6 hz, n_6 hz, l_7 hz, s_7 hz, n_7 hz, l_8 hz, s_8 hz, n_8 hz, l_9 hz, s_9 hz, n_9 hz, l_10 hz, s_10 hz, n_10 hz, l_11 hz, s_11 hz, n_11 hz, l_12 hz, s_12 hz, n_12 hz, l_13 hz, ↓c_14 hz, g_14_0 hz, p_14_0 hz, r_14_1 hz, g_14_2 hz, p_14_2 hz, r_14_3 hz, r_14_4 hz, r_14_5 hz, r_14_6 hz, r_14_7 hz, r_14_8 hz, r_14_9 hz, g_14_10 hz, p_14_10 hz, r_14_11 hz, r_14_12 hz, r_14_13 hz, g_14_14 hz, p_14_14 hz, r_14_15 hz, g_14_16 hz, p_14_16 hz, l_15 hz, s_15 hz, n_15 hz, l_16 hz, s_16 hz, n_16 hz, l_17 hz, s_17 hz, n_17 hz, l_18 hz, s_18 hz, n_18 hz, l_19 hz, s_19 hz, n_19 hz, l_20 hz, s_20 hz, n_20 hz, l_21 hz, s_21 hz, n_21 hz, l_22 hz, s_22 hz, n_22 hz, l_23 hz, s_23 hz, n_23 hz, l_24 hz, s_24 hz, n_24 hz, l_25 hz, s_25 hz, n_25 hz, l_26 hz, l_27 hz, ↓c_28 hz, r_28_0 hz, g_28_1 hz, p_28_1 hz, g_28_2 hz, p_28_2 hz, l_29 hz, s_29 hz, n_29 hz, ↓c_30 hz, r_30_0 hz, g_30_1 hz, p_30_1 hz, g_30_2 hz, p_30_2 hz, l_31 hz, s_31 hz, n_31 hz, l_32 hz, s_32 hz, n_32 hz, ↓c_33 hz, r_33_0 hz, v_33_1 hz, w_33_1 hz, p_33_1 hz, g_33_2 hz, p_33_2 hz, g_33_3 hz, p_33_3 hz, g_33_4 hz, p_33_4 hz, g_33_5 hz, p_33_5 hz, g_33_6 hz, p_33_6 hz, g_33_7 hz, p_33_7 hz, g_33_8 hz, p_33_8 hz, g_33_9 hz, p_33_9 hz, ↓c_34 hz, g_34_0 hz, p_34_0 hz, g_34_1 hz, p_34_1 hz, r_34_2 hz, r_34_3 hz, l_35 hz, s_35 hz, n_35 hz, l_36 hz, s_36 hz, n_36 hz, ↓c_38 hz, r_38_0 hz, v_38_1 hz, w_38_1 hz, p_38_1 hz, g_38_2 hz, p_38_2 hz, g_38_3 hz, p_38_3 hz, g_38_4 hz, p_38_4 hz, g_38_5 hz, p_38_5 hz, l_39 hz, s_39 hz, n_39 hz, ↓c_40 hz, r_40_0 hz, r_40_1 hz, r_40_2 hz, r_40_3 hz, g_40_4 hz, p_40_4 hz, l_41 hz, s_41 hz, n_41 hz, l_42 hz, s_42 hz, n_42 hz, l_43 hz, s_43 hz, n_43 hz, l_44 hz, s_44 hz, n_44 hz, ↓c_45 hz, r_45_0 hz, r_45_1 hz, r_45_2 hz, r_45_3 hz, r_45_4 hz, g_45_5 hz, p_45_5 hz, l_46 hz, s_46 hz, n_46 hz, l_47 hz, s_47 hz, n_47 hz, l_48 hz, s_48 hz, n_48 hz, l_49 hz, s_49 hz, n_49 hz, l_50 hz, s_50 hz, n_50 hz, ↓c_51 hz, r_51_0 hz, r_51_1 hz, r_51_2 hz, r_51_3 hz, r_51_4 hz, g_51_5 hz, p_51_5 hz, g_51_6 hz, p_51_6 hz, l_52 hz, s_52 hz, n_52 hz, l_53 hz, s_53 hz, n_53 hz, l_54 hz, s_54 hz, n_54 hz, l_55 hz, s_55 hz, n_55 hz, l_56 hz, s_56 hz, n_56 hz, l_57 hz, s_57 hz, n_57 hz, hO_s, hI_s, hL_s, hQ_s, hQ_n, hR_s, hV_s, hN_n, hN_s, cond_true, lI_0, lI_1, sI_0, sI_1, lL_0, lL_1, ↓reduceIte, not_true_eq_false, not_false_eq_true, Nat.reduceEqDiff, Nat.reduceAdd, Nat.reduceMul, Nat.reduceSub, Nat.reduceLeDiff, Nat.reduceLT, li_2, li_3, li_4, li_5, li_6, li_7, li_8, li_9, li_10, li_11, li_12, li_13, li_14, li_15, li_16, li_17, li_18, li_19, li_20, li_21, li_22, li_23, li_24, li_25, li_26, li_27, li_28, li_29, li_30, li_31, li_32, li_33, li_34, li_35, li_36, li_37, li_38, li_39, li_40, li_41, li_42, li_43, li_44, li_45, li_46, li_47, li_48, li_49, li_50, li_51, li_52, li_53, li_54, li_55, li_56, li_57, li_58, li_59, li_60, li_61, li_62, li_63, li_64, li_65, li_66, li_67, li_68, li_69, li_70, li_71, li_72, li_73, li_74, li_75, li_76, li_77, li_78, li_79, li_80, li_81, li_82, li_83, li_84, li_85, li_86, li_87, li_88, li_89, li_90, li_91, li_92, li_93, li_94, li_95, li_96, li_97, li_98, li_99, li_100, li_101, li_102, li_103, li_104, li_105, li_106, li_107, li_108, li_109, li_110, li_111, li_112, li_113, li_114, li_115, li_116, li_117, li_118, li_119, li_120, li_121, li_122, li_255, li_400, li_608, li_998, li_999, li_1000, li_1024, li_1103, li_2400, li_2911, li_4095, li_4096, li_5711, li_9999, li_12345, li_1000000, li_1000003, li_252645135, li_858993459, li_1431655765, k1, e1, i1]
    · rw [if_pos h1]; exact HO_r q1 i2
  · have h1' : ¬ cdB T L (plB T L t) = 20 := h1
    rw [bz_neg h1'] at k1
    rw [if_neg h1'] at r1
    have hp1 := q1.ps (t' := t) hp r1
    obtain ⟨f2, k2, r2, q2⟩ : ∃ f2, EC d mReader_takeWord [.ref 33, .ref 1000016] (mkM f1 z) = some (some (.int (bz (cdB T L (plB T L t) = 21))), mkM f2 z) ∧ RP T L f2 (if cdB T L (plB T L t) = 21 then nxB T L (plB T L t) else plB T L t) ∧ R33 f1 f2 := tw f1 hp1 16 (by decide)
    rw [if_neg h1]
    by_cases h2 : cdT T L t = 21
    · have h2' : cdB T L (plB T L t) = 21 := h2
      rw [bz_pos h2'] at k2
      rw [if_pos h2'] at r2
      have hp2 : PS T L true f2 (t + 1) l c := q2.ps hp1 r2
      obtain ⟨f3, i1, i2⟩ := t_oneSum hz ht hp2 (k := 1) (by rw [q2.1 34 (by decide), q1.1 34 (by decide)]; exact h0) hn (by omega) (d := d) (by omega)
      rw [show (wI 1 : Int32) = 1 from rfl] at i1
      refine ⟨f3, ?_, ?_⟩
      · simp -dsimp only [↓c_0 hz, r_0_0 hz, r_0_1 hz, r_0_2 hz, v_0_3 hz, w_0_3 hz, p_0_3 hz, r_0_4 hz, r_0_5 hz, r_0_6 hz, g_0_7 hz, p_0_7 hz, r_0_8 hz, r_0_9 hz, r_0_10 hz, r_0_11 hz, r_0_12 hz, g_0_13 hz, p_0_13 hz, g_0_14 hz, p_0_14 hz, g_0_15 hz, p_0_15 hz, g_0_16 hz, p_0_16 hz, g_0_17 hz, p_0_17 hz, g_0_18 hz, p_0_18 hz, r_0_19 hz, ↓c_1 hz, g_1_0 hz, p_1_0 hz, r_1_1 hz, g_1_2 hz, p_1_2 hz, r_1_3 hz, r_1_4 hz, r_1_5 hz, r_1_6 hz, r_1_7 hz, r_1_8 hz, r_1_9 hz, g_1_10 hz, p_1_10 hz, r_1_11 hz, r_1_12 hz, r_1_13 hz, g_1_14 hz, p_1_14 hz, r_1_15 hz, g_1_16 hz, p_1_16 hz, l_2 hz, s_2 hz, n_2 hz, l_3 hz, s_3 hz, n_3 hz, l_4 hz, s_4 hz, n_4 hz, l_5 hz, s_5 hz, n_5 hz, l_6 hz, s_6 hz, n_6 hz, l_7 hz, s_7 hz, n_7 hz, l_8 hz, s_8 hz, n_8 hz, l_9 hz, s_9 hz, n_9 hz, l_10 hz, s_10 hz, n_10 hz, l_11 hz, s_11 hz, n_11 hz, l_12 hz, s_12 hz, n_12 hz, l_13 hz, ↓c_14 hz, g_14_0 hz, p_14_0 hz, r_14_1 hz, g_14_2 hz, p_14_2 hz, r_14_3 hz, r_14_4 hz, r_14_5 hz, r_14_6 hz, r_14_7 hz, r_14_8 hz, r_14_9 hz, g_14_10 hz, p_14_10 hz, r_14_11 hz, r_14_12 hz, r_14_13 hz, g_14_14 hz, p_14_14 hz, r_14_15 hz, g_14_16 hz, p_14_16 hz, l_15 hz, s_15 hz, n_15 hz, l_16 hz, s_16 hz, n_16 hz, l_17 hz, s_17 hz, n_17 hz, l_18 hz, s_18 hz, n_18 hz, l_19 hz, s_19 hz, n_19 hz, l_20 hz, s_20 hz, n_20 hz, l_21 hz, s_21 hz, n_21 hz, l_22 hz, s_22 hz, n_22 hz, l_23 hz, s_23 hz, n_23 hz, l_24 hz, s_24 hz, n_24 hz, l_25 hz, s_25 hz, n_25 hz, l_26 hz, l_27 hz, ↓c_28 hz, r_28_0 hz, g_28_1 hz, p_28_1 hz, g_28_2 hz, p_28_2 hz, l_29 hz, s_29 hz, n_29 hz, ↓c_30 hz, r_30_0 hz, g_30_1 hz, p_30_1 hz, g_30_2 hz, p_30_2 hz, l_31 hz, s_31 hz, n_31 hz, l_32 hz, s_32 hz, n_32 hz, ↓c_33 hz, r_33_0 hz, v_33_1 hz, w_33_1 hz, p_33_1 hz, g_33_2 hz, p_33_2 hz, g_33_3 hz, p_33_3 hz, g_33_4 hz, p_33_4 hz, g_33_5 hz, p_33_5 hz, g_33_6 hz, p_33_6 hz, g_33_7 hz, p_33_7 hz, g_33_8 hz, p_33_8 hz, g_33_9 hz, p_33_9 hz, ↓c_34 hz, g_34_0 hz, p_34_0 hz, g_34_1 hz, p_34_1 hz, r_34_2 hz, r_34_3 hz, l_35 hz, s_35 hz, n_35 hz, l_36 hz, s_36 hz, n_36 hz, ↓c_38 hz, r_38_0 hz, v_38_1 hz, w_38_1 hz, p_38_1 hz, g_38_2 hz, p_38_2 hz, g_38_3 hz, p_38_3 hz, g_38_4 hz, p_38_4 hz, g_38_5 hz, p_38_5 hz, l_39 hz, s_39 hz, n_39 hz, ↓c_40 hz, r_40_0 hz, r_40_1 hz, r_40_2 hz, r_40_3 hz, g_40_4 hz, p_40_4 hz, l_41 hz, s_41 hz, n_41 hz, l_42 hz, s_42 hz, n_42 hz, l_43 hz, s_43 hz, n_43 hz, l_44 hz, s_44 hz, n_44 hz, ↓c_45 hz, r_45_0 hz, r_45_1 hz, r_45_2 hz, r_45_3 hz, r_45_4 hz, g_45_5 hz, p_45_5 hz, l_46 hz, s_46 hz, n_46 hz, l_47 hz, s_47 hz, n_47 hz, l_48 hz, s_48 hz, n_48 hz, l_49 hz, s_49 hz, n_49 hz, l_50 hz, s_50 hz, n_50 hz, ↓c_51 hz, r_51_0 hz, r_51_1 hz, r_51_2 hz, r_51_3 hz, r_51_4 hz, g_51_5 hz, p_51_5 hz, g_51_6 hz, p_51_6 hz, l_52 hz, s_52 hz, n_52 hz, l_53 hz, s_53 hz, n_53 hz, l_54 hz, s_54 hz, n_54 hz, l_55 hz, s_55 hz, n_55 hz, l_56 hz, s_56 hz, n_56 hz, l_57 hz, s_57 hz, n_57 hz, hO_s, hI_s, hL_s, hQ_s, hQ_n, hR_s, hV_s, hN_n, hN_s, cond_true, lI_0, lI_1, sI_0, sI_1, lL_0, lL_1, ↓reduceIte, not_true_eq_false, not_false_eq_true, Nat.reduceEqDiff, Nat.reduceAdd, Nat.reduceMul, Nat.reduceSub, Nat.reduceLeDiff, Nat.reduceLT, li_2, li_3, li_4, li_5, li_6, li_7, li_8, li_9, li_10, li_11, li_12, li_13, li_14, li_15, li_16, li_17, li_18, li_19, li_20, li_21, li_22, li_23, li_24, li_25, li_26, li_27, li_28, li_29, li_30, li_31, li_32, li_33, li_34, li_35, li_36, li_37, li_38, li_39, li_40, li_41, li_42, li_43, li_44, li_45, li_46, li_47, li_48, li_49, li_50, li_51, li_52, li_53, li_54, li_55, li_56, li_57, li_58, li_59, li_60, li_61, li_62, li_63, li_64, li_65, li_66, li_67, li_68, li_69, li_70, li_71, li_72, li_73, li_74, li_75, li_76, li_77, li_78, li_79, li_80, li_81, li_82, li_83, li_84, li_85, li_86, li_87, li_88, li_89, li_90, li_91, li_92, li_93, li_94, li_95, li_96, li_97, li_98, li_99, li_100, li_101, li_102, li_103, li_104, li_105, li_106, li_107, li_108, li_109, li_110, li_111, li_112, li_113, li_114, li_115, li_116, li_117, li_118, li_119, li_120, li_121, li_122, li_255, li_400, li_608, li_998, li_999, li_1000, li_1024, li_1103, li_2400, li_2911, li_4095, li_4096, li_5711, li_9999, li_12345, li_1000000, li_1000003, li_252645135, li_858993459, li_1431655765, k1, k2, e1, i1]
      · rw [if_pos h2]; exact HO_r (q1.tr q2) i2
    · have h2' : ¬ cdB T L (plB T L t) = 21 := h2
      rw [bz_neg h2'] at k2
      rw [if_neg h2'] at r2
      have hp2 := q2.ps (t' := t) hp1 r2
      obtain ⟨f3, k3, r3, q3⟩ : ∃ f3, EC d mReader_takeWord [.ref 33, .ref 1000017] (mkM f2 z) = some (some (.int (bz (cdB T L (plB T L t) = 22))), mkM f3 z) ∧ RP T L f3 (if cdB T L (plB T L t) = 22 then nxB T L (plB T L t) else plB T L t) ∧ R33 f2 f3 := tw f2 hp2 17 (by decide)
      rw [if_neg h2]
      by_cases h3 : cdT T L t = 22
      · have h3' : cdB T L (plB T L t) = 22 := h3
        rw [bz_pos h3'] at k3
        rw [if_pos h3'] at r3
        have hp3 : PS T L true f3 (t + 1) l c := q3.ps hp2 r3
        obtain ⟨f4, i1, i2⟩ : ∃ f4, EC d mReader_readTwoSums [.ref 33, .int (wI 2), .ref 1000018] (mkM f3 z) = some (none, mkM f4 z) ∧ HO T L true f3 n c (pTwo1 (cdT T L) (vlT T L) 23 2 c (t + 1) l) f4 := t_twoSums hz ht hp3 (k := 2) (kx := 18) (by rw [q3.1 34 (by decide), q2.1 34 (by decide), q1.1 34 (by decide)]; exact h0) hn (by omega) (by decide) (d := d) (by omega)
        refine ⟨f4, ?_, ?_⟩
        · simp -dsimp only [↓c_0 hz, r_0_0 hz, r_0_1 hz, r_0_2 hz, v_0_3 hz, w_0_3 hz, p_0_3 hz, r_0_4 hz, r_0_5 hz, r_0_6 hz, g_0_7 hz, p_0_7 hz, r_0_8 hz, r_0_9 hz, r_0_10 hz, r_0_11 hz, r_0_12 hz, g_0_13 hz, p_0_13 hz, g_0_14 hz, p_0_14 hz, g_0_15 hz, p_0_15 hz, g_0_16 hz, p_0_16 hz, g_0_17 hz, p_0_17 hz, g_0_18 hz, p_0_18 hz, r_0_19 hz, ↓c_1 hz, g_1_0 hz, p_1_0 hz, r_1_1 hz, g_1_2 hz, p_1_2 hz, r_1_3 hz, r_1_4 hz, r_1_5 hz, r_1_6 hz, r_1_7 hz, r_1_8 hz, r_1_9 hz, g_1_10 hz, p_1_10 hz, r_1_11 hz, r_1_12 hz, r_1_13 hz, g_1_14 hz, p_1_14 hz, r_1_15 hz, g_1_16 hz, p_1_16 hz, l_2 hz, s_2 hz, n_2 hz, l_3 hz, s_3 hz, n_3 hz, l_4 hz, s_4 hz, n_4 hz, l_5 hz, s_5 hz, n_5 hz, l_6 hz, s_6 hz, n_6 hz, l_7 hz, s_7 hz, n_7 hz, l_8 hz, s_8 hz, n_8 hz, l_9 hz, s_9 hz, n_9 hz, l_10 hz, s_10 hz, n_10 hz, l_11 hz, s_11 hz, n_11 hz, l_12 hz, s_12 hz, n_12 hz, l_13 hz, ↓c_14 hz, g_14_0 hz, p_14_0 hz, r_14_1 hz, g_14_2 hz, p_14_2 hz, r_14_3 hz, r_14_4 hz, r_14_5 hz, r_14_6 hz, r_14_7 hz, r_14_8 hz, r_14_9 hz, g_14_10 hz, p_14_10 hz, r_14_11 hz, r_14_12 hz, r_14_13 hz, g_14_14 hz, p_14_14 hz, r_14_15 hz, g_14_16 hz, p_14_16 hz, l_15 hz, s_15 hz, n_15 hz, l_16 hz, s_16 hz, n_16 hz, l_17 hz, s_17 hz, n_17 hz, l_18 hz, s_18 hz, n_18 hz, l_19 hz, s_19 hz, n_19 hz, l_20 hz, s_20 hz, n_20 hz, l_21 hz, s_21 hz, n_21 hz, l_22 hz, s_22 hz, n_22 hz, l_23 hz, s_23 hz, n_23 hz, l_24 hz, s_24 hz, n_24 hz, l_25 hz, s_25 hz, n_25 hz, l_26 hz, l_27 hz, ↓c_28 hz, r_28_0 hz, g_28_1 hz, p_28_1 hz, g_28_2 hz, p_28_2 hz, l_29 hz, s_29 hz, n_29 hz, ↓c_30 hz, r_30_0 hz, g_30_1 hz, p_30_1 hz, g_30_2 hz, p_30_2 hz, l_31 hz, s_31 hz, n_31 hz, l_32 hz, s_32 hz, n_32 hz, ↓c_33 hz, r_33_0 hz, v_33_1 hz, w_33_1 hz, p_33_1 hz, g_33_2 hz, p_33_2 hz, g_33_3 hz, p_33_3 hz, g_33_4 hz, p_33_4 hz, g_33_5 hz, p_33_5 hz, g_33_6 hz, p_33_6 hz, g_33_7 hz, p_33_7 hz, g_33_8 hz, p_33_8 hz, g_33_9 hz, p_33_9 hz, ↓c_34 hz, g_34_0 hz, p_34_0 hz, g_34_1 hz, p_34_1 hz, r_34_2 hz, r_34_3 hz, l_35 hz, s_35 hz, n_35 hz, l_36 hz, s_36 hz, n_36 hz, ↓c_38 hz, r_38_0 hz, v_38_1 hz, w_38_1 hz, p_38_1 hz, g_38_2 hz, p_38_2 hz, g_38_3 hz, p_38_3 hz, g_38_4 hz, p_38_4 hz, g_38_5 hz, p_38_5 hz, l_39 hz, s_39 hz, n_39 hz, ↓c_40 hz, r_40_0 hz, r_40_1 hz, r_40_2 hz, r_40_3 hz, g_40_4 hz, p_40_4 hz, l_41 hz, s_41 hz, n_41 hz, l_42 hz, s_42 hz, n_42 hz, l_43 hz, s_43 hz, n_43 hz, l_44 hz, s_44 hz, n_44 hz, ↓c_45 hz, r_45_0 hz, r_45_1 hz, r_45_2 hz, r_45_3 hz, r_45_4 hz, g_45_5 hz, p_45_5 hz, l_46 hz, s_46 hz, n_46 hz, l_47 hz, s_47 hz, n_47 hz, l_48 hz, s_48 hz, n_48 hz, l_49 hz, s_49 hz, n_49 hz, l_50 hz, s_50 hz, n_50 hz, ↓c_51 hz, r_51_0 hz, r_51_1 hz, r_51_2 hz, r_51_3 hz, r_51_4 hz, g_51_5 hz, p_51_5 hz, g_51_6 hz, p_51_6 hz, l_52 hz, s_52 hz, n_52 hz, l_53 hz, s_53 hz, n_53 hz, l_54 hz, s_54 hz, n_54 hz, l_55 hz, s_55 hz, n_55 hz, l_56 hz, s_56 hz, n_56 hz, l_57 hz, s_57 hz, n_57 hz, hO_s, hI_s, hL_s, hQ_s, hQ_n, hR_s, hV_s, hN_n, hN_s, cond_true, lI_0, lI_1, sI_0, sI_1, lL_0, lL_1, ↓reduceIte, not_true_eq_false, not_false_eq_true, Nat.reduceEqDiff, Nat.reduceAdd, Nat.reduceMul, Nat.reduceSub, Nat.reduceLeDiff, Nat.reduceLT, li_2, li_3, li_4, li_5, li_6, li_7, li_8, li_9, li_10, li_11, li_12, li_13, li_14, li_15, li_16, li_17, li_18, li_19, li_20, li_21, li_22, li_23, li_24, li_25, li_26, li_27, li_28, li_29, li_30, li_31, li_32, li_33, li_34, li_35, li_36, li_37, li_38, li_39, li_40, li_41, li_42, li_43, li_44, li_45, li_46, li_47, li_48, li_49, li_50, li_51, li_52, li_53, li_54, li_55, li_56, li_57, li_58, li_59, li_60, li_61, li_62, li_63, li_64, li_65, li_66, li_67, li_68, li_69, li_70, li_71, li_72, li_73, li_74, li_75, li_76, li_77, li_78, li_79, li_80, li_81, li_82, li_83, li_84, li_85, li_86, li_87, li_88, li_89, li_90, li_91, li_92, li_93, li_94, li_95, li_96, li_97, li_98, li_99, li_100, li_101, li_102, li_103, li_104, li_105, li_106, li_107, li_108, li_109, li_110, li_111, li_112, li_113, li_114, li_115, li_116, li_117, li_118, li_119, li_120, li_121, li_122, li_255, li_400, li_608, li_998, li_999, li_1000, li_1024, li_1103, li_2400, li_2911, li_4095, li_4096, li_5711, li_9999, li_12345, li_1000000, li_1000003, li_252645135, li_858993459, li_1431655765, k1, k2, k3, e1, i1]
        · rw [if_pos h3]; exact HO_r ((q1.tr q2).tr q3) i2
      · have h3' : ¬ cdB T L (plB T L t) = 22 := h3
        rw [bz_neg h3'] at k3
        rw [if_neg h3'] at r3
        have hp3 := q3.ps (t' := t) hp2 r3
        obtain ⟨f4, k4, r4, q4⟩ : ∃ f4, EC d mReader_takeWord [.ref 33, .ref 1000019] (mkM f3 z) = some (some (.int (bz (cdB T L (plB T L t) = 24))), mkM f4 z) ∧ RP T L f4 (if cdB T L (plB T L t) = 24 then nxB T L (plB T L t) else plB T L t) ∧ R33 f3 f4 := tw f3 hp3 19 (by decide)
        rw [if_neg h3]
        by_cases h4 : cdT T L t = 24
        · have h4' : cdB T L (plB T L t) = 24 := h4
          rw [bz_pos h4'] at k4
          rw [if_pos h4'] at r4
          have hp4 : PS T L true f4 (t + 1) l c := q4.ps hp3 r4
          obtain ⟨f5, i1, i2, i3, i4, i5⟩ := t_open hz hp4 (k := 3) (by rw [q4.1 34 (by decide), q3.1 34 (by decide), q2.1 34 (by decide), q1.1 34 (by decide)]; exact h0) hn (d := d) (by omega)
          refine ⟨f5, ?_, ?_⟩
          · simp -dsimp only [↓c_0 hz, r_0_0 hz, r_0_1 hz, r_0_2 hz, v_0_3 hz, w_0_3 hz, p_0_3 hz, r_0_4 hz, r_0_5 hz, r_0_6 hz, g_0_7 hz, p_0_7 hz, r_0_8 hz, r_0_9 hz, r_0_10 hz, r_0_11 hz, r_0_12 hz, g_0_13 hz, p_0_13 hz, g_0_14 hz, p_0_14 hz, g_0_15 hz, p_0_15 hz, g_0_16 hz, p_0_16 hz, g_0_17 hz, p_0_17 hz, g_0_18 hz, p_0_18 hz, r_0_19 hz, ↓c_1 hz, g_1_0 hz, p_1_0 hz, r_1_1 hz, g_1_2 hz, p_1_2 hz, r_1_3 hz, r_1_4 hz, r_1_5 hz, r_1_6 hz, r_1_7 hz, r_1_8 hz, r_1_9 hz, g_1_10 hz, p_1_10 hz, r_1_11 hz, r_1_12 hz, r_1_13 hz, g_1_14 hz, p_1_14 hz, r_1_15 hz, g_1_16 hz, p_1_16 hz, l_2 hz, s_2 hz, n_2 hz, l_3 hz, s_3 hz, n_3 hz, l_4 hz, s_4 hz, n_4 hz, l_5 hz, s_5 hz, n_5 hz, l_6 hz, s_6 hz, n_6 hz, l_7 hz, s_7 hz, n_7 hz, l_8 hz, s_8 hz, n_8 hz, l_9 hz, s_9 hz, n_9 hz, l_10 hz, s_10 hz, n_10 hz, l_11 hz, s_11 hz, n_11 hz, l_12 hz, s_12 hz, n_12 hz, l_13 hz, ↓c_14 hz, g_14_0 hz, p_14_0 hz, r_14_1 hz, g_14_2 hz, p_14_2 hz, r_14_3 hz, r_14_4 hz, r_14_5 hz, r_14_6 hz, r_14_7 hz, r_14_8 hz, r_14_9 hz, g_14_10 hz, p_14_10 hz, r_14_11 hz, r_14_12 hz, r_14_13 hz, g_14_14 hz, p_14_14 hz, r_14_15 hz, g_14_16 hz, p_14_16 hz, l_15 hz, s_15 hz, n_15 hz, l_16 hz, s_16 hz, n_16 hz, l_17 hz, s_17 hz, n_17 hz, l_18 hz, s_18 hz, n_18 hz, l_19 hz, s_19 hz, n_19 hz, l_20 hz, s_20 hz, n_20 hz, l_21 hz, s_21 hz, n_21 hz, l_22 hz, s_22 hz, n_22 hz, l_23 hz, s_23 hz, n_23 hz, l_24 hz, s_24 hz, n_24 hz, l_25 hz, s_25 hz, n_25 hz, l_26 hz, l_27 hz, ↓c_28 hz, r_28_0 hz, g_28_1 hz, p_28_1 hz, g_28_2 hz, p_28_2 hz, l_29 hz, s_29 hz, n_29 hz, ↓c_30 hz, r_30_0 hz, g_30_1 hz, p_30_1 hz, g_30_2 hz, p_30_2 hz, l_31 hz, s_31 hz, n_31 hz, l_32 hz, s_32 hz, n_32 hz, ↓c_33 hz, r_33_0 hz, v_33_1 hz, w_33_1 hz, p_33_1 hz, g_33_2 hz, p_33_2 hz, g_33_3 hz, p_33_3 hz, g_33_4 hz, p_33_4 hz, g_33_5 hz, p_33_5 hz, g_33_6 hz, p_33_6 hz, g_33_7 hz, p_33_7 hz, g_33_8 hz, p_33_8 hz, g_33_9 hz, p_33_9 hz, ↓c_34 hz, g_34_0 hz, p_34_0 hz, g_34_1 hz, p_34_1 hz, r_34_2 hz, r_34_3 hz, l_35 hz, s_35 hz, n_35 hz, l_36 hz, s_36 hz, n_36 hz, ↓c_38 hz, r_38_0 hz, v_38_1 hz, w_38_1 hz, p_38_1 hz, g_38_2 hz, p_38_2 hz, g_38_3 hz, p_38_3 hz, g_38_4 hz, p_38_4 hz, g_38_5 hz, p_38_5 hz, l_39 hz, s_39 hz, n_39 hz, ↓c_40 hz, r_40_0 hz, r_40_1 hz, r_40_2 hz, r_40_3 hz, g_40_4 hz, p_40_4 hz, l_41 hz, s_41 hz, n_41 hz, l_42 hz, s_42 hz, n_42 hz, l_43 hz, s_43 hz, n_43 hz, l_44 hz, s_44 hz, n_44 hz, ↓c_45 hz, r_45_0 hz, r_45_1 hz, r_45_2 hz, r_45_3 hz, r_45_4 hz, g_45_5 hz, p_45_5 hz, l_46 hz, s_46 hz, n_46 hz, l_47 hz, s_47 hz, n_47 hz, l_48 hz, s_48 hz, n_48 hz, l_49 hz, s_49 hz, n_49 hz, l_50 hz, s_50 hz, n_50 hz, ↓c_51 hz, r_51_0 hz, r_51_1 hz, r_51_2 hz, r_51_3 hz, r_51_4 hz, g_51_5 hz, p_51_5 hz, g_51_6 hz, p_51_6 hz, l_52 hz, s_52 hz, n_52 hz, l_53 hz, s_53 hz, n_53 hz, l_54 hz, s_54 hz, n_54 hz, l_55 hz, s_55 hz, n_55 hz, l_56 hz, s_56 hz, n_56 hz, l_57 hz, s_57 hz, n_57 hz, hO_s, hI_s, hL_s, hQ_s, hQ_n, hR_s, hV_s, hN_n, hN_s, cond_true, lI_0, lI_1, sI_0, sI_1, lL_0, lL_1, ↓reduceIte, not_true_eq_false, not_false_eq_true, Nat.reduceEqDiff, Nat.reduceAdd, Nat.reduceMul, Nat.reduceSub, Nat.reduceLeDiff, Nat.reduceLT, li_2, li_3, li_4, li_5, li_6, li_7, li_8, li_9, li_10, li_11, li_12, li_13, li_14, li_15, li_16, li_17, li_18, li_19, li_20, li_21, li_22, li_23, li_24, li_25, li_26, li_27, li_28, li_29, li_30, li_31, li_32, li_33, li_34, li_35, li_36, li_37, li_38, li_39, li_40, li_41, li_42, li_43, li_44, li_45, li_46, li_47, li_48, li_49, li_50, li_51, li_52, li_53, li_54, li_55, li_56, li_57, li_58, li_59, li_60, li_61, li_62, li_63, li_64, li_65, li_66, li_67, li_68, li_69, li_70, li_71, li_72, li_73, li_74, li_75, li_76, li_77, li_78, li_79, li_80, li_81, li_82, li_83, li_84, li_85, li_86, li_87, li_88, li_89, li_90, li_91, li_92, li_93, li_94, li_95, li_96, li_97, li_98, li_99, li_100, li_101, li_102, li_103, li_104, li_105, li_106, li_107, li_108, li_109, li_110, li_111, li_112, li_113, li_114, li_115, li_116, li_117, li_118, li_119, li_120, li_121, li_122, li_255, li_400, li_608, li_998, li_999, li_1000, li_1024, li_1103, li_2400, li_2911, li_4095, li_4096, li_5711, li_9999, li_12345, li_1000000, li_1000003, li_252645135, li_858993459, li_1431655765, k1, k2, k3, k4, e1, i1]
          · rw [if_pos h4]
            exact HO_r (((q1.tr q2).tr q3).tr q4) ⟨i2, i3, i4, i5, fun i hi => absurd hi (Nat.not_lt_zero i)⟩
        · have h4' : ¬ cdB T L (plB T L t) = 24 := h4
          rw [bz_neg h4'] at k4
          rw [if_neg h4'] at r4
          have hp4 := q4.ps (t' := t) hp3 r4
          obtain ⟨f5, i1, i2, i3⟩ := t_fail hz hp4 (d := d) (by omega)
          refine ⟨f5, ?_, ?_⟩
          · simp -dsimp only [↓c_0 hz, r_0_0 hz, r_0_1 hz, r_0_2 hz, v_0_3 hz, w_0_3 hz, p_0_3 hz, r_0_4 hz, r_0_5 hz, r_0_6 hz, g_0_7 hz, p_0_7 hz, r_0_8 hz, r_0_9 hz, r_0_10 hz, r_0_11 hz, r_0_12 hz, g_0_13 hz, p_0_13 hz, g_0_14 hz, p_0_14 hz, g_0_15 hz, p_0_15 hz, g_0_16 hz, p_0_16 hz, g_0_17 hz, p_0_17 hz, g_0_18 hz, p_0_18 hz, r_0_19 hz, ↓c_1 hz, g_1_0 hz, p_1_0 hz, r_1_1 hz, g_1_2 hz, p_1_2 hz, r_1_3 hz, r_1_4 hz, r_1_5 hz, r_1_6 hz, r_1_7 hz, r_1_8 hz, r_1_9 hz, g_1_10 hz, p_1_10 hz, r_1_11 hz, r_1_12 hz, r_1_13 hz, g_1_14 hz, p_1_14 hz, r_1_15 hz, g_1_16 hz, p_1_16 hz, l_2 hz, s_2 hz, n_2 hz, l_3 hz, s_3 hz, n_3 hz, l_4 hz, s_4 hz, n_4 hz, l_5 hz, s_5 hz, n_5 hz, l_6 hz, s_6 hz, n_6 hz, l_7 hz, s_7 hz, n_7 hz, l_8 hz, s_8 hz, n_8 hz, l_9 hz, s_9 hz, n_9 hz, l_10 hz, s_10 hz, n_10 hz, l_11 hz, s_11 hz, n_11 hz, l_12 hz, s_12 hz, n_12 hz, l_13 hz, ↓c_14 hz, g_14_0 hz, p_14_0 hz, r_14_1 hz, g_14_2 hz, p_14_2 hz, r_14_3 hz, r_14_4 hz, r_14_5 hz, r_14_6 hz, r_14_7 hz, r_14_8 hz, r_14_9 hz, g_14_10 hz, p_14_10 hz, r_14_11 hz, r_14_12 hz, r_14_13 hz, g_14_14 hz, p_14_14 hz, r_14_15 hz, g_14_16 hz, p_14_16 hz, l_15 hz, s_15 hz, n_15 hz, l_16 hz, s_16 hz, n_16 hz, l_17 hz, s_17 hz, n_17 hz, l_18 hz, s_18 hz, n_18 hz, l_19 hz, s_19 hz, n_19 hz, l_20 hz, s_20 hz, n_20 hz, l_21 hz, s_21 hz, n_21 hz, l_22 hz, s_22 hz, n_22 hz, l_23 hz, s_23 hz, n_23 hz, l_24 hz, s_24 hz, n_24 hz, l_25 hz, s_25 hz, n_25 hz, l_26 hz, l_27 hz, ↓c_28 hz, r_28_0 hz, g_28_1 hz, p_28_1 hz, g_28_2 hz, p_28_2 hz, l_29 hz, s_29 hz, n_29 hz, ↓c_30 hz, r_30_0 hz, g_30_1 hz, p_30_1 hz, g_30_2 hz, p_30_2 hz, l_31 hz, s_31 hz, n_31 hz, l_32 hz, s_32 hz, n_32 hz, ↓c_33 hz, r_33_0 hz, v_33_1 hz, w_33_1 hz, p_33_1 hz, g_33_2 hz, p_33_2 hz, g_33_3 hz, p_33_3 hz, g_33_4 hz, p_33_4 hz, g_33_5 hz, p_33_5 hz, g_33_6 hz, p_33_6 hz, g_33_7 hz, p_33_7 hz, g_33_8 hz, p_33_8 hz, g_33_9 hz, p_33_9 hz, ↓c_34 hz, g_34_0 hz, p_34_0 hz, g_34_1 hz, p_34_1 hz, r_34_2 hz, r_34_3 hz, l_35 hz, s_35 hz, n_35 hz, l_36 hz, s_36 hz, n_36 hz, ↓c_38 hz, r_38_0 hz, v_38_1 hz, w_38_1 hz, p_38_1 hz, g_38_2 hz, p_38_2 hz, g_38_3 hz, p_38_3 hz, g_38_4 hz, p_38_4 hz, g_38_5 hz, p_38_5 hz, l_39 hz, s_39 hz, n_39 hz, ↓c_40 hz, r_40_0 hz, r_40_1 hz, r_40_2 hz, r_40_3 hz, g_40_4 hz, p_40_4 hz, l_41 hz, s_41 hz, n_41 hz, l_42 hz, s_42 hz, n_42 hz, l_43 hz, s_43 hz, n_43 hz, l_44 hz, s_44 hz, n_44 hz, ↓c_45 hz, r_45_0 hz, r_45_1 hz, r_45_2 hz, r_45_3 hz, r_45_4 hz, g_45_5 hz, p_45_5 hz, l_46 hz, s_46 hz, n_46 hz, l_47 hz, s_47 hz, n_47 hz, l_48 hz, s_48 hz, n_48 hz, l_49 hz, s_49 hz, n_49 hz, l_50 hz, s_50 hz, n_50 hz, ↓c_51 hz, r_51_0 hz, r_51_1 hz, r_51_2 hz, r_51_3 hz, r_51_4 hz, g_51_5 hz, p_51_5 hz, g_51_6 hz, p_51_6 hz, l_52 hz, s_52 hz, n_52 hz, l_53 hz, s_53 hz, n_53 hz, l_54 hz, s_54 hz, n_54 hz, l_55 hz, s_55 hz, n_55 hz, l_56 hz, s_56 hz, n_56 hz, l_57 hz, s_57 hz, n_57 hz, hO_s, hI_s, hL_s, hQ_s, hQ_n, hR_s, hV_s, hN_n, hN_s, cond_true, lI_0, lI_1, sI_0, sI_1, lL_0, lL_1, ↓reduceIte, not_true_eq_false, not_false_eq_true, Nat.reduceEqDiff, Nat.reduceAdd, Nat.reduceMul, Nat.reduceSub, Nat.reduceLeDiff, Nat.reduceLT, li_2, li_3, li_4, li_5, li_6, li_7, li_8, li_9, li_10, li_11, li_12, li_13, li_14, li_15, li_16, li_17, li_18, li_19, li_20, li_21, li_22, li_23, li_24, li_25, li_26, li_27, li_28, li_29, li_30, li_31, li_32, li_33, li_34, li_35, li_36, li_37, li_38, li_39, li_40, li_41, li_42, li_43, li_44, li_45, li_46, li_47, li_48, li_49, li_50, li_51, li_52, li_53, li_54, li_55, li_56, li_57, li_58, li_59, li_60, li_61, li_62, li_63, li_64, li_65, li_66, li_67, li_68, li_69, li_70, li_71, li_72, li_73, li_74, li_75, li_76, li_77, li_78, li_79, li_80, li_81, li_82, li_83, li_84, li_85, li_86, li_87, li_88, li_89, li_90, li_91, li_92, li_93, li_94, li_95, li_96, li_97, li_98, li_99, li_100, li_101, li_102, li_103, li_104, li_105, li_106, li_107, li_108, li_109, li_110, li_111, li_112, li_113, li_114, li_115, li_116, li_117, li_118, li_119, li_120, li_121, li_122, li_255, li_400, li_608, li_998, li_999, li_1000, li_1024, li_1103, li_2400, li_2911, li_4095, li_4096, li_5711, li_9999, li_12345, li_1000000, li_1000003, li_252645135, li_858993459, li_1431655765, k1, k2, k3, k4, i1]
          · rw [if_neg h4]
            exact ⟨i2, ((((q1.tr q2).tr q3).tr q4).fr 0).fg.tr i3.fg⟩
theorem t_orderHead (hz : Sh z) (ht : Tx z) {t l c n : Nat} (hp : PS T L true f t l c) (h0 : f 34 0 = wI n) (hn : n < 12) (hct : c ≤ t) {d : Nat} (hd : 32 ≤ d) : ∃ f', EC d mReader_readOrderHead [.ref 33] (mkM f z) = some (none, mkM f' z) ∧ HO T L true f n c (pOrdHT (cdT T L) (vlT T L) c t l) f' := by
  obtain ⟨d, rfl⟩ : ∃ e, d = e + 1 := ⟨d - 1, by omega⟩
  obtain ⟨f1, i1, i2⟩ := t_orderHead1 hz ht hp h0 hn hct (d := d) (by omega)
  rw [i1]
  unfold pOrdHT
  cases hR : pOrdH1 (cdT T L) (vlT T L) c t l with
  | inl e =>
    rw [hR] at i2
    exact ⟨f1, g_times hz i2.1, i2⟩
  | inr h =>
    rw [hR] at i2
    obtain ⟨j1, j2, j3, j4, j5⟩ := i2
    have htm : h.2.2.2.1 = 1 := by
      unfold pOrdH1 pTwo1 pOne at hR
      repeat' split at hR
      all_goals first | (cases hR; rfl) | (cases hR; done)
    rw [htm] at j3
    obtain ⟨f2, k1, k2⟩ := t_times hz ht j1 j2 hn j3 (d := d) (by omega)
    refine ⟨f2, k1, ?_⟩
    dsimp only
    cases hT : pTimes (cdT T L) (vlT T L) h.1 with
    | inl e => rw [hT] at k2; exact ⟨k2.1, j4.1.tr k2.2⟩
    | inr m =>
      rw [hT] at k2
      obtain ⟨l1, l2, l3, l4⟩ := k2
      refine ⟨l1, l2, l3, j4.t2 (l4.wk (Nat.le_refl _) (by omega)), fun i hi => ?_⟩
      have hi' : i < (h.2.2.2.2.1 ++ h.2.2.2.2.2.1).length := hi
      rw [l4.2.2 _ (by rw [List.length_append] at hi'; omega)]
      exact j5 i hi
/-- a whole CLAUSE -/
def CO (T : Nat → Nat) (L : Nat) (o : Bool) (f : Nat → Nat → Int32) (n c : Nat) (R : Nat ⊕ CL) (f' : Nat → Nat → Int32) : Prop := match R with
  | .inl e => FS T L o f' (plB T L e) ∧ Fg f f'
  | .inr q => PS T L o f' q.1 q.2.1 (c + q.2.2.2.1.length) ∧ f' 34 0 = wI (n + 1) ∧ (∀ j, j < 6 → f' 35 (n * 6 + j) = wI (q.2.2.1.getD j 0)) ∧ FrC (n * 6) c f f' ∧ ∀ i, i < q.2.2.2.1.length → f' 36 (c + i) = wI (q.2.2.2.1.getD i 0)
theorem clause_of (hz : Sh z) (ht : Tx z) {t l c n : Nat} {hdf : Nat → Nat → Nat → Nat ⊕ CH} {f1 : Nat → Nat → Int32} (h1 : HO T L o f n c (hdf c t l) f1) (hct : ∀ h, hdf c t l = .inr h → c + h.2.2.2.2.1.length + h.2.2.2.2.2.1.length ≤ h.1) (hn : n < 12) {d : Nat} (hd : 43 ≤ d) :
    ∃ f', EC d mReader_readCondition [.ref 33] (mkM f1 z) = some (none, mkM f' z) ∧ CO T L o f n c (pCl o (cdT T L) (vlT T L) hdf c t l) f' := by
  unfold pCl
  cases hR : hdf c t l with
  | inl e =>
    rw [hR] at h1
    exact ⟨f1, g_cond hz h1.1 (by omega), h1⟩
  | inr h =>
    rw [hR] at h1
    obtain ⟨j1, j2, j3, j4, j5⟩ := h1
    obtain ⟨f2, k1, k2⟩ := t_cond hz ht j1 j2 hn (hct h hR) j3 hd
    refine ⟨f2, k1, ?_⟩
    dsimp only
    cases hI : pIf o (cdT T L) (vlT T L) (c + h.2.2.2.2.1.length + h.2.2.2.2.2.1.length) h.1 h.2.1 with
    | inl e => rw [hI] at k2; exact ⟨k2.1, j4.1.tr k2.2⟩
    | inr r =>
      rw [hI] at k2
      obtain ⟨l1, l2, ⟨m1, m2, m3, m4, m5, m6⟩, l4, l5⟩ := k2
      refine ⟨?_, l2, ?_, j4.t2 (l4.wk (Nat.le_refl _) (by omega)), ?_⟩
      · dsimp only
        rw [show c + (h.2.2.2.2.1 ++ (h.2.2.2.2.2.1 ++ r.2.2.1)).length = c + h.2.2.2.2.1.length + h.2.2.2.2.2.1.length + r.2.2.1.length by simp only [List.length_append]; omega]
        exact l1
      · intro j hj
        rw [Nat.add_sub_cancel] at m1 m2 m3 m4 m5 m6
        match j, hj with
        | 0, _ => exact m1
        | 1, _ => exact m2
        | 2, _ => exact m3
        | 3, _ => exact m4
        | 4, _ => exact m5
        | 5, _ => exact m6
      · dsimp only
        rw [← List.append_assoc]
        refine st_app (fun i hi => ?_) ?_
        · rw [l4.2.2 _ (by rw [List.length_append] at hi; omega)]
          exact j5 i hi
        · rw [List.length_append, ← Nat.add_assoc]
          exact l5
theorem ok_one {C V : Nat → Nat} {k c t l : Nat} {h : CH} (hR : pOne o C V k c t l = .inr h) : t + h.2.2.2.2.1.length + h.2.2.2.2.2.1.length ≤ h.1 := by
  unfold pOne at hR
  cases e1 : pSum o C V 8 c t l with
  | inl e => rw [e1] at hR; cases hR
  | inr q =>
    rw [e1] at hR
    cases hR
    obtain ⟨⟨a1, a2, a3, a4, a5⟩, a6, a7⟩ := ok_sum 8 _ _ _ _ e1
    exact a4
theorem ok_two1 {C V : Nat → Nat} {w k c t l : Nat} {h : CH} (hw : w ≠ 0) (hR : pTwo1 C V w k c t l = .inr h) : t + h.2.2.2.2.1.length + h.2.2.2.2.2.1.length ≤ h.1 := by
  unfold pTwo1 at hR
  cases e1 : pTwo C V w k c t l with
  | inl e => rw [e1] at hR; cases hR
  | inr q =>
    rw [e1] at hR
    cases hR
    exact (ok_two hw e1).2.2.1
theorem ok_lawH {C V : Nat → Nat} {c t l : Nat} {h : CH} (hR : pLawH C V c t l = .inr h) (hct : c ≤ t) : c + h.2.2.2.2.1.length + h.2.2.2.2.2.1.length ≤ h.1 := by
  unfold pLawH at hR
  split at hR
  · have := ok_one hR; omega
  · split at hR
    · have := ok_one hR; omega
    · split at hR
      · cases hR
        dsimp only [List.length_nil]; omega
      · cases hR
theorem ok_ordHT {C V : Nat → Nat} {c t l : Nat} {h : CH} (hR : pOrdHT C V c t l = .inr h) (hct : c ≤ t) : c + h.2.2.2.2.1.length + h.2.2.2.2.2.1.length ≤ h.1 := by
  unfold pOrdHT at hR
  cases e1 : pOrdH1 C V c t l with
  | inl e => rw [e1] at hR; cases hR
  | inr h1 =>
    rw [e1] at hR
    dsimp only at hR
    cases e2 : pTimes C V h1.1 with
    | inl e => rw [e2] at hR; cases hR
    | inr m =>
      rw [e2] at hR
      cases hR
      have b1 := (ok_times e2).1
      dsimp only
      unfold pOrdH1 at e1
      split at e1
      · have := ok_two1 (by decide) e1; omega
      · split at e1
        · have := ok_one e1; omega
        · split at e1
          · have := ok_two1 (by decide) e1; omega
          · split at e1
            · cases e1
              dsimp only [List.length_nil] at b1 ⊢; omega
            · cases e1
end
