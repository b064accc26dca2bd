/-! ===== the reference: law ===== -/
theorem LT_cg {N M : Nat → Nat} {i : Nat} {cls : List CL} (h : LT N i cls) (h1 : M (104 + i) = N (104 + i)) (h2 : ∀ t, t < 400 → M (111 + (400 * i + t)) = N (111 + (400 * i + t)) ∧ M (2911 + (400 * i + t)) = N (2911 + (400 * i + t))) : LT M i cls := by
  obtain ⟨a, b⟩ := h
  have hc : cdN M (400 * i) (M (104 + i)) = cdN N (400 * i) (N (104 + i)) := by
    funext t
    unfold cdN
    rw [h1]
    split
    · exact (h2 t (by omega)).1
    · rfl
  refine ⟨by omega, ?_⟩
  rw [hc, pv_law (V := vlN M (400 * i)) (W := vlN N (400 * i)) (fun t ht => ?_), h1]
  · exact b
  · have := cdN_lt (N := N) (A := 400 * i) (n := N (104 + i)) (t := t) (by rw [ht]; decide)
    exact (h2 t (by omega)).2
def upN (N : Nat → Nat) (k v : Nat) : Nat → Nat := fun j => if j = k then v else N j
theorem upN_eq {N : Nat → Nat} {k v : Nat} : upN N k v k = v := if_pos rfl
theorem upN_ne {N : Nat → Nat} {k v j : Nat} (h : j ≠ k) : upN N k v j = N j := if_neg h
theorem MK_60 {f f' : Nat → Nat → Int32} {N : Nat → Nat} (h : MK f N) (e : f' 60 = f 60) : MK f' N := by unfold MK; rw [e]; exact h
/-- kept numbers when the TEXT of T becomes a law -/
def lawN (N : Nat → Nat) (T : Nat → Nat) (L : Nat) : Nat → Nat := upN (layN N (N 102) (nT T L) (nT T L) (cdT T L) (vlT T L)) 102 (N 102 + 1)
theorem lawN_lo {N T : Nat → Nat} {L j : Nat} (h : j < 104) (h2 : j ≠ 102) : lawN N T L j = N j := by
  unfold lawN
  rw [upN_ne h2]
  unfold layN
  rw [if_neg (by omega), if_neg (by omega), if_neg (by omega)]
theorem lawN_102 {N T : Nat → Nat} {L : Nat} : lawN N T L 102 = N 102 + 1 := upN_eq
theorem lawN_VK {N T : Nat → Nat} {L : Nat} (hv : VK N) (h6 : N 102 < 6) (hL : L ≤ 400) (hT : ∀ k, T k < 256) : VK (lawN N T L) := by
  obtain ⟨hB, v99, v100, v101, v102, v103, v36, v97, v98, vp, vs, vo, vf⟩ := hv
  have hnL := nT_le (T := T) (L := L)
  refine ⟨fun j => ?_, ?_, ?_, ?_, ?_, ?_, ?_, ?_, ?_, fun j hj => ?_, fun j hj => ?_, fun j hj => ?_, fun j hj => ?_⟩
  · by_cases e : j = 102
    · rw [e, lawN_102]; omega
    · unfold lawN
      rw [upN_ne e]
      unfold layN
      have h1 := cdT_lt (T := T) (L := L) (t := j - (111 + 400 * N 102)) hT
      have h2 := vlT_le (T := T) (L := L) (t := j - (2911 + 400 * N 102)) hT
      have h3 := hB j
      repeat' split
      all_goals omega
  · rw [lawN_lo (by omega) (by omega)]; exact v99
  · rw [lawN_lo (by omega) (by omega)]; exact v100
  · rw [lawN_lo (by omega) (by omega)]; exact v101
  · rw [lawN_102]; omega
  · rw [lawN_102, lawN_lo (by omega) (by omega)]; omega
  · rw [lawN_lo (by omega) (by omega)]; exact v36
  · rw [lawN_lo (by omega) (by omega)]; exact v97
  · rw [lawN_lo (by omega) (by omega)]; exact v98
  · rw [lawN_lo (by omega) (by omega)]; exact vp j hj
  · rw [lawN_lo (by omega) (by omega), lawN_lo (by omega) (by omega), lawN_lo (by omega) (by omega), lawN_lo (by omega) (by omega), lawN_lo (by omega) (by omega), lawN_lo (by omega) (by omega), lawN_lo (by omega) (by omega), lawN_lo (by omega) (by omega), lawN_lo (by omega) (by omega)]
    exact vs j hj
  · rw [lawN_lo (by omega) (by omega)] at hj
    rw [lawN_lo (by omega) (by omega), lawN_lo (by omega) (by omega), lawN_lo (by omega) (by omega), lawN_lo (by omega) (by omega)]
    exact vo j hj
  · rw [lawN_lo (by omega) (by omega)] at hj
    rw [lawN_lo (by omega) (by omega)]
    exact vf j hj
theorem lawN_LT {N T : Nat → Nat} {L : Nat} {cls : List CL} (h6 : N 102 < 6) (hL : L ≤ 400) (hp : pText (cdT T L) (pLawC (cdT T L) (vlT T L)) (nT T L) 12 0 0 0 = .inr cls) : LT (lawN N T L) (N 102) cls := by
  have hnL := nT_le (T := T) (L := L)
  refine LT_of hL ?_ (fun t ht => ⟨?_, ?_⟩) hp
  · unfold lawN layN
    rw [upN_ne (by omega), if_pos rfl]
  · unfold lawN layN
    rw [upN_ne (by omega), if_neg (by omega), if_pos (by omega), show 111 + (400 * N 102 + t) - (111 + 400 * N 102) = t by omega]
  · unfold lawN layN
    rw [upN_ne (by omega), if_neg (by omega), if_neg (by omega), if_pos (by omega), show 2911 + (400 * N 102 + t) - (2911 + 400 * N 102) = t by omega]
theorem lawN_LT2 {N T : Nat → Nat} {L i : Nat} {cls : List CL} (h6 : N 102 < 6) (hi : i < N 102) (hL : L ≤ 400) (h : LT N i cls) : LT (lawN N T L) i cls := by
  have hnL := nT_le (T := T) (L := L)
  refine LT_cg h ?_ (fun t ht => ⟨?_, ?_⟩)
  · unfold lawN layN
    rw [upN_ne (by omega), if_neg (by omega), if_neg (by omega), if_neg (by omega)]
  · unfold lawN layN
    rw [upN_ne (by omega), if_neg (by omega), if_neg (by omega), if_neg (by omega)]
  · unfold lawN layN
    rw [upN_ne (by omega), if_neg (by omega), if_neg (by omega), if_neg (by omega)]
/-- what law changes in the reference -/
def LMF (f f' : Nat → Nat → Int32) : Prop := (∀ a, a ≠ 58 → a ≠ 59 → a ≠ 60 → a ≠ 67 → a ≠ 68 → a ≠ 69 → f' a = f a) ∧ ∀ k, k ≠ 0 → k ≠ 8 → k ≠ 9 → k ≠ 10 → k ≠ 13 → k ≠ 14 → k ≠ 18 → k ≠ 19 → k ≠ 20 → k ≠ 21 → f' 58 k = f 58 k
section
variable {z : Mem} {f : Nat → Nat → Int32} {N : Nat → Nat} {T : Nat → Nat} {L : Nat}
theorem m_law_full (hz : Sh z) (hm : MK f N) (h6 : N 102 = 6) {d : Nat} (hd : 2 ≤ d) : EC d mM_law [.ref 58] (mkM f z) = some (some (.int (-5)), mkM (up (up f 58 (upd (upd (f 58) 13 0) 0 (-5))) 59 (upd (f 59) 5 (f 59 5 + 1))) z) := by
  obtain ⟨d, rfl⟩ : ∃ e, d = e + 1 := ⟨d - 1, by omega⟩
  have h102 : f 60 102 = wI 6 := by rw [hm.1 102 (by decide) (by decide), h6]
  have i1 := t_M_refuses (f := up f 58 (upd (f 58) 13 0)) hz (d := d) (by omega) (k := 5) (by decide)
  rw [q_M_law]
  simp -dsimp (disch := omega) only [↓c_58 hz, g_58_0 hz, p_58_0 hz, r_58_1 hz, r_58_2 hz, r_58_3 hz, r_58_4 hz, r_58_5 hz, g_58_6 hz, p_58_6 hz, r_58_7 hz, g_58_8 hz, p_58_8 hz, g_58_9 hz, p_58_9 hz, g_58_10 hz, p_58_10 hz, r_58_11 hz, r_58_12 hz, g_58_13 hz, p_58_13 hz, g_58_14 hz, p_58_14 hz, r_58_15 hz, r_58_16 hz, r_58_17 hz, g_58_18 hz, p_58_18 hz, g_58_19 hz, p_58_19 hz, g_58_20 hz, p_58_20 hz, g_58_21 hz, p_58_21 hz, g_58_22 hz, p_58_22 hz, g_58_23 hz, p_58_23 hz, g_58_24 hz, p_58_24 hz, g_58_25 hz, p_58_25 hz, r_58_26 hz, g_58_27 hz, p_58_27 hz, g_58_28 hz, p_58_28 hz, r_58_29 hz, r_58_30 hz, g_58_31 hz, p_58_31 hz, r_58_32 hz, r_58_33 hz, r_58_34 hz, r_58_35 hz, r_58_36 hz, r_58_37 hz, g_58_38 hz, p_58_38 hz, r_58_39 hz, r_58_40 hz, r_58_41 hz, g_58_42 hz, p_58_42 hz, g_58_43 hz, p_58_43 hz, g_58_44 hz, p_58_44 hz, g_58_45 hz, p_58_45 hz, g_58_46 hz, p_58_46 hz, g_58_47 hz, p_58_47 hz, g_58_48 hz, p_58_48 hz, r_58_49 hz, r_58_50 hz, r_58_51 hz, r_58_52 hz, g_58_53 hz, p_58_53 hz, g_58_54 hz, p_58_54 hz, g_58_55 hz, p_58_55 hz, l_59 hz, s_59 hz, n_59 hz, l_60 hz, s_60 hz, n_60 hz, l_61 hz, s_61 hz, n_61 hz, l_62 hz, s_62 hz, n_62 hz, l_63 hz, s_63 hz, n_63 hz, l_64 hz, s_64 hz, n_64 hz, l_65 hz, s_65 hz, n_65 hz, l_66 hz, s_66 hz, n_66 hz, l_67 hz, s_67 hz, n_67 hz, l_68 hz, s_68 hz, n_68 hz, l_69 hz, s_69 hz, n_69 hz, l_70 hz, s_70 hz, n_70 hz, l_71 hz, s_71 hz, n_71 hz, l_72 hz, s_72 hz, n_72 hz, l_73 hz, s_73 hz, n_73 hz, l_74 hz, s_74 hz, n_74 hz, l_75 hz, s_75 hz, n_75 hz, l_76 hz, s_76 hz, n_76 hz, l_77 hz, s_77 hz, n_77 hz, l_78 hz, s_78 hz, n_78 hz, l_79 hz, s_79 hz, n_79 hz, l_80 hz, s_80 hz, n_80 hz, l_81 hz, s_81 hz, n_81 hz, l_82 hz, s_82 hz, l_83 hz, s_83 hz, n_83 hz, l_84 hz, s_84 hz, n_84 hz, l_85 hz, s_85 hz, n_85 hz, hO_s, hI_s, hL_s, hQ_s, hQ_n, hR_s, hV_s, hN_n, hN_s, cond_true, lI_0, lI_1, sI_0, sI_1, lL_0, lL_1, ↓reduceIte, not_true_eq_false, not_false_eq_true, Nat.reduceEqDiff, Nat.reduceAdd, Nat.reduceMul, Nat.reduceSub, Nat.reduceLeDiff, Nat.reduceLT, li_2, li_3, li_4, li_5, li_6, li_7, li_8, li_9, li_10, li_11, li_12, li_13, li_14, li_15, li_16, li_17, li_18, li_19, li_20, li_21, li_22, li_23, li_24, li_25, li_26, li_27, li_28, li_29, li_30, li_31, li_32, li_33, li_34, li_35, li_36, li_37, li_38, li_39, li_40, li_41, li_42, li_43, li_44, li_45, li_46, li_47, li_48, li_49, li_50, li_51, li_52, li_53, li_54, li_55, li_56, li_57, li_58, li_59, li_60, li_61, li_62, li_63, li_64, li_65, li_66, li_67, li_68, li_69, li_70, li_71, li_72, li_73, li_74, li_75, li_76, li_77, li_78, li_79, li_80, li_81, li_82, li_83, li_84, li_85, li_86, li_87, li_88, li_89, li_90, li_91, li_92, li_93, li_94, li_95, li_96, li_97, li_98, li_99, li_100, li_101, li_102, li_103, li_104, li_105, li_106, li_107, li_108, li_109, li_110, li_111, li_112, li_113, li_114, li_115, li_116, li_117, li_118, li_119, li_120, li_121, li_122, li_255, li_400, li_608, li_998, li_999, li_1000, li_1024, li_1103, li_2400, li_2911, li_4095, li_4096, li_5711, li_9999, li_12345, li_1000000, li_1000003, li_252645135, li_858993459, li_1431655765, h102, eq_self, i1, up_up, up_eq, up_ne]
theorem m_law_bad (hz : Sh z) (hm : MK f N) (h6 : N 102 < 6) (hL : L ≤ 400) (hT : ∀ k, T k < 256) (hw : WRD f) (h65 : ∀ k, k < L → f 65 k = sgb (T k)) (h13 : f 58 13 = wI L) {e : Nat} (hp : pText (cdT T L) (pLawC (cdT T L) (vlT T L)) (nT T L) 12 0 0 0 = .inl e) {d : Nat} (hd : 47 ≤ d) : ∃ f', EC d mM_law [.ref 58] (mkM f z) = some (some (.int (-6)), mkM f' z) ∧ LMF f f' ∧ f' 60 = f 60 ∧ f' 58 13 = 0 ∧ f' 58 14 = wI (plB T L e) ∧ f' 58 0 = -6 ∧ f' 59 = upd (f 59) 6 (f 59 6 + 1) := by
  obtain ⟨d, rfl⟩ : ∃ e, d = e + 1 := ⟨d - 1, by omega⟩
  have h102 : f 60 102 = wI (N 102) := hm.1 102 (by decide) (by decide)
  have n6 : ¬ N 102 = 6 := by omega
  obtain ⟨w, f1, i1, ⟨r1, r2⟩, r13, -, -, r4⟩ := m_readsAs_law hz hL hT hw h65 h13 (d := d) (by omega)
  rw [hp] at r4
  obtain ⟨rfl, r14⟩ := r4
  rw [bz_neg (by decide)] at i1
  have i2 := t_M_refuses (f := f1) hz (d := d) (by omega) (k := 6) (by decide)
  refine ⟨up (up f1 58 (upd (f1 58) 0 (-6))) 59 (upd (f1 59) 6 (f1 59 6 + 1)), ?_, ⟨fun a a1 a2 a3 a4 a5 a6 => ?_, fun k b0 b1 b2 b3 b4 b5 b6 b7 b8 b9 => ?_⟩, ?_, ?_, ?_, ?_, ?_⟩
  · rw [q_M_law]
    simp -dsimp (disch := omega) only [↓c_58 hz, g_58_0 hz, p_58_0 hz, r_58_1 hz, r_58_2 hz, r_58_3 hz, r_58_4 hz, r_58_5 hz, g_58_6 hz, p_58_6 hz, r_58_7 hz, g_58_8 hz, p_58_8 hz, g_58_9 hz, p_58_9 hz, g_58_10 hz, p_58_10 hz, r_58_11 hz, r_58_12 hz, g_58_13 hz, p_58_13 hz, g_58_14 hz, p_58_14 hz, r_58_15 hz, r_58_16 hz, r_58_17 hz, g_58_18 hz, p_58_18 hz, g_58_19 hz, p_58_19 hz, g_58_20 hz, p_58_20 hz, g_58_21 hz, p_58_21 hz, g_58_22 hz, p_58_22 hz, g_58_23 hz, p_58_23 hz, g_58_24 hz, p_58_24 hz, g_58_25 hz, p_58_25 hz, r_58_26 hz, g_58_27 hz, p_58_27 hz, g_58_28 hz, p_58_28 hz, r_58_29 hz, r_58_30 hz, g_58_31 hz, p_58_31 hz, r_58_32 hz, r_58_33 hz, r_58_34 hz, r_58_35 hz, r_58_36 hz, r_58_37 hz, g_58_38 hz, p_58_38 hz, r_58_39 hz, r_58_40 hz, r_58_41 hz, g_58_42 hz, p_58_42 hz, g_58_43 hz, p_58_43 hz, g_58_44 hz, p_58_44 hz, g_58_45 hz, p_58_45 hz, g_58_46 hz, p_58_46 hz, g_58_47 hz, p_58_47 hz, g_58_48 hz, p_58_48 hz, r_58_49 hz, r_58_50 hz, r_58_51 hz, r_58_52 hz, g_58_53 hz, p_58_53 hz, g_58_54 hz, p_58_54 hz, g_58_55 hz, p_58_55 hz, l_59 hz, s_59 hz, n_59 hz, l_60 hz, s_60 hz, n_60 hz, l_61 hz, s_61 hz, n_61 hz, l_62 hz, s_62 hz, n_62 hz, l_63 hz, s_63 hz, n_63 hz, l_64 hz, s_64 hz, n_64 hz, l_65 hz, s_65 hz, n_65 hz, l_66 hz, s_66 hz, n_66 hz, l_67 hz, s_67 hz, n_67 hz, l_68 hz, s_68 hz, n_68 hz, l_69 hz, s_69 hz, n_69 hz, l_70 hz, s_70 hz, n_70 hz, l_71 hz, s_71 hz, n_71 hz, l_72 hz, s_72 hz, n_72 hz, l_73 hz, s_73 hz, n_73 hz, l_74 hz, s_74 hz, n_74 hz, l_75 hz, s_75 hz, n_75 hz, l_76 hz, s_76 hz, n_76 hz, l_77 hz, s_77 hz, n_77 hz, l_78 hz, s_78 hz, n_78 hz, l_79 hz, s_79 hz, n_79 hz, l_80 hz, s_80 hz, n_80 hz, l_81 hz, s_81 hz, n_81 hz, l_82 hz, s_82 hz, l_83 hz, s_83 hz, n_83 hz, l_84 hz, s_84 hz, n_84 hz, l_85 hz, s_85 hz, n_85 hz, hO_s, hI_s, hL_s, hQ_s, hQ_n, hR_s, hV_s, hN_n, hN_s, cond_true, lI_0, lI_1, sI_0, sI_1, lL_0, lL_1, ↓reduceIte, not_true_eq_false, not_false_eq_true, Nat.reduceEqDiff, Nat.reduceAdd, Nat.reduceMul, Nat.reduceSub, Nat.reduceLeDiff, Nat.reduceLT, li_2, li_3, li_4, li_5, li_6, li_7, li_8, li_9, li_10, li_11, li_12, li_13, li_14, li_15, li_16, li_17, li_18, li_19, li_20, li_21, li_22, li_23, li_24, li_25, li_26, li_27, li_28, li_29, li_30, li_31, li_32, li_33, li_34, li_35, li_36, li_37, li_38, li_39, li_40, li_41, li_42, li_43, li_44, li_45, li_46, li_47, li_48, li_49, li_50, li_51, li_52, li_53, li_54, li_55, li_56, li_57, li_58, li_59, li_60, li_61, li_62, li_63, li_64, li_65, li_66, li_67, li_68, li_69, li_70, li_71, li_72, li_73, li_74, li_75, li_76, li_77, li_78, li_79, li_80, li_81, li_82, li_83, li_84, li_85, li_86, li_87, li_88, li_89, li_90, li_91, li_92, li_93, li_94, li_95, li_96, li_97, li_98, li_99, li_100, li_101, li_102, li_103, li_104, li_105, li_106, li_107, li_108, li_109, li_110, li_111, li_112, li_113, li_114, li_115, li_116, li_117, li_118, li_119, li_120, li_121, li_122, li_255, li_400, li_608, li_998, li_999, li_1000, li_1024, li_1103, li_2400, li_2911, li_4095, li_4096, li_5711, li_9999, li_12345, li_1000000, li_1000003, li_252645135, li_858993459, li_1431655765, h102, wI_eq, n6, i1, i2]
  · rw [up_ne _ _ _ a2, up_ne _ _ _ a1, r1 a a1 a4 a5 a6]
  · rw [up_ne _ _ _ (by decide), up_eq, upd_ne _ _ _ b0, r2 k b1 b2 b3 b4 b5 b6 b7 b8 b9]
  · rw [up_ne _ _ _ (by decide), up_ne _ _ _ (by decide), r1 60 (by decide) (by decide) (by decide) (by decide)]
  · rw [up_ne _ _ _ (by decide), up_eq, upd_ne _ _ _ (by decide), r13]
  · rw [up_ne _ _ _ (by decide), up_eq, upd_ne _ _ _ (by decide), r14]
  · rw [up_ne _ _ _ (by decide), up_eq, upd_eq]
  · rw [up_eq, r1 59 (by decide) (by decide) (by decide) (by decide)]
theorem m_law_ok (hz : Sh z) (hm : MK f N) (hv : VK N) (h6 : N 102 < 6) (hL : L ≤ 400) (hT : ∀ k, T k < 256) (hw : WRD f) (h65 : ∀ k, k < L → f 65 k = sgb (T k)) (h13 : f 58 13 = wI L) {cls : List CL} (hp : pText (cdT T L) (pLawC (cdT T L) (vlT T L)) (nT T L) 12 0 0 0 = .inr cls) {d : Nat} (hd : 47 ≤ d) : ∃ f', EC d mM_law [.ref 58] (mkM f z) = some (some (.int (wI (N 102))), mkM f' z) ∧ LMF f f' ∧ MK f' (lawN N T L) ∧ f' 58 13 = 0 ∧ f' 58 14 = -1 ∧ f' 58 0 = 0 ∧ f' 59 = f 59 := by
  obtain ⟨d, rfl⟩ : ∃ e, d = e + 1 := ⟨d - 1, by omega⟩
  have e1 : ((1 : Int32) = 0) = False := eq_false (by decide)
  have h102 : f 60 102 = wI (N 102) := hm.1 102 (by decide) (by decide)
  have n6 : ¬ N 102 = 6 := by omega
  have hnL := nT_le (T := T) (L := L)
  obtain ⟨w, f1, i1, ⟨r1, r2⟩, r13, r18, rk, r4⟩ := m_readsAs_law hz hL hT hw h65 h13 (d := d) (by omega)
  rw [hp] at r4
  obtain ⟨rfl, r14⟩ := r4
  rw [bz_pos rfl] at i1
  have e60 : f1 60 = f 60 := r1 60 (by decide) (by decide) (by decide) (by decide)
  obtain ⟨g, j1, j2⟩ := m_lays hz (MK_60 hm e60) (i := N 102) (n := nT T L) (c := cdT T L) (v := vlT T L) (by omega) (by omega) r18 (fun t ht => ⟨(rk t (by omega)).1, (rk t (by omega)).2.1⟩) (d := d) (by omega)
  have g102 : g 102 = wI (N 102) := by
    have := j2.1 102 (by decide) (by decide)
    rw [up_eq] at this
    rw [this]
    unfold layN
    rw [if_neg (by omega), if_neg (by omega), if_neg (by omega)]
  have i2 := t_M_good (f := up f1 60 (upd g 102 (wI (N 102 + 1)))) hz (d := d) (by omega) (wI (N 102))
  have es : wI (N 102 + 1) - 1 = wI (N 102) := wI_sub1 (by omega)
  refine ⟨up (up f1 60 (upd g 102 (wI (N 102 + 1)))) 58 (upd (f1 58) 0 0), ?_, ⟨fun a a1 a2 a3 a4 a5 a6 => ?_, fun k b0 b1 b2 b3 b4 b5 b6 b7 b8 b9 => ?_⟩, ⟨fun j hj h3 => ?_, ?_⟩, ?_, ?_, ?_, ?_⟩
  · rw [q_M_law]
    simp -dsimp (disch := omega) only [↓c_58 hz, g_58_0 hz, p_58_0 hz, r_58_1 hz, r_58_2 hz, r_58_3 hz, r_58_4 hz, r_58_5 hz, g_58_6 hz, p_58_6 hz, r_58_7 hz, g_58_8 hz, p_58_8 hz, g_58_9 hz, p_58_9 hz, g_58_10 hz, p_58_10 hz, r_58_11 hz, r_58_12 hz, g_58_13 hz, p_58_13 hz, g_58_14 hz, p_58_14 hz, r_58_15 hz, r_58_16 hz, r_58_17 hz, g_58_18 hz, p_58_18 hz, g_58_19 hz, p_58_19 hz, g_58_20 hz, p_58_20 hz, g_58_21 hz, p_58_21 hz, g_58_22 hz, p_58_22 hz, g_58_23 hz, p_58_23 hz, g_58_24 hz, p_58_24 hz, g_58_25 hz, p_58_25 hz, r_58_26 hz, g_58_27 hz, p_58_27 hz, g_58_28 hz, p_58_28 hz, r_58_29 hz, r_58_30 hz, g_58_31 hz, p_58_31 hz, r_58_32 hz, r_58_33 hz, r_58_34 hz, r_58_35 hz, r_58_36 hz, r_58_37 hz, g_58_38 hz, p_58_38 hz, r_58_39 hz, r_58_40 hz, r_58_41 hz, g_58_42 hz, p_58_42 hz, g_58_43 hz, p_58_43 hz, g_58_44 hz, p_58_44 hz, g_58_45 hz, p_58_45 hz, g_58_46 hz, p_58_46 hz, g_58_47 hz, p_58_47 hz, g_58_48 hz, p_58_48 hz, r_58_49 hz, r_58_50 hz, r_58_51 hz, r_58_52 hz, g_58_53 hz, p_58_53 hz, g_58_54 hz, p_58_54 hz, g_58_55 hz, p_58_55 hz, l_59 hz, s_59 hz, n_59 hz, l_60 hz, s_60 hz, n_60 hz, l_61 hz, s_61 hz, n_61 hz, l_62 hz, s_62 hz, n_62 hz, l_63 hz, s_63 hz, n_63 hz, l_64 hz, s_64 hz, n_64 hz, l_65 hz, s_65 hz, n_65 hz, l_66 hz, s_66 hz, n_66 hz, l_67 hz, s_67 hz, n_67 hz, l_68 hz, s_68 hz, n_68 hz, l_69 hz, s_69 hz, n_69 hz, l_70 hz, s_70 hz, n_70 hz, l_71 hz, s_71 hz, n_71 hz, l_72 hz, s_72 hz, n_72 hz, l_73 hz, s_73 hz, n_73 hz, l_74 hz, s_74 hz, n_74 hz, l_75 hz, s_75 hz, n_75 hz, l_76 hz, s_76 hz, n_76 hz, l_77 hz, s_77 hz, n_77 hz, l_78 hz, s_78 hz, n_78 hz, l_79 hz, s_79 hz, n_79 hz, l_80 hz, s_80 hz, n_80 hz, l_81 hz, s_81 hz, n_81 hz, l_82 hz, s_82 hz, l_83 hz, s_83 hz, n_83 hz, l_84 hz, s_84 hz, n_84 hz, l_85 hz, s_85 hz, n_85 hz, hO_s, hI_s, hL_s, hQ_s, hQ_n, hR_s, hV_s, hN_n, hN_s, cond_true, lI_0, lI_1, sI_0, sI_1, lL_0, lL_1, ↓reduceIte, not_true_eq_false, not_false_eq_true, Nat.reduceEqDiff, Nat.reduceAdd, Nat.reduceMul, Nat.reduceSub, Nat.reduceLeDiff, Nat.reduceLT, li_2, li_3, li_4, li_5, li_6, li_7, li_8, li_9, li_10, li_11, li_12, li_13, li_14, li_15, li_16, li_17, li_18, li_19, li_20, li_21, li_22, li_23, li_24, li_25, li_26, li_27, li_28, li_29, li_30, li_31, li_32, li_33, li_34, li_35, li_36, li_37, li_38, li_39, li_40, li_41, li_42, li_43, li_44, li_45, li_46, li_47, li_48, li_49, li_50, li_51, li_52, li_53, li_54, li_55, li_56, li_57, li_58, li_59, li_60, li_61, li_62, li_63, li_64, li_65, li_66, li_67, li_68, li_69, li_70, li_71, li_72, li_73, li_74, li_75, li_76, li_77, li_78, li_79, li_80, li_81, li_82, li_83, li_84, li_85, li_86, li_87, li_88, li_89, li_90, li_91, li_92, li_93, li_94, li_95, li_96, li_97, li_98, li_99, li_100, li_101, li_102, li_103, li_104, li_105, li_106, li_107, li_108, li_109, li_110, li_111, li_112, li_113, li_114, li_115, li_116, li_117, li_118, li_119, li_120, li_121, li_122, li_255, li_400, li_608, li_998, li_999, li_1000, li_1024, li_1103, li_2400, li_2911, li_4095, li_4096, li_5711, li_9999, li_12345, li_1000000, li_1000003, li_252645135, li_858993459, li_1431655765, wI_add, wI_mul, wI_add1, wI_1add, h102, wI_eq, n6, i1, e1, e60, j1, up_eq, up_up, g102, upd_eq, es, i2, up_ne]
  · rw [up_ne _ _ _ a1, up_ne _ _ _ a3, r1 a a1 a4 a5 a6]
  · rw [up_eq, upd_ne _ _ _ b0, r2 k b1 b2 b3 b4 b5 b6 b7 b8 b9]
  · rw [up_ne _ _ _ (by decide), up_eq]
    unfold lawN
    by_cases e : j = 102
    · rw [e, upd_eq, upN_eq]
    · rw [upd_ne _ _ _ e, upN_ne e]
      have := j2.1 j hj h3
      rw [up_eq] at this
      exact this
  · rw [up_ne _ _ _ (by decide), up_eq, upd_ne _ _ _ (by decide)]
    have := j2.2
    rw [up_eq] at this
    rw [this]
    unfold lawN
    rw [upN_ne (by decide)]
  · rw [up_eq, upd_ne _ _ _ (by decide), r13]
  · rw [up_eq, upd_ne _ _ _ (by decide), r14]
  · rw [up_eq, upd_eq]
  · rw [up_ne _ _ _ (by decide), up_ne _ _ _ (by decide), r1 59 (by decide) (by decide) (by decide) (by decide)]
end
