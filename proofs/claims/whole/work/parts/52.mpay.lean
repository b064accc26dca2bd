/-! ===== the reference: pays, worn, barred ===== -/
def LM (N : Nat → Nat) (cls : List CL) : Prop := (N 103 = 0 ∧ cls = []) ∨ ∃ i, N 103 = i + 1 ∧ i < 6 ∧ LT N i cls
theorem LA_LM {f : Nat → Nat → Int32} {z : Mem} {b : Nat} {N : Nat → Nat} {cls : List CL} (h : LA f z b N cls) : LM N cls := by
  rcases h with h | ⟨i, q, hl, sl, h1, h2, h3, h4, h5, h6, h7, h8⟩
  · exact Or.inl h
  · exact Or.inr ⟨i, h1, h2, h8⟩
/-- what asking changes in the reference -/
def EF (f f' : Nat → Nat → Int32) : Prop := (∀ a, a ≠ 58 → a ≠ 70 → f' a = f a) ∧ (∀ k, k ≠ 22 → k ≠ 23 → k ≠ 24 → k ≠ 25 → f' 58 k = f 58 k) ∧ ∃ br : Bool, f' 58 24 = bz (br = true)
theorem EF.tr {f g h : Nat → Nat → Int32} (h1 : EF f g) (h2 : EF g h) : EF f h := by
  refine ⟨fun a ha hb => by rw [h2.1 a ha hb, h1.1 a ha hb], fun k a b c d => by rw [h2.2.1 k a b c d, h1.2.1 k a b c d], h2.2.2⟩
theorem EF.mk {f f' : Nat → Nat → Int32} {N : Nat → Nat} (h : EF f f') (hm : MK f N) : MK f' N := by
  unfold MK
  rw [h.1 60 (by decide) (by decide)]
  exact hm
section
variable {z : Mem} {f : Nat → Nat → Int32} {N : Nat → Nat} {dn lt : Int} {cls : List CL}
theorem t_M_tells (hz : Sh z) (hm : MK f N) (hv : VK N) (hl : LM N cls) (hdn : -1000000000 ≤ dn ∧ dn ≤ 1000000000) (hlt : -1000000000 ≤ lt ∧ lt ≤ 1000000000) {br : Bool} (hbr : f 58 24 = bz (br = true)) {hd0 s high wo : Nat} {to : Int} (hto : -1000000000 ≤ to ∧ to ≤ 1000000000) (h1 : hd0 < 4) (hs : s < N 100) (h3 : high < 100000) (hwo : wo < 100000) {d : Nat} (hd : 44 ≤ d) :
    ∃ f', EC d mM_tells [.ref 58, .int (wI hd0), .int (wI s), .int (jI to), .int (wI high), .int (wI wo)] (mkM f z) = some (some (.int (wI (tellN high wo (lastI (xEnv N s to dn lt) (3 + hd0) cls cls.length)))), mkM f' z) ∧ EF f f' := by
  obtain ⟨d, rfl⟩ : ∃ e, d = e + 1 := ⟨d - 1, by omega⟩
  have hB := hv.1
  have h100 := hv.2.2.1
  have how := (hv.2.2.2.2.2.2.2.2.2.2.1 s (by omega)).2.2.2.1
  have h103 := hv.2.2.2.2.2.1
  rw [q_M_tells]
  rcases hl with ⟨e1, e2⟩ | ⟨i, e1, e2, e3⟩
  · refine ⟨f, ?_, fun a _ _ => rfl, fun k _ _ _ _ => rfl, br, hbr⟩
    subst e2
    have c103 : f 60 103 = -1 := by rw [hm.2, e1]; rfl
    simp -dsimp (disch := first | omega | exact hB _) only [↓c_58 hz, g_58_0 hz, p_58_0 hz, r_58_1 hz, r_58_2 hz, r_58_3 hz, r_58_4 hz, r_58_5 hz, g_58_6 hz, p_58_6 hz, r_58_7 hz, g_58_8 hz, p_58_8 hz, g_58_9 hz, p_58_9 hz, g_58_10 hz, p_58_10 hz, r_58_11 hz, r_58_12 hz, g_58_13 hz, p_58_13 hz, g_58_14 hz, p_58_14 hz, r_58_15 hz, r_58_16 hz, r_58_17 hz, g_58_18 hz, p_58_18 hz, g_58_19 hz, p_58_19 hz, g_58_20 hz, p_58_20 hz, g_58_21 hz, p_58_21 hz, g_58_22 hz, p_58_22 hz, g_58_23 hz, p_58_23 hz, g_58_24 hz, p_58_24 hz, g_58_25 hz, p_58_25 hz, r_58_26 hz, g_58_27 hz, p_58_27 hz, g_58_28 hz, p_58_28 hz, r_58_29 hz, r_58_30 hz, g_58_31 hz, p_58_31 hz, r_58_32 hz, r_58_33 hz, r_58_34 hz, r_58_35 hz, r_58_36 hz, r_58_37 hz, g_58_38 hz, p_58_38 hz, r_58_39 hz, r_58_40 hz, r_58_41 hz, g_58_42 hz, p_58_42 hz, g_58_43 hz, p_58_43 hz, g_58_44 hz, p_58_44 hz, g_58_45 hz, p_58_45 hz, g_58_46 hz, p_58_46 hz, g_58_47 hz, p_58_47 hz, g_58_48 hz, p_58_48 hz, r_58_49 hz, r_58_50 hz, r_58_51 hz, r_58_52 hz, g_58_53 hz, p_58_53 hz, g_58_54 hz, p_58_54 hz, g_58_55 hz, p_58_55 hz, l_59 hz, s_59 hz, n_59 hz, l_60 hz, s_60 hz, n_60 hz, l_61 hz, s_61 hz, n_61 hz, l_62 hz, s_62 hz, n_62 hz, l_63 hz, s_63 hz, n_63 hz, l_64 hz, s_64 hz, n_64 hz, l_65 hz, s_65 hz, n_65 hz, l_66 hz, s_66 hz, n_66 hz, l_67 hz, s_67 hz, n_67 hz, l_68 hz, s_68 hz, n_68 hz, l_69 hz, s_69 hz, n_69 hz, l_70 hz, s_70 hz, n_70 hz, l_71 hz, s_71 hz, n_71 hz, l_72 hz, s_72 hz, n_72 hz, l_73 hz, s_73 hz, n_73 hz, l_74 hz, s_74 hz, n_74 hz, l_75 hz, s_75 hz, n_75 hz, l_76 hz, s_76 hz, n_76 hz, l_77 hz, s_77 hz, n_77 hz, l_78 hz, s_78 hz, n_78 hz, l_79 hz, s_79 hz, n_79 hz, l_80 hz, s_80 hz, n_80 hz, l_81 hz, s_81 hz, n_81 hz, l_82 hz, s_82 hz, l_83 hz, s_83 hz, n_83 hz, l_84 hz, s_84 hz, n_84 hz, l_85 hz, s_85 hz, n_85 hz, hO_s, hI_s, hL_s, hQ_s, hQ_n, hR_s, hV_s, hN_n, hN_s, cond_true, lI_0, lI_1, sI_0, sI_1, lL_0, lL_1, ↓reduceIte, not_true_eq_false, not_false_eq_true, Nat.reduceEqDiff, Nat.reduceAdd, Nat.reduceMul, Nat.reduceSub, Nat.reduceLeDiff, Nat.reduceLT, li_2, li_3, li_4, li_5, li_6, li_7, li_8, li_9, li_10, li_11, li_12, li_13, li_14, li_15, li_16, li_17, li_18, li_19, li_20, li_21, li_22, li_23, li_24, li_25, li_26, li_27, li_28, li_29, li_30, li_31, li_32, li_33, li_34, li_35, li_36, li_37, li_38, li_39, li_40, li_41, li_42, li_43, li_44, li_45, li_46, li_47, li_48, li_49, li_50, li_51, li_52, li_53, li_54, li_55, li_56, li_57, li_58, li_59, li_60, li_61, li_62, li_63, li_64, li_65, li_66, li_67, li_68, li_69, li_70, li_71, li_72, li_73, li_74, li_75, li_76, li_77, li_78, li_79, li_80, li_81, li_82, li_83, li_84, li_85, li_86, li_87, li_88, li_89, li_90, li_91, li_92, li_93, li_94, li_95, li_96, li_97, li_98, li_99, li_100, li_101, li_102, li_103, li_104, li_105, li_106, li_107, li_108, li_109, li_110, li_111, li_112, li_113, li_114, li_115, li_116, li_117, li_118, li_119, li_120, li_121, li_122, li_255, li_400, li_608, li_998, li_999, li_1000, li_1024, li_1103, li_2400, li_2911, li_4095, li_4096, li_5711, li_9999, li_12345, li_1000000, li_1000003, li_252645135, li_858993459, li_1431655765, wI_add, wI_mul, wI_add1, wI_1add, c103, eq_self]
    rfl
  · have c103 : f 60 103 = wI i := by rw [hm.2, e1, wI_sub1 (by omega), Nat.add_sub_cancel]
    have hm' := hm.1
    have hn4 := e3.1
    have hwo' : (wI wo).toInt64 = kI (wo : Int) := by rw [wI_jI, j2k (by omega) (by omega)]
    have eN : (wI i = -1) = False := wI_eqm (by omega)
    let g70 : Nat → Int32 := upd (upd (upd (upd (upd (upd (upd (upd (upd (f 70) 0 (wI (N (37 + s)))) 1 (wI (N (6 + s)))) 2 (wI (N (57 + s)))) 3 (wI (N 36) - wI (N (67 + s)))) 4 (jI to)) 5 (wI (N 98))) 6 (wI (N (16 + s)))) 7 (wI (N (N (37 + s))))) 8 (wI (N 36))
    let F : Nat → Nat → Int32 := up (up f 70 g70) 58 (upd (upd (f 58) 25 0) 23 (wI (400 * i + N (104 + i))))
    have hF : up (up f 70 g70) 58 (upd (upd (upd (f 58) 25 0) 22 (wI (400 * i))) 23 (wI (400 * i + N (104 + i)))) = EE2 F (400 * i + 0) br := by
      unfold EE2
      show _ = up (up (up f 70 g70) 58 _) 58 (upd (upd (up (up f 70 g70) 58 _ 58) 22 _) 24 _)
      rw [up_up, up_eq]
      congr 1
      funext k
      unfold upd
      by_cases k22 : k = 22
      · subst k22; simp
      · by_cases k24 : k = 24
        · subst k24; simp [hbr]
        · simp [k22, k24]
    have F60 : F 60 = f 60 := by
      show up (up f 70 g70) 58 _ 60 = f 60
      rw [up_ne _ _ _ (by decide), up_ne _ _ _ (by decide)]
    have hFm : MK F N := by unfold MK; rw [F60]; exact hm
    have hFg : F 58 23 = wI (400 * i + N (104 + i)) := by
      show up (up f 70 g70) 58 _ 58 23 = _
      rw [up_eq, upd_eq]
    have hFC : VCtx false F z (xEnv N s to dn lt) := by
      refine ⟨env_B hv (by omega) hto hdn hlt, fun _ => ⟨?_, ?_⟩, fun h => by cases h⟩
      · show up (up f 70 g70) 58 _ 58 25 = _
        rw [up_eq, upd_ne _ _ _ (by decide), upd_eq]
      · intro c hc1 hc2
        have F70 : F 70 = g70 := by
          show up (up f 70 g70) 58 _ 70 = _
          rw [up_ne _ _ _ (by decide), up_eq]
        rw [F70]
        rcases (show c = 8 ∨ c = 9 ∨ c = 10 ∨ c = 11 ∨ c = 12 ∨ c = 13 ∨ c = 14 ∨ c = 15 ∨ c = 16 by omega) with rfl | rfl | rfl | rfl | rfl | rfl | rfl | rfl | rfl
        all_goals simp only [g70, upd, show wsg false 8 = 12 from rfl, show wsg false 9 = 13 from rfl, show wsg false 10 = 15 from rfl, show wsg false 11 = 16 from rfl, show wsg false 12 = 18 from rfl, show wsg false 13 = 20 from rfl, show wsg false 14 = 14 from rfl, show wsg false 15 = 17 from rfl, show wsg false 16 = 19 from rfl, xEnv, Nat.reduceSub, Nat.reduceEqDiff, ↓reduceIte, wI_jI, jI_sub]
    have hpos : 0 < N (104 + i) := by
      rcases Nat.eq_zero_or_pos (N (104 + i)) with h | h
      · exfalso
        have e4 := e3.2
        rw [h] at e4
        rw [pText] at e4
        have : pLawC (cdN N (400 * i) 0) (vlN N (400 * i)) 0 0 0 = .inl 0 := by
          unfold pLawC cdN
          simp
        rw [this] at e4
        cases e4
      · exact h
    obtain ⟨a', br', i1⟩ := tells_L hz hFm hv hFg (by omega) hFC hn4 h1 h3 (d := d) (by omega) 12 0 0 0 cls wo br e3.2 hwo hpos
    rw [tell_eq] at i1
    refine ⟨EE2 F a' br', ?_, ?_⟩
    · rw [← hF] at i1
      simp -dsimp (disch := first | omega | exact hB _) only [↓c_58 hz, g_58_0 hz, p_58_0 hz, r_58_1 hz, r_58_2 hz, r_58_3 hz, r_58_4 hz, r_58_5 hz, g_58_6 hz, p_58_6 hz, r_58_7 hz, g_58_8 hz, p_58_8 hz, g_58_9 hz, p_58_9 hz, g_58_10 hz, p_58_10 hz, r_58_11 hz, r_58_12 hz, g_58_13 hz, p_58_13 hz, g_58_14 hz, p_58_14 hz, r_58_15 hz, r_58_16 hz, r_58_17 hz, g_58_18 hz, p_58_18 hz, g_58_19 hz, p_58_19 hz, g_58_20 hz, p_58_20 hz, g_58_21 hz, p_58_21 hz, g_58_22 hz, p_58_22 hz, g_58_23 hz, p_58_23 hz, g_58_24 hz, p_58_24 hz, g_58_25 hz, p_58_25 hz, r_58_26 hz, g_58_27 hz, p_58_27 hz, g_58_28 hz, p_58_28 hz, r_58_29 hz, r_58_30 hz, g_58_31 hz, p_58_31 hz, r_58_32 hz, r_58_33 hz, r_58_34 hz, r_58_35 hz, r_58_36 hz, r_58_37 hz, g_58_38 hz, p_58_38 hz, r_58_39 hz, r_58_40 hz, r_58_41 hz, g_58_42 hz, p_58_42 hz, g_58_43 hz, p_58_43 hz, g_58_44 hz, p_58_44 hz, g_58_45 hz, p_58_45 hz, g_58_46 hz, p_58_46 hz, g_58_47 hz, p_58_47 hz, g_58_48 hz, p_58_48 hz, r_58_49 hz, r_58_50 hz, r_58_51 hz, r_58_52 hz, g_58_53 hz, p_58_53 hz, g_58_54 hz, p_58_54 hz, g_58_55 hz, p_58_55 hz, l_59 hz, s_59 hz, n_59 hz, l_60 hz, s_60 hz, n_60 hz, l_61 hz, s_61 hz, n_61 hz, l_62 hz, s_62 hz, n_62 hz, l_63 hz, s_63 hz, n_63 hz, l_64 hz, s_64 hz, n_64 hz, l_65 hz, s_65 hz, n_65 hz, l_66 hz, s_66 hz, n_66 hz, l_67 hz, s_67 hz, n_67 hz, l_68 hz, s_68 hz, n_68 hz, l_69 hz, s_69 hz, n_69 hz, l_70 hz, s_70 hz, n_70 hz, l_71 hz, s_71 hz, n_71 hz, l_72 hz, s_72 hz, n_72 hz, l_73 hz, s_73 hz, n_73 hz, l_74 hz, s_74 hz, n_74 hz, l_75 hz, s_75 hz, n_75 hz, l_76 hz, s_76 hz, n_76 hz, l_77 hz, s_77 hz, n_77 hz, l_78 hz, s_78 hz, n_78 hz, l_79 hz, s_79 hz, n_79 hz, l_80 hz, s_80 hz, n_80 hz, l_81 hz, s_81 hz, n_81 hz, l_82 hz, s_82 hz, l_83 hz, s_83 hz, n_83 hz, l_84 hz, s_84 hz, n_84 hz, l_85 hz, s_85 hz, n_85 hz, hO_s, hI_s, hL_s, hQ_s, hQ_n, hR_s, hV_s, hN_n, hN_s, cond_true, lI_0, lI_1, sI_0, sI_1, lL_0, lL_1, ↓reduceIte, not_true_eq_false, not_false_eq_true, Nat.reduceEqDiff, Nat.reduceAdd, Nat.reduceMul, Nat.reduceSub, Nat.reduceLeDiff, Nat.reduceLT, li_2, li_3, li_4, li_5, li_6, li_7, li_8, li_9, li_10, li_11, li_12, li_13, li_14, li_15, li_16, li_17, li_18, li_19, li_20, li_21, li_22, li_23, li_24, li_25, li_26, li_27, li_28, li_29, li_30, li_31, li_32, li_33, li_34, li_35, li_36, li_37, li_38, li_39, li_40, li_41, li_42, li_43, li_44, li_45, li_46, li_47, li_48, li_49, li_50, li_51, li_52, li_53, li_54, li_55, li_56, li_57, li_58, li_59, li_60, li_61, li_62, li_63, li_64, li_65, li_66, li_67, li_68, li_69, li_70, li_71, li_72, li_73, li_74, li_75, li_76, li_77, li_78, li_79, li_80, li_81, li_82, li_83, li_84, li_85, li_86, li_87, li_88, li_89, li_90, li_91, li_92, li_93, li_94, li_95, li_96, li_97, li_98, li_99, li_100, li_101, li_102, li_103, li_104, li_105, li_106, li_107, li_108, li_109, li_110, li_111, li_112, li_113, li_114, li_115, li_116, li_117, li_118, li_119, li_120, li_121, li_122, li_255, li_400, li_608, li_998, li_999, li_1000, li_1024, li_1103, li_2400, li_2911, li_4095, li_4096, li_5711, li_9999, li_12345, li_1000000, li_1000003, li_252645135, li_858993459, li_1431655765, wI_add, wI_mul, wI_add1, wI_1add, c103, eN, hm', up_eq, up_ne, up_up, upd_ne, upd_eq, Int32.zero_add, hwo']
      exact i1
    · refine ⟨fun a ha hb => ?_, fun k k1 k2 k3 k4 => ?_, br', E_24⟩
      · rw [E_c ha]
        show up (up f 70 g70) 58 _ a = f a
        rw [up_ne _ _ _ ha, up_ne _ _ _ hb]
      · rw [E_k k1 k3]
        show up (up f 70 g70) 58 _ 58 k = f 58 k
        rw [up_eq, upd_ne _ _ _ k2, upd_ne _ _ _ k4]
theorem t_M_paysBy (hz : Sh z) (hm : MK f N) (hv : VK N) (hl : LM N cls) (hdn : -1000000000 ≤ dn ∧ dn ≤ 1000000000) (hlt : -1000000000 ≤ lt ∧ lt ≤ 1000000000) (hbr : ∃ br : Bool, f 58 24 = bz (br = true)) {s : Nat} (hs : s < N 100) {d : Nat} (hd : 45 ≤ d) :
    ∃ f', EC d mM_paysBy [.ref 58, .int (wI s)] (mkM f z) = some (some (.int (wI (payN N s cls dn lt))), mkM f' z) ∧ EF f f' := by
  obtain ⟨d, rfl⟩ : ∃ e, d = e + 1 := ⟨d - 1, by omega⟩
  have hB := hv.1
  have h100 := hv.2.2.1
  have hsum := (hv.2.2.2.2.2.2.2.2.2.2.1 s (by omega)).2.1
  obtain ⟨br, hbr⟩ := hbr
  obtain ⟨f', i1, r1⟩ := t_M_tells hz hm hv hl hdn hlt hbr (hd0 := 1) (s := s) (high := 9999) (wo := N (16 + s)) (to := -1) (by decide) (by decide) hs (by decide) (by omega) (d := d) (by omega)
  refine ⟨f', ?_, r1⟩
  rw [show (wI 1 : Int32) = 1 from rfl, ← jl_m1] at i1
  have hm' := hm.1
  rw [q_M_paysBy]
  simp -dsimp (disch := first | omega | exact hB _) only [↓c_58 hz, g_58_0 hz, p_58_0 hz, r_58_1 hz, r_58_2 hz, r_58_3 hz, r_58_4 hz, r_58_5 hz, g_58_6 hz, p_58_6 hz, r_58_7 hz, g_58_8 hz, p_58_8 hz, g_58_9 hz, p_58_9 hz, g_58_10 hz, p_58_10 hz, r_58_11 hz, r_58_12 hz, g_58_13 hz, p_58_13 hz, g_58_14 hz, p_58_14 hz, r_58_15 hz, r_58_16 hz, r_58_17 hz, g_58_18 hz, p_58_18 hz, g_58_19 hz, p_58_19 hz, g_58_20 hz, p_58_20 hz, g_58_21 hz, p_58_21 hz, g_58_22 hz, p_58_22 hz, g_58_23 hz, p_58_23 hz, g_58_24 hz, p_58_24 hz, g_58_25 hz, p_58_25 hz, r_58_26 hz, g_58_27 hz, p_58_27 hz, g_58_28 hz, p_58_28 hz, r_58_29 hz, r_58_30 hz, g_58_31 hz, p_58_31 hz, r_58_32 hz, r_58_33 hz, r_58_34 hz, r_58_35 hz, r_58_36 hz, r_58_37 hz, g_58_38 hz, p_58_38 hz, r_58_39 hz, r_58_40 hz, r_58_41 hz, g_58_42 hz, p_58_42 hz, g_58_43 hz, p_58_43 hz, g_58_44 hz, p_58_44 hz, g_58_45 hz, p_58_45 hz, g_58_46 hz, p_58_46 hz, g_58_47 hz, p_58_47 hz, g_58_48 hz, p_58_48 hz, r_58_49 hz, r_58_50 hz, r_58_51 hz, r_58_52 hz, g_58_53 hz, p_58_53 hz, g_58_54 hz, p_58_54 hz, g_58_55 hz, p_58_55 hz, l_59 hz, s_59 hz, n_59 hz, l_60 hz, s_60 hz, n_60 hz, l_61 hz, s_61 hz, n_61 hz, l_62 hz, s_62 hz, n_62 hz, l_63 hz, s_63 hz, n_63 hz, l_64 hz, s_64 hz, n_64 hz, l_65 hz, s_65 hz, n_65 hz, l_66 hz, s_66 hz, n_66 hz, l_67 hz, s_67 hz, n_67 hz, l_68 hz, s_68 hz, n_68 hz, l_69 hz, s_69 hz, n_69 hz, l_70 hz, s_70 hz, n_70 hz, l_71 hz, s_71 hz, n_71 hz, l_72 hz, s_72 hz, n_72 hz, l_73 hz, s_73 hz, n_73 hz, l_74 hz, s_74 hz, n_74 hz, l_75 hz, s_75 hz, n_75 hz, l_76 hz, s_76 hz, n_76 hz, l_77 hz, s_77 hz, n_77 hz, l_78 hz, s_78 hz, n_78 hz, l_79 hz, s_79 hz, n_79 hz, l_80 hz, s_80 hz, n_80 hz, l_81 hz, s_81 hz, n_81 hz, l_82 hz, s_82 hz, l_83 hz, s_83 hz, n_83 hz, l_84 hz, s_84 hz, n_84 hz, l_85 hz, s_85 hz, n_85 hz, hO_s, hI_s, hL_s, hQ_s, hQ_n, hR_s, hV_s, hN_n, hN_s, cond_true, lI_0, lI_1, sI_0, sI_1, lL_0, lL_1, ↓reduceIte, not_true_eq_false, not_false_eq_true, Nat.reduceEqDiff, Nat.reduceAdd, Nat.reduceMul, Nat.reduceSub, Nat.reduceLeDiff, Nat.reduceLT, li_2, li_3, li_4, li_5, li_6, li_7, li_8, li_9, li_10, li_11, li_12, li_13, li_14, li_15, li_16, li_17, li_18, li_19, li_20, li_21, li_22, li_23, li_24, li_25, li_26, li_27, li_28, li_29, li_30, li_31, li_32, li_33, li_34, li_35, li_36, li_37, li_38, li_39, li_40, li_41, li_42, li_43, li_44, li_45, li_46, li_47, li_48, li_49, li_50, li_51, li_52, li_53, li_54, li_55, li_56, li_57, li_58, li_59, li_60, li_61, li_62, li_63, li_64, li_65, li_66, li_67, li_68, li_69, li_70, li_71, li_72, li_73, li_74, li_75, li_76, li_77, li_78, li_79, li_80, li_81, li_82, li_83, li_84, li_85, li_86, li_87, li_88, li_89, li_90, li_91, li_92, li_93, li_94, li_95, li_96, li_97, li_98, li_99, li_100, li_101, li_102, li_103, li_104, li_105, li_106, li_107, li_108, li_109, li_110, li_111, li_112, li_113, li_114, li_115, li_116, li_117, li_118, li_119, li_120, li_121, li_122, li_255, li_400, li_608, li_998, li_999, li_1000, li_1024, li_1103, li_2400, li_2911, li_4095, li_4096, li_5711, li_9999, li_12345, li_1000000, li_1000003, li_252645135, li_858993459, li_1431655765, wI_add, wI_mul, wI_add1, wI_1add, hm', i1]
  rfl
theorem t_M_wornIn (hz : Sh z) (hm : MK f N) (hv : VK N) (hl : LM N cls) (hdn : -1000000000 ≤ dn ∧ dn ≤ 1000000000) (hlt : -1000000000 ≤ lt ∧ lt ≤ 1000000000) (hbr : ∃ br : Bool, f 58 24 = bz (br = true)) {s : Nat} (hs : s < N 100) {d : Nat} (hd : 45 ≤ d) :
    ∃ f', EC d mM_wornIn [.ref 58, .int (wI s)] (mkM f z) = some (some (.int (wI (wearN N s cls dn lt))), mkM f' z) ∧ EF f f' := by
  obtain ⟨d, rfl⟩ : ∃ e, d = e + 1 := ⟨d - 1, by omega⟩
  have hB := hv.1
  have h100 := hv.2.2.1
  have hdm := hv.2.2.2.2.2.2.2.1
  obtain ⟨br, hbr⟩ := hbr
  obtain ⟨f', i1, r1⟩ := t_M_tells hz hm hv hl hdn hlt hbr (hd0 := 2) (s := s) (high := 12) (wo := N 97) (to := -1) (by decide) (by decide) hs (by decide) (by omega) (d := d) (by omega)
  refine ⟨f', ?_, r1⟩
  rw [← jl_m1] at i1
  have hm' := hm.1
  rw [q_M_wornIn]
  simp -dsimp (disch := first | omega | exact hB _) only [↓c_58 hz, g_58_0 hz, p_58_0 hz, r_58_1 hz, r_58_2 hz, r_58_3 hz, r_58_4 hz, r_58_5 hz, g_58_6 hz, p_58_6 hz, r_58_7 hz, g_58_8 hz, p_58_8 hz, g_58_9 hz, p_58_9 hz, g_58_10 hz, p_58_10 hz, r_58_11 hz, r_58_12 hz, g_58_13 hz, p_58_13 hz, g_58_14 hz, p_58_14 hz, r_58_15 hz, r_58_16 hz, r_58_17 hz, g_58_18 hz, p_58_18 hz, g_58_19 hz, p_58_19 hz, g_58_20 hz, p_58_20 hz, g_58_21 hz, p_58_21 hz, g_58_22 hz, p_58_22 hz, g_58_23 hz, p_58_23 hz, g_58_24 hz, p_58_24 hz, g_58_25 hz, p_58_25 hz, r_58_26 hz, g_58_27 hz, p_58_27 hz, g_58_28 hz, p_58_28 hz, r_58_29 hz, r_58_30 hz, g_58_31 hz, p_58_31 hz, r_58_32 hz, r_58_33 hz, r_58_34 hz, r_58_35 hz, r_58_36 hz, r_58_37 hz, g_58_38 hz, p_58_38 hz, r_58_39 hz, r_58_40 hz, r_58_41 hz, g_58_42 hz, p_58_42 hz, g_58_43 hz, p_58_43 hz, g_58_44 hz, p_58_44 hz, g_58_45 hz, p_58_45 hz, g_58_46 hz, p_58_46 hz, g_58_47 hz, p_58_47 hz, g_58_48 hz, p_58_48 hz, r_58_49 hz, r_58_50 hz, r_58_51 hz, r_58_52 hz, g_58_53 hz, p_58_53 hz, g_58_54 hz, p_58_54 hz, g_58_55 hz, p_58_55 hz, l_59 hz, s_59 hz, n_59 hz, l_60 hz, s_60 hz, n_60 hz, l_61 hz, s_61 hz, n_61 hz, l_62 hz, s_62 hz, n_62 hz, l_63 hz, s_63 hz, n_63 hz, l_64 hz, s_64 hz, n_64 hz, l_65 hz, s_65 hz, n_65 hz, l_66 hz, s_66 hz, n_66 hz, l_67 hz, s_67 hz, n_67 hz, l_68 hz, s_68 hz, n_68 hz, l_69 hz, s_69 hz, n_69 hz, l_70 hz, s_70 hz, n_70 hz, l_71 hz, s_71 hz, n_71 hz, l_72 hz, s_72 hz, n_72 hz, l_73 hz, s_73 hz, n_73 hz, l_74 hz, s_74 hz, n_74 hz, l_75 hz, s_75 hz, n_75 hz, l_76 hz, s_76 hz, n_76 hz, l_77 hz, s_77 hz, n_77 hz, l_78 hz, s_78 hz, n_78 hz, l_79 hz, s_79 hz, n_79 hz, l_80 hz, s_80 hz, n_80 hz, l_81 hz, s_81 hz, n_81 hz, l_82 hz, s_82 hz, l_83 hz, s_83 hz, n_83 hz, l_84 hz, s_84 hz, n_84 hz, l_85 hz, s_85 hz, n_85 hz, hO_s, hI_s, hL_s, hQ_s, hQ_n, hR_s, hV_s, hN_n, hN_s, cond_true, lI_0, lI_1, sI_0, sI_1, lL_0, lL_1, ↓reduceIte, not_true_eq_false, not_false_eq_true, Nat.reduceEqDiff, Nat.reduceAdd, Nat.reduceMul, Nat.reduceSub, Nat.reduceLeDiff, Nat.reduceLT, li_2, li_3, li_4, li_5, li_6, li_7, li_8, li_9, li_10, li_11, li_12, li_13, li_14, li_15, li_16, li_17, li_18, li_19, li_20, li_21, li_22, li_23, li_24, li_25, li_26, li_27, li_28, li_29, li_30, li_31, li_32, li_33, li_34, li_35, li_36, li_37, li_38, li_39, li_40, li_41, li_42, li_43, li_44, li_45, li_46, li_47, li_48, li_49, li_50, li_51, li_52, li_53, li_54, li_55, li_56, li_57, li_58, li_59, li_60, li_61, li_62, li_63, li_64, li_65, li_66, li_67, li_68, li_69, li_70, li_71, li_72, li_73, li_74, li_75, li_76, li_77, li_78, li_79, li_80, li_81, li_82, li_83, li_84, li_85, li_86, li_87, li_88, li_89, li_90, li_91, li_92, li_93, li_94, li_95, li_96, li_97, li_98, li_99, li_100, li_101, li_102, li_103, li_104, li_105, li_106, li_107, li_108, li_109, li_110, li_111, li_112, li_113, li_114, li_115, li_116, li_117, li_118, li_119, li_120, li_121, li_122, li_255, li_400, li_608, li_998, li_999, li_1000, li_1024, li_1103, li_2400, li_2911, li_4095, li_4096, li_5711, li_9999, li_12345, li_1000000, li_1000003, li_252645135, li_858993459, li_1431655765, wI_add, wI_mul, wI_add1, wI_1add, hm', i1]
  rfl
/-- whether a STICK is barred from a PERSON -/
def barN (N : Nat → Nat) (s p : Nat) (cls : List CL) (dn lt : Int) : Prop := (lastI (xEnv N s p dn lt) 6 cls cls.length).isSome = true
theorem LM_lw (hl : LM N cls) : ∀ j, j < cls.length → lwP (cls.getD j dCL) := by
  rcases hl with ⟨-, rfl⟩ | ⟨i, h1, h2, h3⟩
  · intro j hj; exact absurd hj (Nat.not_lt_zero _)
  · exact fun j hj => LT_lw h3 hj
theorem t_M_isBarred (hz : Sh z) (hm : MK f N) (hv : VK N) (hl : LM N cls) (hdn : -1000000000 ≤ dn ∧ dn ≤ 1000000000) (hlt : -1000000000 ≤ lt ∧ lt ≤ 1000000000) (hbr : ∃ br : Bool, f 58 24 = bz (br = true)) {s p : Nat} (hs : s < N 100) (hp : p < 6) {d : Nat} (hd : 45 ≤ d) :
    ∃ f', EC d mM_isBarred [.ref 58, .int (wI s), .int (wI p)] (mkM f z) = some (some (.int (bz ((lastI (xEnv N s p dn lt) 6 cls cls.length).isSome = true))), mkM f' z) ∧ EF f f' := by
  obtain ⟨d, rfl⟩ : ∃ e, d = e + 1 := ⟨d - 1, by omega⟩
  have hB := hv.1
  obtain ⟨br, hbr⟩ := hbr
  obtain ⟨f', i1, r1⟩ := t_M_tells hz hm hv hl hdn hlt hbr (hd0 := 3) (s := s) (high := 1) (wo := 0) (to := p) (by omega) (by decide) hs (by decide) (by omega) (d := d) (by omega)
  refine ⟨f', ?_, r1⟩
  rw [show (wI 1 : Int32) = 1 from rfl, show (wI 0 : Int32) = 0 from rfl, ← wI_jI] at i1
  rw [q_M_isBarred]
  have h1 := last_one (e := xEnv N s p dn lt) (LM_lw hl) cls.length (Nat.le_refl _)
  rw [show 3 + 3 = 6 from rfl] at i1
  cases k : lastI (xEnv N s p dn lt) 6 cls cls.length with
  | none =>
    rw [k] at i1
    have : (wI (tellN 1 0 none) = 1) = False := eq_false (by decide)
    simp -dsimp (disch := first | omega | exact hB _) only [↓c_58 hz, g_58_0 hz, p_58_0 hz, r_58_1 hz, r_58_2 hz, r_58_3 hz, r_58_4 hz, r_58_5 hz, g_58_6 hz, p_58_6 hz, r_58_7 hz, g_58_8 hz, p_58_8 hz, g_58_9 hz, p_58_9 hz, g_58_10 hz, p_58_10 hz, r_58_11 hz, r_58_12 hz, g_58_13 hz, p_58_13 hz, g_58_14 hz, p_58_14 hz, r_58_15 hz, r_58_16 hz, r_58_17 hz, g_58_18 hz, p_58_18 hz, g_58_19 hz, p_58_19 hz, g_58_20 hz, p_58_20 hz, g_58_21 hz, p_58_21 hz, g_58_22 hz, p_58_22 hz, g_58_23 hz, p_58_23 hz, g_58_24 hz, p_58_24 hz, g_58_25 hz, p_58_25 hz, r_58_26 hz, g_58_27 hz, p_58_27 hz, g_58_28 hz, p_58_28 hz, r_58_29 hz, r_58_30 hz, g_58_31 hz, p_58_31 hz, r_58_32 hz, r_58_33 hz, r_58_34 hz, r_58_35 hz, r_58_36 hz, r_58_37 hz, g_58_38 hz, p_58_38 hz, r_58_39 hz, r_58_40 hz, r_58_41 hz, g_58_42 hz, p_58_42 hz, g_58_43 hz, p_58_43 hz, g_58_44 hz, p_58_44 hz, g_58_45 hz, p_58_45 hz, g_58_46 hz, p_58_46 hz, g_58_47 hz, p_58_47 hz, g_58_48 hz, p_58_48 hz, r_58_49 hz, r_58_50 hz, r_58_51 hz, r_58_52 hz, g_58_53 hz, p_58_53 hz, g_58_54 hz, p_58_54 hz, g_58_55 hz, p_58_55 hz, l_59 hz, s_59 hz, n_59 hz, l_60 hz, s_60 hz, n_60 hz, l_61 hz, s_61 hz, n_61 hz, l_62 hz, s_62 hz, n_62 hz, l_63 hz, s_63 hz, n_63 hz, l_64 hz, s_64 hz, n_64 hz, l_65 hz, s_65 hz, n_65 hz, l_66 hz, s_66 hz, n_66 hz, l_67 hz, s_67 hz, n_67 hz, l_68 hz, s_68 hz, n_68 hz, l_69 hz, s_69 hz, n_69 hz, l_70 hz, s_70 hz, n_70 hz, l_71 hz, s_71 hz, n_71 hz, l_72 hz, s_72 hz, n_72 hz, l_73 hz, s_73 hz, n_73 hz, l_74 hz, s_74 hz, n_74 hz, l_75 hz, s_75 hz, n_75 hz, l_76 hz, s_76 hz, n_76 hz, l_77 hz, s_77 hz, n_77 hz, l_78 hz, s_78 hz, n_78 hz, l_79 hz, s_79 hz, n_79 hz, l_80 hz, s_80 hz, n_80 hz, l_81 hz, s_81 hz, n_81 hz, l_82 hz, s_82 hz, l_83 hz, s_83 hz, n_83 hz, l_84 hz, s_84 hz, n_84 hz, l_85 hz, s_85 hz, n_85 hz, hO_s, hI_s, hL_s, hQ_s, hQ_n, hR_s, hV_s, hN_n, hN_s, cond_true, lI_0, lI_1, sI_0, sI_1, lL_0, lL_1, ↓reduceIte, not_true_eq_false, not_false_eq_true, Nat.reduceEqDiff, Nat.reduceAdd, Nat.reduceMul, Nat.reduceSub, Nat.reduceLeDiff, Nat.reduceLT, li_2, li_3, li_4, li_5, li_6, li_7, li_8, li_9, li_10, li_11, li_12, li_13, li_14, li_15, li_16, li_17, li_18, li_19, li_20, li_21, li_22, li_23, li_24, li_25, li_26, li_27, li_28, li_29, li_30, li_31, li_32, li_33, li_34, li_35, li_36, li_37, li_38, li_39, li_40, li_41, li_42, li_43, li_44, li_45, li_46, li_47, li_48, li_49, li_50, li_51, li_52, li_53, li_54, li_55, li_56, li_57, li_58, li_59, li_60, li_61, li_62, li_63, li_64, li_65, li_66, li_67, li_68, li_69, li_70, li_71, li_72, li_73, li_74, li_75, li_76, li_77, li_78, li_79, li_80, li_81, li_82, li_83, li_84, li_85, li_86, li_87, li_88, li_89, li_90, li_91, li_92, li_93, li_94, li_95, li_96, li_97, li_98, li_99, li_100, li_101, li_102, li_103, li_104, li_105, li_106, li_107, li_108, li_109, li_110, li_111, li_112, li_113, li_114, li_115, li_116, li_117, li_118, li_119, li_120, li_121, li_122, li_255, li_400, li_608, li_998, li_999, li_1000, li_1024, li_1103, li_2400, li_2911, li_4095, li_4096, li_5711, li_9999, li_12345, li_1000000, li_1000003, li_252645135, li_858993459, li_1431655765, wI_add, wI_mul, wI_add1, wI_1add, i1, this]
    rfl
  | some v =>
    have := h1 v k
    subst this
    rw [k] at i1
    have : (wI (tellN 1 0 (some 1)) = 1) = True := eq_true (by decide)
    simp -dsimp (disch := first | omega | exact hB _) only [↓c_58 hz, g_58_0 hz, p_58_0 hz, r_58_1 hz, r_58_2 hz, r_58_3 hz, r_58_4 hz, r_58_5 hz, g_58_6 hz, p_58_6 hz, r_58_7 hz, g_58_8 hz, p_58_8 hz, g_58_9 hz, p_58_9 hz, g_58_10 hz, p_58_10 hz, r_58_11 hz, r_58_12 hz, g_58_13 hz, p_58_13 hz, g_58_14 hz, p_58_14 hz, r_58_15 hz, r_58_16 hz, r_58_17 hz, g_58_18 hz, p_58_18 hz, g_58_19 hz, p_58_19 hz, g_58_20 hz, p_58_20 hz, g_58_21 hz, p_58_21 hz, g_58_22 hz, p_58_22 hz, g_58_23 hz, p_58_23 hz, g_58_24 hz, p_58_24 hz, g_58_25 hz, p_58_25 hz, r_58_26 hz, g_58_27 hz, p_58_27 hz, g_58_28 hz, p_58_28 hz, r_58_29 hz, r_58_30 hz, g_58_31 hz, p_58_31 hz, r_58_32 hz, r_58_33 hz, r_58_34 hz, r_58_35 hz, r_58_36 hz, r_58_37 hz, g_58_38 hz, p_58_38 hz, r_58_39 hz, r_58_40 hz, r_58_41 hz, g_58_42 hz, p_58_42 hz, g_58_43 hz, p_58_43 hz, g_58_44 hz, p_58_44 hz, g_58_45 hz, p_58_45 hz, g_58_46 hz, p_58_46 hz, g_58_47 hz, p_58_47 hz, g_58_48 hz, p_58_48 hz, r_58_49 hz, r_58_50 hz, r_58_51 hz, r_58_52 hz, g_58_53 hz, p_58_53 hz, g_58_54 hz, p_58_54 hz, g_58_55 hz, p_58_55 hz, l_59 hz, s_59 hz, n_59 hz, l_60 hz, s_60 hz, n_60 hz, l_61 hz, s_61 hz, n_61 hz, l_62 hz, s_62 hz, n_62 hz, l_63 hz, s_63 hz, n_63 hz, l_64 hz, s_64 hz, n_64 hz, l_65 hz, s_65 hz, n_65 hz, l_66 hz, s_66 hz, n_66 hz, l_67 hz, s_67 hz, n_67 hz, l_68 hz, s_68 hz, n_68 hz, l_69 hz, s_69 hz, n_69 hz, l_70 hz, s_70 hz, n_70 hz, l_71 hz, s_71 hz, n_71 hz, l_72 hz, s_72 hz, n_72 hz, l_73 hz, s_73 hz, n_73 hz, l_74 hz, s_74 hz, n_74 hz, l_75 hz, s_75 hz, n_75 hz, l_76 hz, s_76 hz, n_76 hz, l_77 hz, s_77 hz, n_77 hz, l_78 hz, s_78 hz, n_78 hz, l_79 hz, s_79 hz, n_79 hz, l_80 hz, s_80 hz, n_80 hz, l_81 hz, s_81 hz, n_81 hz, l_82 hz, s_82 hz, l_83 hz, s_83 hz, n_83 hz, l_84 hz, s_84 hz, n_84 hz, l_85 hz, s_85 hz, n_85 hz, hO_s, hI_s, hL_s, hQ_s, hQ_n, hR_s, hV_s, hN_n, hN_s, cond_true, lI_0, lI_1, sI_0, sI_1, lL_0, lL_1, ↓reduceIte, not_true_eq_false, not_false_eq_true, Nat.reduceEqDiff, Nat.reduceAdd, Nat.reduceMul, Nat.reduceSub, Nat.reduceLeDiff, Nat.reduceLT, li_2, li_3, li_4, li_5, li_6, li_7, li_8, li_9, li_10, li_11, li_12, li_13, li_14, li_15, li_16, li_17, li_18, li_19, li_20, li_21, li_22, li_23, li_24, li_25, li_26, li_27, li_28, li_29, li_30, li_31, li_32, li_33, li_34, li_35, li_36, li_37, li_38, li_39, li_40, li_41, li_42, li_43, li_44, li_45, li_46, li_47, li_48, li_49, li_50, li_51, li_52, li_53, li_54, li_55, li_56, li_57, li_58, li_59, li_60, li_61, li_62, li_63, li_64, li_65, li_66, li_67, li_68, li_69, li_70, li_71, li_72, li_73, li_74, li_75, li_76, li_77, li_78, li_79, li_80, li_81, li_82, li_83, li_84, li_85, li_86, li_87, li_88, li_89, li_90, li_91, li_92, li_93, li_94, li_95, li_96, li_97, li_98, li_99, li_100, li_101, li_102, li_103, li_104, li_105, li_106, li_107, li_108, li_109, li_110, li_111, li_112, li_113, li_114, li_115, li_116, li_117, li_118, li_119, li_120, li_121, li_122, li_255, li_400, li_608, li_998, li_999, li_1000, li_1024, li_1103, li_2400, li_2911, li_4095, li_4096, li_5711, li_9999, li_12345, li_1000000, li_1000003, li_252645135, li_858993459, li_1431655765, wI_add, wI_mul, wI_add1, wI_1add, i1, this]
    rfl
end
