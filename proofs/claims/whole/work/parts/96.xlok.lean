/-! ===== the program: a law is told ===== -/
section
variable {z : Mem} {f : Nat → Nat → Int32} {N : Nat → Nat} {T : Nat → Nat} {L : Nat}
theorem t_addLaw {b : Nat} (hb : Ch z b) (hc : CK f b N) (h6 : N 102 < 6) {q hl sl : Nat} (hp : Pg z q hl sl) (hq0 : q ≠ 0) (hqs : q < 2147483648) {d : Nat} (hd : 1 ≤ d) : EC d mChest_addLaw [.ref b, .ref q] (mkM f z) = some (some (.int (wI (N 102))), mkM (up (up f (b + 12) (upd (f (b + 12)) (N 102) (wI q))) b (upd (f b) 14 (wI (N 102 + 1)))) z) := by
  obtain ⟨d, rfl⟩ : ∃ e, d = e + 1 := ⟨d - 1, by omega⟩
  have h102 : f b 14 = wI (N 102) := hc.2.2.2.1
  have s1 := s_C12 hb f (k := N 102) (x := some q) (v := wI q) (rfo_w hq0 hqs) (fun y e => by cases e; exact cc_Q hp f) (by omega)
  rw [q_Chest_addLaw]
  simp -dsimp (disch := omega) only [↓c_C hb, g_C_0 hb, p_C_0 hb, r_C_1 hb, g_C_2 hb, p_C_2 hb, r_C_3 hb, r_C_4 hb, r_C_5 hb, r_C_6 hb, r_C_7 hb, r_C_8 hb, r_C_9 hb, g_C_10 hb, p_C_10 hb, r_C_11 hb, r_C_12 hb, r_C_13 hb, g_C_14 hb, p_C_14 hb, r_C_15 hb, g_C_16 hb, p_C_16 hb, l_C1 hb, s_C1 hb, n_C1 hb, l_C2 hb, s_C2 hb, n_C2 hb, l_C3 hb, s_C3 hb, n_C3 hb, l_C4 hb, s_C4 hb, n_C4 hb, l_C5 hb, s_C5 hb, n_C5 hb, l_C6 hb, s_C6 hb, n_C6 hb, l_C7 hb, s_C7 hb, n_C7 hb, l_C8 hb, s_C8 hb, n_C8 hb, l_C9 hb, s_C9 hb, n_C9 hb, l_C10 hb, s_C10 hb, n_C10 hb, l_C11 hb, s_C11 hb, n_C11 hb, l_C12 hb, hO_s, hI_s, hL_s, hQ_s, hQ_n, hR_s, hV_s, hN_n, hN_s, cond_true, lI_0, lI_1, sI_0, sI_1, lL_0, lL_1, ↓reduceIte, not_true_eq_false, not_false_eq_true, Nat.reduceEqDiff, Nat.reduceAdd, Nat.reduceMul, Nat.reduceSub, Nat.reduceLeDiff, Nat.reduceLT, li_2, li_3, li_4, li_5, li_6, li_7, li_8, li_9, li_10, li_11, li_12, li_13, li_14, li_15, li_16, li_17, li_18, li_19, li_20, li_21, li_22, li_23, li_24, li_25, li_26, li_27, li_28, li_29, li_30, li_31, li_32, li_33, li_34, li_35, li_36, li_37, li_38, li_39, li_40, li_41, li_42, li_43, li_44, li_45, li_46, li_47, li_48, li_49, li_50, li_51, li_52, li_53, li_54, li_55, li_56, li_57, li_58, li_59, li_60, li_61, li_62, li_63, li_64, li_65, li_66, li_67, li_68, li_69, li_70, li_71, li_72, li_73, li_74, li_75, li_76, li_77, li_78, li_79, li_80, li_81, li_82, li_83, li_84, li_85, li_86, li_87, li_88, li_89, li_90, li_91, li_92, li_93, li_94, li_95, li_96, li_97, li_98, li_99, li_100, li_101, li_102, li_103, li_104, li_105, li_106, li_107, li_108, li_109, li_110, li_111, li_112, li_113, li_114, li_115, li_116, li_117, li_118, li_119, li_120, li_121, li_122, li_255, li_400, li_608, li_998, li_999, li_1000, li_1024, li_1103, li_2400, li_2911, li_4095, li_4096, li_5711, li_9999, li_12345, li_1000000, li_1000003, li_252645135, li_858993459, li_1431655765, wI_add, wI_mul, wI_add1, wI_1add, h102, wI_lt, eq_true h6, s1, up_ne]
theorem t_X_law_ok (hz : Sh z) (hx : Tx z) (hc : CK f 1 N) (h6 : N 102 < 6) (hL : L ≤ 400) (hT : ∀ k, T k < 256) (h32 : ∀ k, k < L → f 32 k = wI (T k)) (h7 : f 0 7 = wI L) {cls : List CL} (hp : pText (cdT T L) (pLawC (cdT T L) (vlT T L)) (nT T L) 12 0 0 0 = .inr cls) {q : Nat} (hqz : z.1 = q) (hq86 : 86 ≤ q) (hs : q < 2147480000) {d : Nat} (hd : 45 ≤ d) :
    ∃ f' Z, EC d mX_law [.ref 0] (mkM f z) = some (some (.int (wI (N 102))), mkM f' Z) ∧ (∀ a, a < q → a ≠ 0 → a ≠ 1 → a ≠ 13 → a ≠ 33 → a ≠ 34 → a ≠ 35 → a ≠ 36 → f' a = f a) ∧ f' 0 = upd (upd (upd (upd (f 0) 7 0) 15 (-1)) 18 0) 13 0 ∧ f' 1 = upd (f 1) 14 (wI (N 102 + 1)) ∧ f' 13 = upd (f 13) (N 102) (wI q) ∧ (∀ a, a < q ∨ q + 3 ≤ a → Z.2.2 a = z.2.2 a) ∧ Z.1 = q + 3 ∧ Z.2.1 ≤ z.2.1 + 476 ∧ ∃ hl sl, Pg Z q hl sl ∧ PT f' q hl sl cls := by
  obtain ⟨d, rfl⟩ : ∃ e, d = e + 1 := ⟨d - 1, by omega⟩
  have hb := Ch_1 hz
  have i0 := t_X_emptyTape (f := f) hz (d := d) (by omega)
  have h102 : f 1 14 = wI (N 102) := hc.2.2.2.1
  obtain ⟨v, f2, i1, i2, i3⟩ := t_read_law (f := up f 0 (upd (f 0) 7 0)) hz hx (T := T) (L := L) (fun k hk => by rw [up_ne _ _ _ (by decide)]; exact h32 k hk) hL hT (d := d) (by omega)
  rw [hp] at i3
  obtain ⟨hv1, hpt, k, hk, h341, st, s1, s2, s3⟩ := i3
  subst hv1
  have f2c : ∀ a, a ≠ 0 → a ≠ 33 → a ≠ 34 → a ≠ 35 → a ≠ 36 → f2 a = f a := fun a a0 a1 a2 a3 a4 => by rw [i2 a a1 a2 a3 a4, up_ne _ _ _ a0]
  have f20 : f2 0 = upd (f 0) 7 0 := by rw [i2 0 (by decide) (by decide) (by decide) (by decide), up_eq]
  obtain ⟨p0, p1, p2, -⟩ := hpt
  let f3 : Nat → Nat → Int32 := up f2 0 (upd (upd (f 0) 7 0) 15 (-1))
  have f3c : ∀ a, a ≠ 0 → f3 a = f2 a := fun a ha => up_ne _ _ _ ha
  obtain ⟨F, Z, j1, j2, j3, j4, j5, j6, j7, j8, j9, j10⟩ := t_trimmed (f := f3) hz hqz hq86 hs (c := cls.length) (l := k) (by omega) hk (by rw [f3c 34 (by decide)]; exact p0) (by rw [f3c 34 (by decide)]; exact h341) (d := d) (by omega)
  have hZ : Sh Z := fun a ha => by rw [j3 a (by omega)]; exact hz a ha
  have hbZ := Ch_1 hZ
  have hF : ∀ a, a < q → a ≠ 0 → a ≠ 33 → a ≠ 34 → a ≠ 35 → a ≠ 36 → F a = f a := fun a h a0 a1 a2 a3 a4 => by rw [j2 a h, f3c a a0, f2c a a0 a1 a2 a3 a4]
  have hcF : CK F 1 N := by
    unfold CK
    rw [hF 1 (by omega) (by decide) (by decide) (by decide) (by decide) (by decide), hF (1 + 1) (by omega) (by decide) (by decide) (by decide) (by decide) (by decide), hF (1 + 2) (by omega) (by decide) (by decide) (by decide) (by decide) (by decide), hF (1 + 3) (by omega) (by decide) (by decide) (by decide) (by decide) (by decide), hF (1 + 4) (by omega) (by decide) (by decide) (by decide) (by decide) (by decide), hF (1 + 5) (by omega) (by decide) (by decide) (by decide) (by decide) (by decide), hF (1 + 6) (by omega) (by decide) (by decide) (by decide) (by decide) (by decide), hF (1 + 7) (by omega) (by decide) (by decide) (by decide) (by decide) (by decide), hF (1 + 8) (by omega) (by decide) (by decide) (by decide) (by decide) (by decide), hF (1 + 9) (by omega) (by decide) (by decide) (by decide) (by decide) (by decide), hF (1 + 10) (by omega) (by decide) (by decide) (by decide) (by decide) (by decide), hF (1 + 11) (by omega) (by decide) (by decide) (by decide) (by decide) (by decide)]
    exact hc
  have m1 := t_addLaw hbZ hcF h6 j6 (by omega) (by omega) (d := d) (by omega)
  have F0 : F 0 = upd (upd (f 0) 7 0) 15 (-1) := by rw [j2 0 (by omega)]; exact up_eq _ _ _
  let f4 : Nat → Nat → Int32 := up (up F (1 + 12) (upd (F (1 + 12)) (N 102) (wI q))) 1 (upd (F 1) 14 (wI (N 102 + 1)))
  have f40 : f4 0 = upd (upd (f 0) 7 0) 15 (-1) := by
    show up (up F _ _) 1 _ 0 = _
    rw [up_ne _ _ _ (by decide), up_ne _ _ _ (by decide), F0]
  have m2 := t_X_accept (f := f4) hZ (d := d) (by omega) (wI (N 102))
  rw [f40] at m2
  have f4c : ∀ a, a ≠ 1 → a ≠ 13 → f4 a = F a := fun a a1 a2 => by
    show up (up F _ _) 1 _ a = _
    rw [up_ne _ _ _ a1, up_ne _ _ _ a2]
  refine ⟨up f4 0 (upd (upd (upd (upd (f 0) 7 0) 15 (-1)) 18 0) 13 0), Z, ?_, fun a h a0 a1 a2 a3 a4 a5 a6 => ?_, ?_, ?_, ?_, j3, j4, by omega, cls.length * 6, k, j6, ?_⟩
  · have j1' : EC d mProgram_trimmed [.ref 34] (mkM (up f2 0 (upd (upd (f 0) 7 0) 15 (-1))) z) = some (some (.ref q), mkM F Z) := j1
    have m1' : EC d mChest_addLaw [.ref 1, .ref q] (mkM F Z) = some (some (.int (wI (N 102))), mkM f4 Z) := m1
    have cc1 := c_C hbZ F
    have cc0 := c_0 hZ f4
    rw [q_X_law]
    simp -dsimp (disch := omega) only [↓c_0 hz, r_0_0 hz, r_0_1 hz, r_0_2 hz, v_0_3 hz, w_0_3 hz, p_0_3 hz, r_0_4 hz, r_0_5 hz, r_0_6 hz, g_0_7 hz, p_0_7 hz, r_0_8 hz, r_0_9 hz, r_0_10 hz, r_0_11 hz, r_0_12 hz, g_0_13 hz, p_0_13 hz, g_0_14 hz, p_0_14 hz, g_0_15 hz, p_0_15 hz, g_0_16 hz, p_0_16 hz, g_0_17 hz, p_0_17 hz, g_0_18 hz, p_0_18 hz, r_0_19 hz, ↓c_1 hz, g_1_0 hz, p_1_0 hz, r_1_1 hz, g_1_2 hz, p_1_2 hz, r_1_3 hz, r_1_4 hz, r_1_5 hz, r_1_6 hz, r_1_7 hz, r_1_8 hz, r_1_9 hz, g_1_10 hz, p_1_10 hz, r_1_11 hz, r_1_12 hz, r_1_13 hz, g_1_14 hz, p_1_14 hz, r_1_15 hz, g_1_16 hz, p_1_16 hz, l_2 hz, s_2 hz, n_2 hz, l_3 hz, s_3 hz, n_3 hz, l_4 hz, s_4 hz, n_4 hz, l_5 hz, s_5 hz, n_5 hz, l_6 hz, s_6 hz, n_6 hz, l_7 hz, s_7 hz, n_7 hz, l_8 hz, s_8 hz, n_8 hz, l_9 hz, s_9 hz, n_9 hz, l_10 hz, s_10 hz, n_10 hz, l_11 hz, s_11 hz, n_11 hz, l_12 hz, s_12 hz, n_12 hz, l_13 hz, ↓c_14 hz, g_14_0 hz, p_14_0 hz, r_14_1 hz, g_14_2 hz, p_14_2 hz, r_14_3 hz, r_14_4 hz, r_14_5 hz, r_14_6 hz, r_14_7 hz, r_14_8 hz, r_14_9 hz, g_14_10 hz, p_14_10 hz, r_14_11 hz, r_14_12 hz, r_14_13 hz, g_14_14 hz, p_14_14 hz, r_14_15 hz, g_14_16 hz, p_14_16 hz, l_15 hz, s_15 hz, n_15 hz, l_16 hz, s_16 hz, n_16 hz, l_17 hz, s_17 hz, n_17 hz, l_18 hz, s_18 hz, n_18 hz, l_19 hz, s_19 hz, n_19 hz, l_20 hz, s_20 hz, n_20 hz, l_21 hz, s_21 hz, n_21 hz, l_22 hz, s_22 hz, n_22 hz, l_23 hz, s_23 hz, n_23 hz, l_24 hz, s_24 hz, n_24 hz, l_25 hz, s_25 hz, n_25 hz, l_26 hz, l_27 hz, ↓c_28 hz, r_28_0 hz, g_28_1 hz, p_28_1 hz, g_28_2 hz, p_28_2 hz, l_29 hz, s_29 hz, n_29 hz, ↓c_30 hz, r_30_0 hz, g_30_1 hz, p_30_1 hz, g_30_2 hz, p_30_2 hz, l_31 hz, s_31 hz, n_31 hz, l_32 hz, s_32 hz, n_32 hz, ↓c_33 hz, r_33_0 hz, v_33_1 hz, w_33_1 hz, p_33_1 hz, g_33_2 hz, p_33_2 hz, g_33_3 hz, p_33_3 hz, g_33_4 hz, p_33_4 hz, g_33_5 hz, p_33_5 hz, g_33_6 hz, p_33_6 hz, g_33_7 hz, p_33_7 hz, g_33_8 hz, p_33_8 hz, g_33_9 hz, p_33_9 hz, ↓c_34 hz, g_34_0 hz, p_34_0 hz, g_34_1 hz, p_34_1 hz, r_34_2 hz, r_34_3 hz, l_35 hz, s_35 hz, n_35 hz, l_36 hz, s_36 hz, n_36 hz, ↓c_38 hz, r_38_0 hz, v_38_1 hz, w_38_1 hz, p_38_1 hz, g_38_2 hz, p_38_2 hz, g_38_3 hz, p_38_3 hz, g_38_4 hz, p_38_4 hz, g_38_5 hz, p_38_5 hz, l_39 hz, s_39 hz, n_39 hz, ↓c_40 hz, r_40_0 hz, r_40_1 hz, r_40_2 hz, r_40_3 hz, g_40_4 hz, p_40_4 hz, l_41 hz, s_41 hz, n_41 hz, l_42 hz, s_42 hz, n_42 hz, l_43 hz, s_43 hz, n_43 hz, l_44 hz, s_44 hz, n_44 hz, ↓c_45 hz, r_45_0 hz, r_45_1 hz, r_45_2 hz, r_45_3 hz, r_45_4 hz, g_45_5 hz, p_45_5 hz, l_46 hz, s_46 hz, n_46 hz, l_47 hz, s_47 hz, n_47 hz, l_48 hz, s_48 hz, n_48 hz, l_49 hz, s_49 hz, n_49 hz, l_50 hz, s_50 hz, n_50 hz, ↓c_51 hz, r_51_0 hz, r_51_1 hz, r_51_2 hz, r_51_3 hz, r_51_4 hz, g_51_5 hz, p_51_5 hz, g_51_6 hz, p_51_6 hz, l_52 hz, s_52 hz, n_52 hz, l_53 hz, s_53 hz, n_53 hz, l_54 hz, s_54 hz, n_54 hz, l_55 hz, s_55 hz, n_55 hz, l_56 hz, s_56 hz, n_56 hz, l_57 hz, s_57 hz, n_57 hz, ↓c_C hb, g_C_0 hb, p_C_0 hb, r_C_1 hb, g_C_2 hb, p_C_2 hb, r_C_3 hb, r_C_4 hb, r_C_5 hb, r_C_6 hb, r_C_7 hb, r_C_8 hb, r_C_9 hb, g_C_10 hb, p_C_10 hb, r_C_11 hb, r_C_12 hb, r_C_13 hb, g_C_14 hb, p_C_14 hb, r_C_15 hb, g_C_16 hb, p_C_16 hb, l_C1 hb, s_C1 hb, n_C1 hb, l_C2 hb, s_C2 hb, n_C2 hb, l_C3 hb, s_C3 hb, n_C3 hb, l_C4 hb, s_C4 hb, n_C4 hb, l_C5 hb, s_C5 hb, n_C5 hb, l_C6 hb, s_C6 hb, n_C6 hb, l_C7 hb, s_C7 hb, n_C7 hb, l_C8 hb, s_C8 hb, n_C8 hb, l_C9 hb, s_C9 hb, n_C9 hb, l_C10 hb, s_C10 hb, n_C10 hb, l_C11 hb, s_C11 hb, n_C11 hb, l_C12 hb, hO_s, hI_s, hL_s, hQ_s, hQ_n, hR_s, hV_s, hN_n, hN_s, cond_true, lI_0, lI_1, sI_0, sI_1, lL_0, lL_1, ↓reduceIte, not_true_eq_false, not_false_eq_true, Nat.reduceEqDiff, Nat.reduceAdd, Nat.reduceMul, Nat.reduceSub, Nat.reduceLeDiff, Nat.reduceLT, li_2, li_3, li_4, li_5, li_6, li_7, li_8, li_9, li_10, li_11, li_12, li_13, li_14, li_15, li_16, li_17, li_18, li_19, li_20, li_21, li_22, li_23, li_24, li_25, li_26, li_27, li_28, li_29, li_30, li_31, li_32, li_33, li_34, li_35, li_36, li_37, li_38, li_39, li_40, li_41, li_42, li_43, li_44, li_45, li_46, li_47, li_48, li_49, li_50, li_51, li_52, li_53, li_54, li_55, li_56, li_57, li_58, li_59, li_60, li_61, li_62, li_63, li_64, li_65, li_66, li_67, li_68, li_69, li_70, li_71, li_72, li_73, li_74, li_75, li_76, li_77, li_78, li_79, li_80, li_81, li_82, li_83, li_84, li_85, li_86, li_87, li_88, li_89, li_90, li_91, li_92, li_93, li_94, li_95, li_96, li_97, li_98, li_99, li_100, li_101, li_102, li_103, li_104, li_105, li_106, li_107, li_108, li_109, li_110, li_111, li_112, li_113, li_114, li_115, li_116, li_117, li_118, li_119, li_120, li_121, li_122, li_255, li_400, li_608, li_998, li_999, li_1000, li_1024, li_1103, li_2400, li_2911, li_4095, li_4096, li_5711, li_9999, li_12345, li_1000000, li_1000003, li_252645135, li_858993459, li_1431655765, i0, h7, up_ne, up_eq, h102, wI_lt, eq_true h6, i1, f20, upd_eq, eq_self, j1', cc1, m1', cc0, m2]
  · rw [up_ne _ _ _ a0, f4c a a1 a2, hF a h a0 a3 a4 a5 a6]
  · rw [up_eq]
  · rw [up_ne _ _ _ (by decide)]
    show up (up F _ _) 1 _ 1 = _
    rw [up_eq, hF 1 (by omega) (by decide) (by decide) (by decide) (by decide) (by decide)]
  · rw [up_ne _ _ _ (by decide)]
    show up (up F (1 + 12) _) 1 _ 13 = _
    rw [up_ne _ _ _ (by decide), show (13 : Nat) = 1 + 12 from rfl, up_eq, hF (1 + 12) (by omega) (by decide) (by decide) (by decide) (by decide) (by decide)]
  · have e0 : up f4 0 (upd (upd (upd (upd (f 0) 7 0) 15 (-1)) 18 0) 13 0) q = F q := by rw [up_ne _ _ _ (by omega), f4c q (by omega) (by omega)]
    have e1 : up f4 0 (upd (upd (upd (upd (f 0) 7 0) 15 (-1)) 18 0) 13 0) (q + 1) = F (q + 1) := by rw [up_ne _ _ _ (by omega), f4c _ (by omega) (by omega)]
    have e2 : up f4 0 (upd (upd (upd (upd (f 0) 7 0) 15 (-1)) 18 0) 13 0) (q + 2) = F (q + 2) := by rw [up_ne _ _ _ (by omega), f4c _ (by omega) (by omega)]
    unfold PT
    rw [e0, e1, e2]
    refine ⟨j7, by omega, fun i j hi hj => ?_, st, k, Nat.le_refl _, fun i hi => ?_, s2, s3⟩
    · rw [j9 _ (by omega), f3c 35 (by decide)]
      exact p2 i j hi hj
    · rw [j10 i hi, f3c 36 (by decide)]
      exact s1 i hi
end
