/-! ===== the program: barred, pays, worn ===== -/
def clB (e : EnvT) (cls : List CL) (i : Nat) : Prop := (cls.getD i dCL).2.2.1.getD 0 0 = 6 ∧ (cls.getD i dCL).2.2.2.2.2.2 e = some true
theorem last_iff {e : EnvT} {cls : List CL} (h : ∀ j, j < cls.length → lwP (cls.getD j dCL)) : ∀ m, m ≤ cls.length → ((lastI e 6 cls m).isSome = true ↔ ∃ j, j < m ∧ clB e cls j) := by
  intro m
  induction m with
  | zero =>
    intro _
    constructor
    · intro h; cases h
    · rintro ⟨j, hj, -⟩; omega
  | succ m ih =>
    intro hm
    have ih := ih (by omega)
    rw [lastI]
    by_cases hc : clB e cls m
    · rw [if_pos (show (cls.getD m dCL).2.2.1.getD 0 0 = 6 ∧ (cls.getD m dCL).2.2.2.2.2.2 e = some true from hc), (h m (by omega)).2.2.2 hc.1]
      constructor
      · intro _; exact ⟨m, by omega, hc⟩
      · intro _; rfl
    · rw [if_neg (show ¬ ((cls.getD m dCL).2.2.1.getD 0 0 = 6 ∧ (cls.getD m dCL).2.2.2.2.2.2 e = some true) from hc), ih]
      constructor
      · rintro ⟨j, hj, h1⟩; exact ⟨j, by omega, h1⟩
      · rintro ⟨j, hj, h1⟩
        rcases Nat.lt_or_ge j m with h2 | h2
        · exact ⟨j, h2, h1⟩
        · have : j = m := by omega
          subst this; exact absurd h1 hc
theorem last_one {e : EnvT} {cls : List CL} (h : ∀ j, j < cls.length → lwP (cls.getD j dCL)) : ∀ m, m ≤ cls.length → ∀ v, lastI e 6 cls m = some v → v = 1 := by
  intro m
  induction m with
  | zero => intro _ v h; cases h
  | succ m ih =>
    intro hm v hv
    rw [lastI] at hv
    split at hv
    · rename_i hc
      rw [(h m (by omega)).2.2.2 hc.1] at hv
      cases hv; rfl
    · exact ih (by omega) v hv
section
variable {z : Mem} {f : Nat → Nat → Int32} {N : Nat → Nat} {b s0 : Nat} {to dn lt : Int} {q hl sl : Nat} {cls : List CL}
theorem isBarred_L (hz : Sh z) (hb : Ch z b) (hc : CK f b N) (hv : VK N) (hr : RK f b s0 to dn lt) (hb0 : b ≠ 0) (hb1 : b < 2147483648) (hs0 : s0 < 10) (hb39 : b + 12 < 38 ∨ 39 < b)
    (hq : Pg z q hl sl) (hq39 : q + 2 < 38 ∨ 39 < q) (he : envB (xEnv N s0 to dn lt)) (hp : PT f q hl sl cls) {d : Nat} (hd : 2 ≤ d) : ∀ (m i : Nat) (g : Nat → Int32), i + m = cls.length →
    ∃ g', ∃ w : Bool, Ev (d + 1) mRules_isBarred 39 [(0, .ref 38), (4, .ref q), (5, .int (wI i))] [] (mkM (up f 39 g) z) = some (some (.int (bz (w = true))), mkM (up f 39 g') z) ∧ (w = true ↔ ∃ j, i ≤ j ∧ j < cls.length ∧ clB (xEnv N s0 to dn lt) cls j) := by
  have hhl : hl ≤ 72 := hq.2.2.2.1
  have h6 := hp.2.1
  have hlen := hp.1
  intro m
  induction m with
  | zero =>
    intro i g hm
    refine ⟨g, false, ?_, ?_⟩
    · have c : cls.length ≤ i := by omega
      rw [q_Rules_isBarred_39]
      simp -dsimp (disch := omega) only [↓c_Q hq, g_Q_0 hq, p_Q_0 hq, g_Q_1 hq, p_Q_1 hq, r_Q_2 hq, r_Q_3 hq, l_Q1 hq, s_Q1 hq, n_Q1 hq, l_Q2 hq, s_Q2 hq, n_Q2 hq, hO_s, hI_s, hL_s, hQ_s, hQ_n, hR_s, hV_s, hN_n, hN_s, cond_true, lI_0, lI_1, sI_0, sI_1, lL_0, lL_1, ↓reduceIte, not_true_eq_false, not_false_eq_true, Nat.reduceEqDiff, Nat.reduceAdd, Nat.reduceMul, Nat.reduceSub, Nat.reduceLeDiff, Nat.reduceLT, up_ne, hlen, wI_le, c]
      rfl
    · constructor
      · intro h; cases h
      · rintro ⟨j, h1, h2, -⟩; omega
  | succ m ih =>
    intro i g hm
    have c : ¬ cls.length ≤ i := by omega
    have hpg := fun g => PT_up hp (a := 39) (by omega) g
    have hcg := fun g => CK_up hc (a := 39) (by omega) g
    have hrg := fun g => RK_up hr (a := 39) (by decide) g
    obtain ⟨st, s', hs', hst, hstB, hgood⟩ := hp.2.2.2
    obtain ⟨k1, tm, a, b1, c1, dd, hh, o1, o2, o3, o4, o5, o6, o7, p1, p2, p3⟩ := hgood i (by omega)
    have hst' : ∀ g, ∀ i, i < s' → up f 39 g (q + 2) i = wI (st i) := fun g i hi => by rw [up_ne _ _ _ (by omega)]; exact hst i hi
    have hsl : sl ≤ 400 := hq.2.2.2.2
    have H := fun g j hj => t_headOf hq (hpg g) (d := d) (by omega) (i := i) (j := j) (by omega) hj
    have H4 := fun g => H g 4 (by decide)
    have H0 := fun g => H g 0 (by decide)
    have H5 := fun g => H g 5 (by decide)
    rw [hh] at H4 H0 H5
    simp only [List.getD_cons_zero, List.getD_cons_succ] at H4 H0 H5
    rw [show (wI 0 : Int32) = 0 from rfl] at H0
    obtain ⟨g1, i1⟩ := comp_piece hz hb (hcg g) hv (hrg g) hb0 hb1 hs0 hb39 hq hq39 he hs' (hst' g) hstB (one := yes1) (fun _ => rfl) o4 p3 hd
    rw [up_up] at i1
    have hclB : clB (xEnv N s0 to dn lt) cls i ↔ k1 = 6 ∧ (cls.getD i dCL).2.2.2.2.2.2 (xEnv N s0 to dn lt) = some true := by
      unfold clB
      rw [hh]
      rfl
    have stepQ : ∀ w : Bool, ¬ clB (xEnv N s0 to dn lt) cls i → (w = true ↔ ∃ j, i + 1 ≤ j ∧ j < cls.length ∧ clB (xEnv N s0 to dn lt) cls j) → (w = true ↔ ∃ j, i ≤ j ∧ j < cls.length ∧ clB (xEnv N s0 to dn lt) cls j) := by
      intro w hn hw
      rw [hw]
      constructor
      · rintro ⟨j, h1, h2, h3⟩; exact ⟨j, by omega, h2, h3⟩
      · rintro ⟨j, h1, h2, h3⟩
        rcases Nat.lt_or_ge i j with h4 | h4
        · exact ⟨j, h4, h2, h3⟩
        · have : j = i := by omega
          subst this; exact absurd h3 hn
    rw [q_Rules_isBarred_39]
    by_cases hkk : k1 = 6
    · by_cases htt : (cls.getD i dCL).2.2.2.2.2.2 (xEnv N s0 to dn lt) = some true
      · have t1 : (ovI (((cls.getD i dCL).2.2.2.2.2.2 (xEnv N s0 to dn lt)).map eB) = 1) = True := by rw [eB_1]; exact eq_true htt
        refine ⟨g1, true, ?_, ?_⟩
        · simp -dsimp (disch := omega) only [↓c_Q hq, g_Q_0 hq, p_Q_0 hq, g_Q_1 hq, p_Q_1 hq, r_Q_2 hq, r_Q_3 hq, l_Q1 hq, s_Q1 hq, n_Q1 hq, l_Q2 hq, s_Q2 hq, n_Q2 hq, ↓c_0 hz, r_0_0 hz, r_0_1 hz, r_0_2 hz, v_0_3 hz, w_0_3 hz, p_0_3 hz, r_0_4 hz, r_0_5 hz, r_0_6 hz, g_0_7 hz, p_0_7 hz, r_0_8 hz, r_0_9 hz, r_0_10 hz, r_0_11 hz, r_0_12 hz, g_0_13 hz, p_0_13 hz, g_0_14 hz, p_0_14 hz, g_0_15 hz, p_0_15 hz, g_0_16 hz, p_0_16 hz, g_0_17 hz, p_0_17 hz, g_0_18 hz, p_0_18 hz, r_0_19 hz, ↓c_1 hz, g_1_0 hz, p_1_0 hz, r_1_1 hz, g_1_2 hz, p_1_2 hz, r_1_3 hz, r_1_4 hz, r_1_5 hz, r_1_6 hz, r_1_7 hz, r_1_8 hz, r_1_9 hz, g_1_10 hz, p_1_10 hz, r_1_11 hz, r_1_12 hz, r_1_13 hz, g_1_14 hz, p_1_14 hz, r_1_15 hz, g_1_16 hz, p_1_16 hz, l_2 hz, s_2 hz, n_2 hz, l_3 hz, s_3 hz, n_3 hz, l_4 hz, s_4 hz, n_4 hz, l_5 hz, s_5 hz, n_5 hz, l_6 hz, s_6 hz, n_6 hz, l_7 hz, s_7 hz, n_7 hz, l_8 hz, s_8 hz, n_8 hz, l_9 hz, s_9 hz, n_9 hz, l_10 hz, s_10 hz, n_10 hz, l_11 hz, s_11 hz, n_11 hz, l_12 hz, s_12 hz, n_12 hz, l_13 hz, ↓c_14 hz, g_14_0 hz, p_14_0 hz, r_14_1 hz, g_14_2 hz, p_14_2 hz, r_14_3 hz, r_14_4 hz, r_14_5 hz, r_14_6 hz, r_14_7 hz, r_14_8 hz, r_14_9 hz, g_14_10 hz, p_14_10 hz, r_14_11 hz, r_14_12 hz, r_14_13 hz, g_14_14 hz, p_14_14 hz, r_14_15 hz, g_14_16 hz, p_14_16 hz, l_15 hz, s_15 hz, n_15 hz, l_16 hz, s_16 hz, n_16 hz, l_17 hz, s_17 hz, n_17 hz, l_18 hz, s_18 hz, n_18 hz, l_19 hz, s_19 hz, n_19 hz, l_20 hz, s_20 hz, n_20 hz, l_21 hz, s_21 hz, n_21 hz, l_22 hz, s_22 hz, n_22 hz, l_23 hz, s_23 hz, n_23 hz, l_24 hz, s_24 hz, n_24 hz, l_25 hz, s_25 hz, n_25 hz, l_26 hz, l_27 hz, ↓c_28 hz, r_28_0 hz, g_28_1 hz, p_28_1 hz, g_28_2 hz, p_28_2 hz, l_29 hz, s_29 hz, n_29 hz, ↓c_30 hz, r_30_0 hz, g_30_1 hz, p_30_1 hz, g_30_2 hz, p_30_2 hz, l_31 hz, s_31 hz, n_31 hz, l_32 hz, s_32 hz, n_32 hz, ↓c_33 hz, r_33_0 hz, v_33_1 hz, w_33_1 hz, p_33_1 hz, g_33_2 hz, p_33_2 hz, g_33_3 hz, p_33_3 hz, g_33_4 hz, p_33_4 hz, g_33_5 hz, p_33_5 hz, g_33_6 hz, p_33_6 hz, g_33_7 hz, p_33_7 hz, g_33_8 hz, p_33_8 hz, g_33_9 hz, p_33_9 hz, ↓c_34 hz, g_34_0 hz, p_34_0 hz, g_34_1 hz, p_34_1 hz, r_34_2 hz, r_34_3 hz, l_35 hz, s_35 hz, n_35 hz, l_36 hz, s_36 hz, n_36 hz, ↓c_38 hz, r_38_0 hz, v_38_1 hz, w_38_1 hz, p_38_1 hz, g_38_2 hz, p_38_2 hz, g_38_3 hz, p_38_3 hz, g_38_4 hz, p_38_4 hz, g_38_5 hz, p_38_5 hz, l_39 hz, s_39 hz, n_39 hz, ↓c_40 hz, r_40_0 hz, r_40_1 hz, r_40_2 hz, r_40_3 hz, g_40_4 hz, p_40_4 hz, l_41 hz, s_41 hz, n_41 hz, l_42 hz, s_42 hz, n_42 hz, l_43 hz, s_43 hz, n_43 hz, l_44 hz, s_44 hz, n_44 hz, ↓c_45 hz, r_45_0 hz, r_45_1 hz, r_45_2 hz, r_45_3 hz, r_45_4 hz, g_45_5 hz, p_45_5 hz, l_46 hz, s_46 hz, n_46 hz, l_47 hz, s_47 hz, n_47 hz, l_48 hz, s_48 hz, n_48 hz, l_49 hz, s_49 hz, n_49 hz, l_50 hz, s_50 hz, n_50 hz, ↓c_51 hz, r_51_0 hz, r_51_1 hz, r_51_2 hz, r_51_3 hz, r_51_4 hz, g_51_5 hz, p_51_5 hz, g_51_6 hz, p_51_6 hz, l_52 hz, s_52 hz, n_52 hz, l_53 hz, s_53 hz, n_53 hz, l_54 hz, s_54 hz, n_54 hz, l_55 hz, s_55 hz, n_55 hz, l_56 hz, s_56 hz, n_56 hz, l_57 hz, s_57 hz, n_57 hz, hO_s, hI_s, hL_s, hQ_s, hQ_n, hR_s, hV_s, hN_n, hN_s, cond_true, lI_0, lI_1, sI_0, sI_1, lL_0, lL_1, ↓reduceIte, not_true_eq_false, not_false_eq_true, Nat.reduceEqDiff, Nat.reduceAdd, Nat.reduceMul, Nat.reduceSub, Nat.reduceLeDiff, Nat.reduceLT, li_2, li_3, li_4, li_5, li_6, li_7, li_8, li_9, li_10, li_11, li_12, li_13, li_14, li_15, li_16, li_17, li_18, li_19, li_20, li_21, li_22, li_23, li_24, li_25, li_26, li_27, li_28, li_29, li_30, li_31, li_32, li_33, li_34, li_35, li_36, li_37, li_38, li_39, li_40, li_41, li_42, li_43, li_44, li_45, li_46, li_47, li_48, li_49, li_50, li_51, li_52, li_53, li_54, li_55, li_56, li_57, li_58, li_59, li_60, li_61, li_62, li_63, li_64, li_65, li_66, li_67, li_68, li_69, li_70, li_71, li_72, li_73, li_74, li_75, li_76, li_77, li_78, li_79, li_80, li_81, li_82, li_83, li_84, li_85, li_86, li_87, li_88, li_89, li_90, li_91, li_92, li_93, li_94, li_95, li_96, li_97, li_98, li_99, li_100, li_101, li_102, li_103, li_104, li_105, li_106, li_107, li_108, li_109, li_110, li_111, li_112, li_113, li_114, li_115, li_116, li_117, li_118, li_119, li_120, li_121, li_122, li_255, li_400, li_608, li_998, li_999, li_1000, li_1024, li_1103, li_2400, li_2911, li_4095, li_4096, li_5711, li_9999, li_12345, li_1000000, li_1000003, li_252645135, li_858993459, li_1431655765, up_ne, hlen, wI_le, c, H4, H0, H5, wI_eq, eq_true hkk, i1, t1]
          rfl
        · constructor
          · intro _; exact ⟨i, Nat.le_refl _, by omega, hclB.mpr ⟨hkk, htt⟩⟩
          · intro _; rfl
      · have t1 : (ovI (((cls.getD i dCL).2.2.2.2.2.2 (xEnv N s0 to dn lt)).map eB) = 1) = False := by rw [eB_1]; exact eq_false htt
        obtain ⟨g2, w, i2, hw⟩ := ih (i + 1) g1 (by omega)
        refine ⟨g2, w, ?_, stepQ w (fun h => htt (hclB.mp h).2) hw⟩
        simp -dsimp (disch := omega) only [↓c_Q hq, g_Q_0 hq, p_Q_0 hq, g_Q_1 hq, p_Q_1 hq, r_Q_2 hq, r_Q_3 hq, l_Q1 hq, s_Q1 hq, n_Q1 hq, l_Q2 hq, s_Q2 hq, n_Q2 hq, ↓c_0 hz, r_0_0 hz, r_0_1 hz, r_0_2 hz, v_0_3 hz, w_0_3 hz, p_0_3 hz, r_0_4 hz, r_0_5 hz, r_0_6 hz, g_0_7 hz, p_0_7 hz, r_0_8 hz, r_0_9 hz, r_0_10 hz, r_0_11 hz, r_0_12 hz, g_0_13 hz, p_0_13 hz, g_0_14 hz, p_0_14 hz, g_0_15 hz, p_0_15 hz, g_0_16 hz, p_0_16 hz, g_0_17 hz, p_0_17 hz, g_0_18 hz, p_0_18 hz, r_0_19 hz, ↓c_1 hz, g_1_0 hz, p_1_0 hz, r_1_1 hz, g_1_2 hz, p_1_2 hz, r_1_3 hz, r_1_4 hz, r_1_5 hz, r_1_6 hz, r_1_7 hz, r_1_8 hz, r_1_9 hz, g_1_10 hz, p_1_10 hz, r_1_11 hz, r_1_12 hz, r_1_13 hz, g_1_14 hz, p_1_14 hz, r_1_15 hz, g_1_16 hz, p_1_16 hz, l_2 hz, s_2 hz, n_2 hz, l_3 hz, s_3 hz, n_3 hz, l_4 hz, s_4 hz, n_4 hz, l_5 hz, s_5 hz, n_5 hz, l_6 hz, s_6 hz, n_6 hz, l_7 hz, s_7 hz, n_7 hz, l_8 hz, s_8 hz, n_8 hz, l_9 hz, s_9 hz, n_9 hz, l_10 hz, s_10 hz, n_10 hz, l_11 hz, s_11 hz, n_11 hz, l_12 hz, s_12 hz, n_12 hz, l_13 hz, ↓c_14 hz, g_14_0 hz, p_14_0 hz, r_14_1 hz, g_14_2 hz, p_14_2 hz, r_14_3 hz, r_14_4 hz, r_14_5 hz, r_14_6 hz, r_14_7 hz, r_14_8 hz, r_14_9 hz, g_14_10 hz, p_14_10 hz, r_14_11 hz, r_14_12 hz, r_14_13 hz, g_14_14 hz, p_14_14 hz, r_14_15 hz, g_14_16 hz, p_14_16 hz, l_15 hz, s_15 hz, n_15 hz, l_16 hz, s_16 hz, n_16 hz, l_17 hz, s_17 hz, n_17 hz, l_18 hz, s_18 hz, n_18 hz, l_19 hz, s_19 hz, n_19 hz, l_20 hz, s_20 hz, n_20 hz, l_21 hz, s_21 hz, n_21 hz, l_22 hz, s_22 hz, n_22 hz, l_23 hz, s_23 hz, n_23 hz, l_24 hz, s_24 hz, n_24 hz, l_25 hz, s_25 hz, n_25 hz, l_26 hz, l_27 hz, ↓c_28 hz, r_28_0 hz, g_28_1 hz, p_28_1 hz, g_28_2 hz, p_28_2 hz, l_29 hz, s_29 hz, n_29 hz, ↓c_30 hz, r_30_0 hz, g_30_1 hz, p_30_1 hz, g_30_2 hz, p_30_2 hz, l_31 hz, s_31 hz, n_31 hz, l_32 hz, s_32 hz, n_32 hz, ↓c_33 hz, r_33_0 hz, v_33_1 hz, w_33_1 hz, p_33_1 hz, g_33_2 hz, p_33_2 hz, g_33_3 hz, p_33_3 hz, g_33_4 hz, p_33_4 hz, g_33_5 hz, p_33_5 hz, g_33_6 hz, p_33_6 hz, g_33_7 hz, p_33_7 hz, g_33_8 hz, p_33_8 hz, g_33_9 hz, p_33_9 hz, ↓c_34 hz, g_34_0 hz, p_34_0 hz, g_34_1 hz, p_34_1 hz, r_34_2 hz, r_34_3 hz, l_35 hz, s_35 hz, n_35 hz, l_36 hz, s_36 hz, n_36 hz, ↓c_38 hz, r_38_0 hz, v_38_1 hz, w_38_1 hz, p_38_1 hz, g_38_2 hz, p_38_2 hz, g_38_3 hz, p_38_3 hz, g_38_4 hz, p_38_4 hz, g_38_5 hz, p_38_5 hz, l_39 hz, s_39 hz, n_39 hz, ↓c_40 hz, r_40_0 hz, r_40_1 hz, r_40_2 hz, r_40_3 hz, g_40_4 hz, p_40_4 hz, l_41 hz, s_41 hz, n_41 hz, l_42 hz, s_42 hz, n_42 hz, l_43 hz, s_43 hz, n_43 hz, l_44 hz, s_44 hz, n_44 hz, ↓c_45 hz, r_45_0 hz, r_45_1 hz, r_45_2 hz, r_45_3 hz, r_45_4 hz, g_45_5 hz, p_45_5 hz, l_46 hz, s_46 hz, n_46 hz, l_47 hz, s_47 hz, n_47 hz, l_48 hz, s_48 hz, n_48 hz, l_49 hz, s_49 hz, n_49 hz, l_50 hz, s_50 hz, n_50 hz, ↓c_51 hz, r_51_0 hz, r_51_1 hz, r_51_2 hz, r_51_3 hz, r_51_4 hz, g_51_5 hz, p_51_5 hz, g_51_6 hz, p_51_6 hz, l_52 hz, s_52 hz, n_52 hz, l_53 hz, s_53 hz, n_53 hz, l_54 hz, s_54 hz, n_54 hz, l_55 hz, s_55 hz, n_55 hz, l_56 hz, s_56 hz, n_56 hz, l_57 hz, s_57 hz, n_57 hz, hO_s, hI_s, hL_s, hQ_s, hQ_n, hR_s, hV_s, hN_n, hN_s, cond_true, lI_0, lI_1, sI_0, sI_1, lL_0, lL_1, ↓reduceIte, not_true_eq_false, not_false_eq_true, Nat.reduceEqDiff, Nat.reduceAdd, Nat.reduceMul, Nat.reduceSub, Nat.reduceLeDiff, Nat.reduceLT, li_2, li_3, li_4, li_5, li_6, li_7, li_8, li_9, li_10, li_11, li_12, li_13, li_14, li_15, li_16, li_17, li_18, li_19, li_20, li_21, li_22, li_23, li_24, li_25, li_26, li_27, li_28, li_29, li_30, li_31, li_32, li_33, li_34, li_35, li_36, li_37, li_38, li_39, li_40, li_41, li_42, li_43, li_44, li_45, li_46, li_47, li_48, li_49, li_50, li_51, li_52, li_53, li_54, li_55, li_56, li_57, li_58, li_59, li_60, li_61, li_62, li_63, li_64, li_65, li_66, li_67, li_68, li_69, li_70, li_71, li_72, li_73, li_74, li_75, li_76, li_77, li_78, li_79, li_80, li_81, li_82, li_83, li_84, li_85, li_86, li_87, li_88, li_89, li_90, li_91, li_92, li_93, li_94, li_95, li_96, li_97, li_98, li_99, li_100, li_101, li_102, li_103, li_104, li_105, li_106, li_107, li_108, li_109, li_110, li_111, li_112, li_113, li_114, li_115, li_116, li_117, li_118, li_119, li_120, li_121, li_122, li_255, li_400, li_608, li_998, li_999, li_1000, li_1024, li_1103, li_2400, li_2911, li_4095, li_4096, li_5711, li_9999, li_12345, li_1000000, li_1000003, li_252645135, li_858993459, li_1431655765, wI_add, wI_mul, wI_add1, wI_1add, up_ne, hlen, wI_le, c, H4, H0, H5, wI_eq, eq_true hkk, i1, t1, i2]
    · obtain ⟨g2, w, i2, hw⟩ := ih (i + 1) g (by omega)
      refine ⟨g2, w, ?_, stepQ w (fun h => hkk (hclB.mp h).1) hw⟩
      simp -dsimp (disch := omega) only [↓c_Q hq, g_Q_0 hq, p_Q_0 hq, g_Q_1 hq, p_Q_1 hq, r_Q_2 hq, r_Q_3 hq, l_Q1 hq, s_Q1 hq, n_Q1 hq, l_Q2 hq, s_Q2 hq, n_Q2 hq, ↓c_0 hz, r_0_0 hz, r_0_1 hz, r_0_2 hz, v_0_3 hz, w_0_3 hz, p_0_3 hz, r_0_4 hz, r_0_5 hz, r_0_6 hz, g_0_7 hz, p_0_7 hz, r_0_8 hz, r_0_9 hz, r_0_10 hz, r_0_11 hz, r_0_12 hz, g_0_13 hz, p_0_13 hz, g_0_14 hz, p_0_14 hz, g_0_15 hz, p_0_15 hz, g_0_16 hz, p_0_16 hz, g_0_17 hz, p_0_17 hz, g_0_18 hz, p_0_18 hz, r_0_19 hz, ↓c_1 hz, g_1_0 hz, p_1_0 hz, r_1_1 hz, g_1_2 hz, p_1_2 hz, r_1_3 hz, r_1_4 hz, r_1_5 hz, r_1_6 hz, r_1_7 hz, r_1_8 hz, r_1_9 hz, g_1_10 hz, p_1_10 hz, r_1_11 hz, r_1_12 hz, r_1_13 hz, g_1_14 hz, p_1_14 hz, r_1_15 hz, g_1_16 hz, p_1_16 hz, l_2 hz, s_2 hz, n_2 hz, l_3 hz, s_3 hz, n_3 hz, l_4 hz, s_4 hz, n_4 hz, l_5 hz, s_5 hz, n_5 hz, l_6 hz, s_6 hz, n_6 hz, l_7 hz, s_7 hz, n_7 hz, l_8 hz, s_8 hz, n_8 hz, l_9 hz, s_9 hz, n_9 hz, l_10 hz, s_10 hz, n_10 hz, l_11 hz, s_11 hz, n_11 hz, l_12 hz, s_12 hz, n_12 hz, l_13 hz, ↓c_14 hz, g_14_0 hz, p_14_0 hz, r_14_1 hz, g_14_2 hz, p_14_2 hz, r_14_3 hz, r_14_4 hz, r_14_5 hz, r_14_6 hz, r_14_7 hz, r_14_8 hz, r_14_9 hz, g_14_10 hz, p_14_10 hz, r_14_11 hz, r_14_12 hz, r_14_13 hz, g_14_14 hz, p_14_14 hz, r_14_15 hz, g_14_16 hz, p_14_16 hz, l_15 hz, s_15 hz, n_15 hz, l_16 hz, s_16 hz, n_16 hz, l_17 hz, s_17 hz, n_17 hz, l_18 hz, s_18 hz, n_18 hz, l_19 hz, s_19 hz, n_19 hz, l_20 hz, s_20 hz, n_20 hz, l_21 hz, s_21 hz, n_21 hz, l_22 hz, s_22 hz, n_22 hz, l_23 hz, s_23 hz, n_23 hz, l_24 hz, s_24 hz, n_24 hz, l_25 hz, s_25 hz, n_25 hz, l_26 hz, l_27 hz, ↓c_28 hz, r_28_0 hz, g_28_1 hz, p_28_1 hz, g_28_2 hz, p_28_2 hz, l_29 hz, s_29 hz, n_29 hz, ↓c_30 hz, r_30_0 hz, g_30_1 hz, p_30_1 hz, g_30_2 hz, p_30_2 hz, l_31 hz, s_31 hz, n_31 hz, l_32 hz, s_32 hz, n_32 hz, ↓c_33 hz, r_33_0 hz, v_33_1 hz, w_33_1 hz, p_33_1 hz, g_33_2 hz, p_33_2 hz, g_33_3 hz, p_33_3 hz, g_33_4 hz, p_33_4 hz, g_33_5 hz, p_33_5 hz, g_33_6 hz, p_33_6 hz, g_33_7 hz, p_33_7 hz, g_33_8 hz, p_33_8 hz, g_33_9 hz, p_33_9 hz, ↓c_34 hz, g_34_0 hz, p_34_0 hz, g_34_1 hz, p_34_1 hz, r_34_2 hz, r_34_3 hz, l_35 hz, s_35 hz, n_35 hz, l_36 hz, s_36 hz, n_36 hz, ↓c_38 hz, r_38_0 hz, v_38_1 hz, w_38_1 hz, p_38_1 hz, g_38_2 hz, p_38_2 hz, g_38_3 hz, p_38_3 hz, g_38_4 hz, p_38_4 hz, g_38_5 hz, p_38_5 hz, l_39 hz, s_39 hz, n_39 hz, ↓c_40 hz, r_40_0 hz, r_40_1 hz, r_40_2 hz, r_40_3 hz, g_40_4 hz, p_40_4 hz, l_41 hz, s_41 hz, n_41 hz, l_42 hz, s_42 hz, n_42 hz, l_43 hz, s_43 hz, n_43 hz, l_44 hz, s_44 hz, n_44 hz, ↓c_45 hz, r_45_0 hz, r_45_1 hz, r_45_2 hz, r_45_3 hz, r_45_4 hz, g_45_5 hz, p_45_5 hz, l_46 hz, s_46 hz, n_46 hz, l_47 hz, s_47 hz, n_47 hz, l_48 hz, s_48 hz, n_48 hz, l_49 hz, s_49 hz, n_49 hz, l_50 hz, s_50 hz, n_50 hz, ↓c_51 hz, r_51_0 hz, r_51_1 hz, r_51_2 hz, r_51_3 hz, r_51_4 hz, g_51_5 hz, p_51_5 hz, g_51_6 hz, p_51_6 hz, l_52 hz, s_52 hz, n_52 hz, l_53 hz, s_53 hz, n_53 hz, l_54 hz, s_54 hz, n_54 hz, l_55 hz, s_55 hz, n_55 hz, l_56 hz, s_56 hz, n_56 hz, l_57 hz, s_57 hz, n_57 hz, hO_s, hI_s, hL_s, hQ_s, hQ_n, hR_s, hV_s, hN_n, hN_s, cond_true, lI_0, lI_1, sI_0, sI_1, lL_0, lL_1, ↓reduceIte, not_true_eq_false, not_false_eq_true, Nat.reduceEqDiff, Nat.reduceAdd, Nat.reduceMul, Nat.reduceSub, Nat.reduceLeDiff, Nat.reduceLT, li_2, li_3, li_4, li_5, li_6, li_7, li_8, li_9, li_10, li_11, li_12, li_13, li_14, li_15, li_16, li_17, li_18, li_19, li_20, li_21, li_22, li_23, li_24, li_25, li_26, li_27, li_28, li_29, li_30, li_31, li_32, li_33, li_34, li_35, li_36, li_37, li_38, li_39, li_40, li_41, li_42, li_43, li_44, li_45, li_46, li_47, li_48, li_49, li_50, li_51, li_52, li_53, li_54, li_55, li_56, li_57, li_58, li_59, li_60, li_61, li_62, li_63, li_64, li_65, li_66, li_67, li_68, li_69, li_70, li_71, li_72, li_73, li_74, li_75, li_76, li_77, li_78, li_79, li_80, li_81, li_82, li_83, li_84, li_85, li_86, li_87, li_88, li_89, li_90, li_91, li_92, li_93, li_94, li_95, li_96, li_97, li_98, li_99, li_100, li_101, li_102, li_103, li_104, li_105, li_106, li_107, li_108, li_109, li_110, li_111, li_112, li_113, li_114, li_115, li_116, li_117, li_118, li_119, li_120, li_121, li_122, li_255, li_400, li_608, li_998, li_999, li_1000, li_1024, li_1103, li_2400, li_2911, li_4095, li_4096, li_5711, li_9999, li_12345, li_1000000, li_1000003, li_252645135, li_858993459, li_1431655765, wI_add, wI_mul, wI_add1, wI_1add, up_ne, hlen, wI_le, c, H4, H0, H5, wI_eq, hkk, i2]
end
section
variable {z : Mem} {f : Nat → Nat → Int32} {N : Nat → Nat} {b : Nat} {dn lt : Int} {cls : List CL}
theorem t_isBarred (hz : Sh z) (hb : Ch z b) (hc : CK f b N) (hv : VK N) (hl : LA f z b N cls) (h4 : f 38 4 = jI dn) (h5 : f 38 5 = jI lt) (hdn : -1000000000 ≤ dn ∧ dn ≤ 1000000000) (hlt : -1000000000 ≤ lt ∧ lt ≤ 1000000000) (h2 : S2 f)
    (hb0 : b ≠ 0) (hb1 : b < 2147480000) (hb39 : b + 12 < 38 ∨ 86 ≤ b) {s p : Nat} (hs : s < N 100) (hp : p < 6) {d : Nat} (hd : 4 ≤ d) :
    ∃ f', EC d mRules_isBarred [.ref 38, .ref b, .int (wI s), .int (wI p)] (mkM f z) = some (some (.int (bz ((lastI (xEnv N s p dn lt) 6 cls cls.length).isSome = true))), mkM f' z) ∧ RF b f f' := by
  obtain ⟨d, rfl⟩ : ∃ e, d = e + 1 := ⟨d - 1, by omega⟩
  have hB := hv.1
  have h100 := hv.2.2.1
  rw [q_Rules_isBarred]
  rcases t_lawInForce hb hc hv hl (d := d) (by omega) with ⟨e1, e2, e3⟩ | ⟨i, q, hl', sl, e1, e2, e3, e4, e5, e6, e7, e8⟩
  · refine ⟨f, ?_, fun a _ _ => rfl, rfl, rfl, h2, Or.inl rfl⟩
    subst e2
    simp -dsimp (disch := first | omega | exact hB _) only [↓c_C hb, g_C_0 hb, p_C_0 hb, r_C_1 hb, g_C_2 hb, p_C_2 hb, r_C_3 hb, r_C_4 hb, r_C_5 hb, r_C_6 hb, r_C_7 hb, r_C_8 hb, r_C_9 hb, g_C_10 hb, p_C_10 hb, r_C_11 hb, r_C_12 hb, r_C_13 hb, g_C_14 hb, p_C_14 hb, r_C_15 hb, g_C_16 hb, p_C_16 hb, l_C1 hb, s_C1 hb, n_C1 hb, l_C2 hb, s_C2 hb, n_C2 hb, l_C3 hb, s_C3 hb, n_C3 hb, l_C4 hb, s_C4 hb, n_C4 hb, l_C5 hb, s_C5 hb, n_C5 hb, l_C6 hb, s_C6 hb, n_C6 hb, l_C7 hb, s_C7 hb, n_C7 hb, l_C8 hb, s_C8 hb, n_C8 hb, l_C9 hb, s_C9 hb, n_C9 hb, l_C10 hb, s_C10 hb, n_C10 hb, l_C11 hb, s_C11 hb, n_C11 hb, l_C12 hb, hO_s, hI_s, hL_s, hQ_s, hQ_n, hR_s, hV_s, hN_n, hN_s, cond_true, lI_0, lI_1, sI_0, sI_1, lL_0, lL_1, ↓reduceIte, not_true_eq_false, not_false_eq_true, Nat.reduceEqDiff, Nat.reduceAdd, Nat.reduceMul, Nat.reduceSub, Nat.reduceLeDiff, Nat.reduceLT, li_2, li_3, li_4, li_5, li_6, li_7, li_8, li_9, li_10, li_11, li_12, li_13, li_14, li_15, li_16, li_17, li_18, li_19, li_20, li_21, li_22, li_23, li_24, li_25, li_26, li_27, li_28, li_29, li_30, li_31, li_32, li_33, li_34, li_35, li_36, li_37, li_38, li_39, li_40, li_41, li_42, li_43, li_44, li_45, li_46, li_47, li_48, li_49, li_50, li_51, li_52, li_53, li_54, li_55, li_56, li_57, li_58, li_59, li_60, li_61, li_62, li_63, li_64, li_65, li_66, li_67, li_68, li_69, li_70, li_71, li_72, li_73, li_74, li_75, li_76, li_77, li_78, li_79, li_80, li_81, li_82, li_83, li_84, li_85, li_86, li_87, li_88, li_89, li_90, li_91, li_92, li_93, li_94, li_95, li_96, li_97, li_98, li_99, li_100, li_101, li_102, li_103, li_104, li_105, li_106, li_107, li_108, li_109, li_110, li_111, li_112, li_113, li_114, li_115, li_116, li_117, li_118, li_119, li_120, li_121, li_122, li_255, li_400, li_608, li_998, li_999, li_1000, li_1024, li_1103, li_2400, li_2911, li_4095, li_4096, li_5711, li_9999, li_12345, li_1000000, li_1000003, li_252645135, li_858993459, li_1431655765, wI_add, wI_mul, wI_add1, wI_1add, e3]
    rfl
  · have hS := t_Chest_hasStick hb hc hv (d := d) (by omega) (wI s)
    rw [inb_wI (by omega)] at hS
    have hc' := CK_up hc (a := 38) (by omega) (upd (upd (upd (f 38) 1 (wI b)) 2 (wI s)) 3 (wI p))
    have hp' := PT_up e6 (a := 38) (by omega) (upd (upd (upd (f 38) 1 (wI b)) 2 (wI s)) 3 (wI p))
    have hr' : RK (up f 38 (upd (upd (upd (f 38) 1 (wI b)) 2 (wI s)) 3 (wI p))) b s p dn lt := by
      unfold RK
      rw [up_eq]
      refine ⟨?_, ?_, ?_, ?_, ?_⟩
      · rw [upd_ne _ _ _ (by decide), upd_ne _ _ _ (by decide), upd_eq]
      · rw [upd_ne _ _ _ (by decide), upd_eq]
      · rw [upd_eq, wI_jI]
      · rw [upd_ne _ _ _ (by decide), upd_ne _ _ _ (by decide), upd_ne _ _ _ (by decide), h4]
      · rw [upd_ne _ _ _ (by decide), upd_ne _ _ _ (by decide), upd_ne _ _ _ (by decide), h5]
    obtain ⟨g', w, i1, hw⟩ := isBarred_L hz hb hc' hv hr' hb0 (by omega) (by omega) (by omega) e5 (by omega) (env_B hv (by omega) (by omega) hdn hlt) hp' (d := d) (by omega) cls.length 0 (f 39) (by omega)
    have i0 : up (up f 38 (upd (upd (upd (f 38) 1 (wI b)) 2 (wI s)) 3 (wI p))) 39 (f 39) = up f 38 (upd (upd (upd (f 38) 1 (wI b)) 2 (wI s)) 3 (wI p)) := by
      have : (up f 38 (upd (upd (upd (f 38) 1 (wI b)) 2 (wI s)) 3 (wI p))) 39 = f 39 := up_ne _ _ _ (by decide)
      rw [← this, up_same]
    rw [i0] at i1
    have hw2 : w = true ↔ (lastI (xEnv N s p dn lt) 6 cls cls.length).isSome = true := by
      rw [hw, last_iff (fun j hj => LT_lw e7 hj) cls.length (Nat.le_refl _)]
      constructor
      · rintro ⟨j, -, h⟩; exact ⟨j, h⟩
      · rintro ⟨j, h⟩; exact ⟨j, Nat.zero_le _, h⟩
    rw [bz_congr hw2] at i1
    rw [show (wI 0 : Int32) = 0 from rfl] at i1
    refine ⟨up (up f 38 (upd (upd (upd (f 38) 1 (wI b)) 2 (wI s)) 3 (wI p))) 39 g', ?_, ?_⟩
    · simp -dsimp (disch := omega) only [↓c_0 hz, r_0_0 hz, r_0_1 hz, r_0_2 hz, v_0_3 hz, w_0_3 hz, p_0_3 hz, r_0_4 hz, r_0_5 hz, r_0_6 hz, g_0_7 hz, p_0_7 hz, r_0_8 hz, r_0_9 hz, r_0_10 hz, r_0_11 hz, r_0_12 hz, g_0_13 hz, p_0_13 hz, g_0_14 hz, p_0_14 hz, g_0_15 hz, p_0_15 hz, g_0_16 hz, p_0_16 hz, g_0_17 hz, p_0_17 hz, g_0_18 hz, p_0_18 hz, r_0_19 hz, ↓c_1 hz, g_1_0 hz, p_1_0 hz, r_1_1 hz, g_1_2 hz, p_1_2 hz, r_1_3 hz, r_1_4 hz, r_1_5 hz, r_1_6 hz, r_1_7 hz, r_1_8 hz, r_1_9 hz, g_1_10 hz, p_1_10 hz, r_1_11 hz, r_1_12 hz, r_1_13 hz, g_1_14 hz, p_1_14 hz, r_1_15 hz, g_1_16 hz, p_1_16 hz, l_2 hz, s_2 hz, n_2 hz, l_3 hz, s_3 hz, n_3 hz, l_4 hz, s_4 hz, n_4 hz, l_5 hz, s_5 hz, n_5 hz, l_6 hz, s_6 hz, n_6 hz, l_7 hz, s_7 hz, n_7 hz, l_8 hz, s_8 hz, n_8 hz, l_9 hz, s_9 hz, n_9 hz, l_10 hz, s_10 hz, n_10 hz, l_11 hz, s_11 hz, n_11 hz, l_12 hz, s_12 hz, n_12 hz, l_13 hz, ↓c_14 hz, g_14_0 hz, p_14_0 hz, r_14_1 hz, g_14_2 hz, p_14_2 hz, r_14_3 hz, r_14_4 hz, r_14_5 hz, r_14_6 hz, r_14_7 hz, r_14_8 hz, r_14_9 hz, g_14_10 hz, p_14_10 hz, r_14_11 hz, r_14_12 hz, r_14_13 hz, g_14_14 hz, p_14_14 hz, r_14_15 hz, g_14_16 hz, p_14_16 hz, l_15 hz, s_15 hz, n_15 hz, l_16 hz, s_16 hz, n_16 hz, l_17 hz, s_17 hz, n_17 hz, l_18 hz, s_18 hz, n_18 hz, l_19 hz, s_19 hz, n_19 hz, l_20 hz, s_20 hz, n_20 hz, l_21 hz, s_21 hz, n_21 hz, l_22 hz, s_22 hz, n_22 hz, l_23 hz, s_23 hz, n_23 hz, l_24 hz, s_24 hz, n_24 hz, l_25 hz, s_25 hz, n_25 hz, l_26 hz, l_27 hz, ↓c_28 hz, r_28_0 hz, g_28_1 hz, p_28_1 hz, g_28_2 hz, p_28_2 hz, l_29 hz, s_29 hz, n_29 hz, ↓c_30 hz, r_30_0 hz, g_30_1 hz, p_30_1 hz, g_30_2 hz, p_30_2 hz, l_31 hz, s_31 hz, n_31 hz, l_32 hz, s_32 hz, n_32 hz, ↓c_33 hz, r_33_0 hz, v_33_1 hz, w_33_1 hz, p_33_1 hz, g_33_2 hz, p_33_2 hz, g_33_3 hz, p_33_3 hz, g_33_4 hz, p_33_4 hz, g_33_5 hz, p_33_5 hz, g_33_6 hz, p_33_6 hz, g_33_7 hz, p_33_7 hz, g_33_8 hz, p_33_8 hz, g_33_9 hz, p_33_9 hz, ↓c_34 hz, g_34_0 hz, p_34_0 hz, g_34_1 hz, p_34_1 hz, r_34_2 hz, r_34_3 hz, l_35 hz, s_35 hz, n_35 hz, l_36 hz, s_36 hz, n_36 hz, ↓c_38 hz, r_38_0 hz, v_38_1 hz, w_38_1 hz, p_38_1 hz, g_38_2 hz, p_38_2 hz, g_38_3 hz, p_38_3 hz, g_38_4 hz, p_38_4 hz, g_38_5 hz, p_38_5 hz, l_39 hz, s_39 hz, n_39 hz, ↓c_40 hz, r_40_0 hz, r_40_1 hz, r_40_2 hz, r_40_3 hz, g_40_4 hz, p_40_4 hz, l_41 hz, s_41 hz, n_41 hz, l_42 hz, s_42 hz, n_42 hz, l_43 hz, s_43 hz, n_43 hz, l_44 hz, s_44 hz, n_44 hz, ↓c_45 hz, r_45_0 hz, r_45_1 hz, r_45_2 hz, r_45_3 hz, r_45_4 hz, g_45_5 hz, p_45_5 hz, l_46 hz, s_46 hz, n_46 hz, l_47 hz, s_47 hz, n_47 hz, l_48 hz, s_48 hz, n_48 hz, l_49 hz, s_49 hz, n_49 hz, l_50 hz, s_50 hz, n_50 hz, ↓c_51 hz, r_51_0 hz, r_51_1 hz, r_51_2 hz, r_51_3 hz, r_51_4 hz, g_51_5 hz, p_51_5 hz, g_51_6 hz, p_51_6 hz, l_52 hz, s_52 hz, n_52 hz, l_53 hz, s_53 hz, n_53 hz, l_54 hz, s_54 hz, n_54 hz, l_55 hz, s_55 hz, n_55 hz, l_56 hz, s_56 hz, n_56 hz, l_57 hz, s_57 hz, n_57 hz, ↓c_C hb, g_C_0 hb, p_C_0 hb, r_C_1 hb, g_C_2 hb, p_C_2 hb, r_C_3 hb, r_C_4 hb, r_C_5 hb, r_C_6 hb, r_C_7 hb, r_C_8 hb, r_C_9 hb, g_C_10 hb, p_C_10 hb, r_C_11 hb, r_C_12 hb, r_C_13 hb, g_C_14 hb, p_C_14 hb, r_C_15 hb, g_C_16 hb, p_C_16 hb, l_C1 hb, s_C1 hb, n_C1 hb, l_C2 hb, s_C2 hb, n_C2 hb, l_C3 hb, s_C3 hb, n_C3 hb, l_C4 hb, s_C4 hb, n_C4 hb, l_C5 hb, s_C5 hb, n_C5 hb, l_C6 hb, s_C6 hb, n_C6 hb, l_C7 hb, s_C7 hb, n_C7 hb, l_C8 hb, s_C8 hb, n_C8 hb, l_C9 hb, s_C9 hb, n_C9 hb, l_C10 hb, s_C10 hb, n_C10 hb, l_C11 hb, s_C11 hb, n_C11 hb, l_C12 hb, hO_s, hI_s, hL_s, hQ_s, hQ_n, hR_s, hV_s, hN_n, hN_s, cond_true, lI_0, lI_1, sI_0, sI_1, lL_0, lL_1, ↓reduceIte, not_true_eq_false, not_false_eq_true, Nat.reduceEqDiff, Nat.reduceAdd, Nat.reduceMul, Nat.reduceSub, Nat.reduceLeDiff, Nat.reduceLT, li_2, li_3, li_4, li_5, li_6, li_7, li_8, li_9, li_10, li_11, li_12, li_13, li_14, li_15, li_16, li_17, li_18, li_19, li_20, li_21, li_22, li_23, li_24, li_25, li_26, li_27, li_28, li_29, li_30, li_31, li_32, li_33, li_34, li_35, li_36, li_37, li_38, li_39, li_40, li_41, li_42, li_43, li_44, li_45, li_46, li_47, li_48, li_49, li_50, li_51, li_52, li_53, li_54, li_55, li_56, li_57, li_58, li_59, li_60, li_61, li_62, li_63, li_64, li_65, li_66, li_67, li_68, li_69, li_70, li_71, li_72, li_73, li_74, li_75, li_76, li_77, li_78, li_79, li_80, li_81, li_82, li_83, li_84, li_85, li_86, li_87, li_88, li_89, li_90, li_91, li_92, li_93, li_94, li_95, li_96, li_97, li_98, li_99, li_100, li_101, li_102, li_103, li_104, li_105, li_106, li_107, li_108, li_109, li_110, li_111, li_112, li_113, li_114, li_115, li_116, li_117, li_118, li_119, li_120, li_121, li_122, li_255, li_400, li_608, li_998, li_999, li_1000, li_1024, li_1103, li_2400, li_2911, li_4095, li_4096, li_5711, li_9999, li_12345, li_1000000, li_1000003, li_252645135, li_858993459, li_1431655765, e8, hS, decide_eq_true hs, bz_T, show ((1 : Int32) = 0) = False from eq_false (by decide), up_eq, up_up, i1]
    · refine ⟨fun a h1 h2 => ?_, ?_, ?_, ⟨s, p, by omega, ?_, by rw [up_ne _ _ _ (by decide), up_eq, upd_eq, wI_jI], by omega, by omega⟩, Or.inr ?_⟩
      · rw [up_ne _ _ _ h2, up_ne _ _ _ h1]
      · rw [up_ne _ _ _ (by decide), up_eq, upd_ne _ _ _ (by decide), upd_ne _ _ _ (by decide), upd_ne _ _ _ (by decide)]
      · rw [up_ne _ _ _ (by decide), up_eq, upd_ne _ _ _ (by decide), upd_ne _ _ _ (by decide), upd_ne _ _ _ (by decide)]
      · rw [up_ne _ _ _ (by decide), up_eq, upd_ne _ _ _ (by decide), upd_eq]
      · rw [up_ne _ _ _ (by decide), up_eq, upd_ne _ _ _ (by decide), upd_ne _ _ _ (by decide), upd_eq]
theorem clamp_t {high wo : Nat} (hh : high < 100000) (hw : wo ≤ high) {x : Option Int} (hx : ∀ v, x = some v → -1000000000 ≤ v ∧ v ≤ 1000000000) : mxI 0 (mnI (wI high) (aII x (wI wo))) = wI (tellN high wo x) := by
  cases x with
  | none =>
    show mxI 0 (mnI (wI high) (wI wo)) = wI wo
    have e1 : mnI (wI high) (wI wo) = wI wo := by
      unfold mnI
      by_cases h : wI wo < wI high
      · rw [if_pos h]
      · rw [if_neg h]
        rw [wI_lt (by omega) (by omega)] at h
        congr 1; omega
    rw [e1]
    unfold mxI
    by_cases h : (0 : Int32) < wI wo
    · rw [if_pos h]
    · rw [if_neg h]
      rw [wI_0lt (by omega)] at h
      have : wo = 0 := by omega
      subst this; rfl
  | some v =>
    have := hx v rfl
    show mxI 0 (mnI (wI high) (jI v)) = wI (if v < 0 then 0 else if (high : Int) < v then high else v.toNat)
    unfold mnI mxI
    rw [jl_0]
    simp only [wI_jI]
    simp (disch := omega) only [jI_lt]
    by_cases h : v < (high : Int)
    · simp only [if_pos h]
      simp (disch := omega) only [jI_lt]
      by_cases h0 : 0 < v
      · rw [if_pos h0, if_neg (by omega), if_neg (by omega)]
        congr 1; omega
      · rw [if_neg h0]
        congr 1
        split
        · rfl
        · rw [if_neg (by omega)]; omega
    · simp only [if_neg h]
      simp (disch := omega) only [jI_lt]
      by_cases h0 : (0 : Int) < high
      · rw [if_pos h0, if_neg (by omega)]
        congr 1
        split
        · rfl
        · omega
      · rw [if_neg h0]
        congr 1
        split
        · rfl
        · split <;> omega
theorem last_b {e : EnvT} {k : Nat} {cls : List CL} (h : ∀ j, j < cls.length → ∀ v, (cls.getD j dCL).2.2.2.2.1 e = some v → -1000000000 ≤ v ∧ v ≤ 1000000000) : ∀ m, m ≤ cls.length → ∀ v, lastI e k cls m = some v → -1000000000 ≤ v ∧ v ≤ 1000000000 := by
  intro m
  induction m with
  | zero => intro _ v h; cases h
  | succ m ih =>
    intro hm v hv
    rw [lastI] at hv
    split at hv
    · cases hd : (cls.getD m dCL).2.2.2.2.1 e with
      | none => rw [hd] at hv; exact ih (by omega) v hv
      | some w => rw [hd] at hv; cases hv; exact h m (by omega) _ hd
    · exact ih (by omega) v hv
def dBC (q : CL) : Prop := ∀ e, envB e → ∀ v, q.2.2.2.2.1 e = some v → -1000000000 ≤ v ∧ v ≤ 1000000000
theorem dB_lawC {C V : Nat → Nat} (c t l : Nat) (q : CL) (h : pLawC C V c t l = .inr q) : dBC q := by
  unfold pLawC at h
  split at h
  · cases e1 : pIf false C V c (t + 1) l with
    | inl e => rw [e1] at h; cases h
    | inr r =>
      rw [e1] at h
      cases h
      intro e he v hv
      cases hv; decide
  · split at h
    · cases e1 : pSum false C V 8 c (t + 1) l with
      | inl e => rw [e1] at h; cases h
      | inr q1 =>
        rw [e1] at h
        dsimp only at h
        cases e2 : pIf false C V (c + q1.2.2.1.length) q1.1 q1.2.1 with
        | inl e => rw [e2] at h; cases h
        | inr r =>
          rw [e2] at h
          cases h
          intro e he v hv
          exact dB_sum 8 _ _ _ _ e1 e he v hv
    · cases h
theorem LA_b {e : EnvT} (he : envB e) (hl : LA f z b N cls) (k : Nat) : ∀ v, lastI e k cls cls.length = some v → -1000000000 ≤ v ∧ v ≤ 1000000000 := by
  rcases hl with ⟨-, rfl⟩ | ⟨i, q, hl, sl, h1, h2, h3, h4, h5, h6, h7, h8⟩
  · intro v h; cases h
  · exact last_b (fun j hj v hv => pText_all dB_lawC _ _ _ _ _ h8.2 _ (getD_mem hj) e he v hv) _ (Nat.le_refl _)
/-- what a STICK pays, in how many fibres it is worn -/
def payN (N : Nat → Nat) (s : Nat) (cls : List CL) (dn lt : Int) : Nat := tellN 9999 (N (16 + s)) (lastI (xEnv N s (-1) dn lt) 4 cls cls.length)
def wearN (N : Nat → Nat) (s : Nat) (cls : List CL) (dn lt : Int) : Nat := tellN 12 (N 97) (lastI (xEnv N s (-1) dn lt) 5 cls cls.length)
theorem t_payOf (hz : Sh z) (hb : Ch z b) (hc : CK f b N) (hv : VK N) (hl : LA f z b N cls) (h4 : f 38 4 = jI dn) (h5 : f 38 5 = jI lt) (hdn : -1000000000 ≤ dn ∧ dn ≤ 1000000000) (hlt : -1000000000 ≤ lt ∧ lt ≤ 1000000000) (h2 : S2 f)
    (hb0 : b ≠ 0) (hb1 : b < 2147480000) (hb39 : b + 12 < 38 ∨ 86 ≤ b) {s : Nat} (hs : s < N 100) {d : Nat} (hd : 5 ≤ d) :
    ∃ f', EC d mRules_payOf [.ref 38, .ref b, .int (wI s)] (mkM f z) = some (some (.int (wI (payN N s cls dn lt))), mkM f' z) ∧ RF b f f' := by
  obtain ⟨d, rfl⟩ : ∃ e, d = e + 1 := ⟨d - 1, by omega⟩
  have hB := hv.1
  have h100 := hv.2.2.1
  obtain ⟨f', i1, r1⟩ := t_lastTold hz hb hc hv hl h4 h5 hdn hlt h2 hb0 hb1 hb39 hs (k := 4) (by decide) (wo := wI (N (16 + s))) (d := d) (by omega)
  refine ⟨f', ?_, r1⟩
  have hsum := (hv.2.2.2.2.2.2.2.2.2.2.1 s (by omega)).2.1
  obtain ⟨c99, c100, c101, c102, c103, cpu, cow, cho, csu, cgr, cki, cdu, cpa, cfg, cfs, cda, cdm, cmo⟩ := hc
  rw [q_Rules_payOf]
  obtain ⟨d, rfl⟩ : ∃ e, d = e + 1 := ⟨d - 1, by omega⟩
  simp -dsimp (disch := first | omega | exact hB _) only [↓c_0 hz, r_0_0 hz, r_0_1 hz, r_0_2 hz, v_0_3 hz, w_0_3 hz, p_0_3 hz, r_0_4 hz, r_0_5 hz, r_0_6 hz, g_0_7 hz, p_0_7 hz, r_0_8 hz, r_0_9 hz, r_0_10 hz, r_0_11 hz, r_0_12 hz, g_0_13 hz, p_0_13 hz, g_0_14 hz, p_0_14 hz, g_0_15 hz, p_0_15 hz, g_0_16 hz, p_0_16 hz, g_0_17 hz, p_0_17 hz, g_0_18 hz, p_0_18 hz, r_0_19 hz, ↓c_1 hz, g_1_0 hz, p_1_0 hz, r_1_1 hz, g_1_2 hz, p_1_2 hz, r_1_3 hz, r_1_4 hz, r_1_5 hz, r_1_6 hz, r_1_7 hz, r_1_8 hz, r_1_9 hz, g_1_10 hz, p_1_10 hz, r_1_11 hz, r_1_12 hz, r_1_13 hz, g_1_14 hz, p_1_14 hz, r_1_15 hz, g_1_16 hz, p_1_16 hz, l_2 hz, s_2 hz, n_2 hz, l_3 hz, s_3 hz, n_3 hz, l_4 hz, s_4 hz, n_4 hz, l_5 hz, s_5 hz, n_5 hz, l_6 hz, s_6 hz, n_6 hz, l_7 hz, s_7 hz, n_7 hz, l_8 hz, s_8 hz, n_8 hz, l_9 hz, s_9 hz, n_9 hz, l_10 hz, s_10 hz, n_10 hz, l_11 hz, s_11 hz, n_11 hz, l_12 hz, s_12 hz, n_12 hz, l_13 hz, ↓c_14 hz, g_14_0 hz, p_14_0 hz, r_14_1 hz, g_14_2 hz, p_14_2 hz, r_14_3 hz, r_14_4 hz, r_14_5 hz, r_14_6 hz, r_14_7 hz, r_14_8 hz, r_14_9 hz, g_14_10 hz, p_14_10 hz, r_14_11 hz, r_14_12 hz, r_14_13 hz, g_14_14 hz, p_14_14 hz, r_14_15 hz, g_14_16 hz, p_14_16 hz, l_15 hz, s_15 hz, n_15 hz, l_16 hz, s_16 hz, n_16 hz, l_17 hz, s_17 hz, n_17 hz, l_18 hz, s_18 hz, n_18 hz, l_19 hz, s_19 hz, n_19 hz, l_20 hz, s_20 hz, n_20 hz, l_21 hz, s_21 hz, n_21 hz, l_22 hz, s_22 hz, n_22 hz, l_23 hz, s_23 hz, n_23 hz, l_24 hz, s_24 hz, n_24 hz, l_25 hz, s_25 hz, n_25 hz, l_26 hz, l_27 hz, ↓c_28 hz, r_28_0 hz, g_28_1 hz, p_28_1 hz, g_28_2 hz, p_28_2 hz, l_29 hz, s_29 hz, n_29 hz, ↓c_30 hz, r_30_0 hz, g_30_1 hz, p_30_1 hz, g_30_2 hz, p_30_2 hz, l_31 hz, s_31 hz, n_31 hz, l_32 hz, s_32 hz, n_32 hz, ↓c_33 hz, r_33_0 hz, v_33_1 hz, w_33_1 hz, p_33_1 hz, g_33_2 hz, p_33_2 hz, g_33_3 hz, p_33_3 hz, g_33_4 hz, p_33_4 hz, g_33_5 hz, p_33_5 hz, g_33_6 hz, p_33_6 hz, g_33_7 hz, p_33_7 hz, g_33_8 hz, p_33_8 hz, g_33_9 hz, p_33_9 hz, ↓c_34 hz, g_34_0 hz, p_34_0 hz, g_34_1 hz, p_34_1 hz, r_34_2 hz, r_34_3 hz, l_35 hz, s_35 hz, n_35 hz, l_36 hz, s_36 hz, n_36 hz, ↓c_38 hz, r_38_0 hz, v_38_1 hz, w_38_1 hz, p_38_1 hz, g_38_2 hz, p_38_2 hz, g_38_3 hz, p_38_3 hz, g_38_4 hz, p_38_4 hz, g_38_5 hz, p_38_5 hz, l_39 hz, s_39 hz, n_39 hz, ↓c_40 hz, r_40_0 hz, r_40_1 hz, r_40_2 hz, r_40_3 hz, g_40_4 hz, p_40_4 hz, l_41 hz, s_41 hz, n_41 hz, l_42 hz, s_42 hz, n_42 hz, l_43 hz, s_43 hz, n_43 hz, l_44 hz, s_44 hz, n_44 hz, ↓c_45 hz, r_45_0 hz, r_45_1 hz, r_45_2 hz, r_45_3 hz, r_45_4 hz, g_45_5 hz, p_45_5 hz, l_46 hz, s_46 hz, n_46 hz, l_47 hz, s_47 hz, n_47 hz, l_48 hz, s_48 hz, n_48 hz, l_49 hz, s_49 hz, n_49 hz, l_50 hz, s_50 hz, n_50 hz, ↓c_51 hz, r_51_0 hz, r_51_1 hz, r_51_2 hz, r_51_3 hz, r_51_4 hz, g_51_5 hz, p_51_5 hz, g_51_6 hz, p_51_6 hz, l_52 hz, s_52 hz, n_52 hz, l_53 hz, s_53 hz, n_53 hz, l_54 hz, s_54 hz, n_54 hz, l_55 hz, s_55 hz, n_55 hz, l_56 hz, s_56 hz, n_56 hz, l_57 hz, s_57 hz, n_57 hz, ↓c_C hb, g_C_0 hb, p_C_0 hb, r_C_1 hb, g_C_2 hb, p_C_2 hb, r_C_3 hb, r_C_4 hb, r_C_5 hb, r_C_6 hb, r_C_7 hb, r_C_8 hb, r_C_9 hb, g_C_10 hb, p_C_10 hb, r_C_11 hb, r_C_12 hb, r_C_13 hb, g_C_14 hb, p_C_14 hb, r_C_15 hb, g_C_16 hb, p_C_16 hb, l_C1 hb, s_C1 hb, n_C1 hb, l_C2 hb, s_C2 hb, n_C2 hb, l_C3 hb, s_C3 hb, n_C3 hb, l_C4 hb, s_C4 hb, n_C4 hb, l_C5 hb, s_C5 hb, n_C5 hb, l_C6 hb, s_C6 hb, n_C6 hb, l_C7 hb, s_C7 hb, n_C7 hb, l_C8 hb, s_C8 hb, n_C8 hb, l_C9 hb, s_C9 hb, n_C9 hb, l_C10 hb, s_C10 hb, n_C10 hb, l_C11 hb, s_C11 hb, n_C11 hb, l_C12 hb, hO_s, hI_s, hL_s, hQ_s, hQ_n, hR_s, hV_s, hN_n, hN_s, cond_true, lI_0, lI_1, sI_0, sI_1, lL_0, lL_1, ↓reduceIte, not_true_eq_false, not_false_eq_true, Nat.reduceEqDiff, Nat.reduceAdd, Nat.reduceMul, Nat.reduceSub, Nat.reduceLeDiff, Nat.reduceLT, li_2, li_3, li_4, li_5, li_6, li_7, li_8, li_9, li_10, li_11, li_12, li_13, li_14, li_15, li_16, li_17, li_18, li_19, li_20, li_21, li_22, li_23, li_24, li_25, li_26, li_27, li_28, li_29, li_30, li_31, li_32, li_33, li_34, li_35, li_36, li_37, li_38, li_39, li_40, li_41, li_42, li_43, li_44, li_45, li_46, li_47, li_48, li_49, li_50, li_51, li_52, li_53, li_54, li_55, li_56, li_57, li_58, li_59, li_60, li_61, li_62, li_63, li_64, li_65, li_66, li_67, li_68, li_69, li_70, li_71, li_72, li_73, li_74, li_75, li_76, li_77, li_78, li_79, li_80, li_81, li_82, li_83, li_84, li_85, li_86, li_87, li_88, li_89, li_90, li_91, li_92, li_93, li_94, li_95, li_96, li_97, li_98, li_99, li_100, li_101, li_102, li_103, li_104, li_105, li_106, li_107, li_108, li_109, li_110, li_111, li_112, li_113, li_114, li_115, li_116, li_117, li_118, li_119, li_120, li_121, li_122, li_255, li_400, li_608, li_998, li_999, li_1000, li_1024, li_1103, li_2400, li_2911, li_4095, li_4096, li_5711, li_9999, li_12345, li_1000000, li_1000003, li_252645135, li_858993459, li_1431655765, wI_add, wI_mul, wI_add1, wI_1add, csu, i1, q_Rules_clamp]
  rw [clamp_t (by decide) (by omega) (LA_b (env_B hv (by omega) (by decide) hdn hlt) hl 4)]
  rfl
theorem t_wearOf (hz : Sh z) (hb : Ch z b) (hc : CK f b N) (hv : VK N) (hl : LA f z b N cls) (h4 : f 38 4 = jI dn) (h5 : f 38 5 = jI lt) (hdn : -1000000000 ≤ dn ∧ dn ≤ 1000000000) (hlt : -1000000000 ≤ lt ∧ lt ≤ 1000000000) (h2 : S2 f)
    (hb0 : b ≠ 0) (hb1 : b < 2147480000) (hb39 : b + 12 < 38 ∨ 86 ≤ b) {s : Nat} (hs : s < N 100) {d : Nat} (hd : 5 ≤ d) :
    ∃ f', EC d mRules_wearOf [.ref 38, .ref b, .int (wI s)] (mkM f z) = some (some (.int (wI (wearN N s cls dn lt))), mkM f' z) ∧ RF b f f' := by
  obtain ⟨d, rfl⟩ : ∃ e, d = e + 1 := ⟨d - 1, by omega⟩
  have hB := hv.1
  have h100 := hv.2.2.1
  obtain ⟨f', i1, r1⟩ := t_lastTold hz hb hc hv hl h4 h5 hdn hlt h2 hb0 hb1 hb39 hs (k := 5) (by decide) (wo := wI (N 97)) (d := d) (by omega)
  refine ⟨f', ?_, r1⟩
  have hdm := hv.2.2.2.2.2.2.2.1
  obtain ⟨c99, c100, c101, c102, c103, cpu, cow, cho, csu, cgr, cki, cdu, cpa, cfg, cfs, cda, cdm, cmo⟩ := hc
  rw [q_Rules_wearOf]
  obtain ⟨d, rfl⟩ : ∃ e, d = e + 1 := ⟨d - 1, by omega⟩
  simp -dsimp (disch := first | omega | exact hB _) only [↓c_0 hz, r_0_0 hz, r_0_1 hz, r_0_2 hz, v_0_3 hz, w_0_3 hz, p_0_3 hz, r_0_4 hz, r_0_5 hz, r_0_6 hz, g_0_7 hz, p_0_7 hz, r_0_8 hz, r_0_9 hz, r_0_10 hz, r_0_11 hz, r_0_12 hz, g_0_13 hz, p_0_13 hz, g_0_14 hz, p_0_14 hz, g_0_15 hz, p_0_15 hz, g_0_16 hz, p_0_16 hz, g_0_17 hz, p_0_17 hz, g_0_18 hz, p_0_18 hz, r_0_19 hz, ↓c_1 hz, g_1_0 hz, p_1_0 hz, r_1_1 hz, g_1_2 hz, p_1_2 hz, r_1_3 hz, r_1_4 hz, r_1_5 hz, r_1_6 hz, r_1_7 hz, r_1_8 hz, r_1_9 hz, g_1_10 hz, p_1_10 hz, r_1_11 hz, r_1_12 hz, r_1_13 hz, g_1_14 hz, p_1_14 hz, r_1_15 hz, g_1_16 hz, p_1_16 hz, l_2 hz, s_2 hz, n_2 hz, l_3 hz, s_3 hz, n_3 hz, l_4 hz, s_4 hz, n_4 hz, l_5 hz, s_5 hz, n_5 hz, l_6 hz, s_6 hz, n_6 hz, l_7 hz, s_7 hz, n_7 hz, l_8 hz, s_8 hz, n_8 hz, l_9 hz, s_9 hz, n_9 hz, l_10 hz, s_10 hz, n_10 hz, l_11 hz, s_11 hz, n_11 hz, l_12 hz, s_12 hz, n_12 hz, l_13 hz, ↓c_14 hz, g_14_0 hz, p_14_0 hz, r_14_1 hz, g_14_2 hz, p_14_2 hz, r_14_3 hz, r_14_4 hz, r_14_5 hz, r_14_6 hz, r_14_7 hz, r_14_8 hz, r_14_9 hz, g_14_10 hz, p_14_10 hz, r_14_11 hz, r_14_12 hz, r_14_13 hz, g_14_14 hz, p_14_14 hz, r_14_15 hz, g_14_16 hz, p_14_16 hz, l_15 hz, s_15 hz, n_15 hz, l_16 hz, s_16 hz, n_16 hz, l_17 hz, s_17 hz, n_17 hz, l_18 hz, s_18 hz, n_18 hz, l_19 hz, s_19 hz, n_19 hz, l_20 hz, s_20 hz, n_20 hz, l_21 hz, s_21 hz, n_21 hz, l_22 hz, s_22 hz, n_22 hz, l_23 hz, s_23 hz, n_23 hz, l_24 hz, s_24 hz, n_24 hz, l_25 hz, s_25 hz, n_25 hz, l_26 hz, l_27 hz, ↓c_28 hz, r_28_0 hz, g_28_1 hz, p_28_1 hz, g_28_2 hz, p_28_2 hz, l_29 hz, s_29 hz, n_29 hz, ↓c_30 hz, r_30_0 hz, g_30_1 hz, p_30_1 hz, g_30_2 hz, p_30_2 hz, l_31 hz, s_31 hz, n_31 hz, l_32 hz, s_32 hz, n_32 hz, ↓c_33 hz, r_33_0 hz, v_33_1 hz, w_33_1 hz, p_33_1 hz, g_33_2 hz, p_33_2 hz, g_33_3 hz, p_33_3 hz, g_33_4 hz, p_33_4 hz, g_33_5 hz, p_33_5 hz, g_33_6 hz, p_33_6 hz, g_33_7 hz, p_33_7 hz, g_33_8 hz, p_33_8 hz, g_33_9 hz, p_33_9 hz, ↓c_34 hz, g_34_0 hz, p_34_0 hz, g_34_1 hz, p_34_1 hz, r_34_2 hz, r_34_3 hz, l_35 hz, s_35 hz, n_35 hz, l_36 hz, s_36 hz, n_36 hz, ↓c_38 hz, r_38_0 hz, v_38_1 hz, w_38_1 hz, p_38_1 hz, g_38_2 hz, p_38_2 hz, g_38_3 hz, p_38_3 hz, g_38_4 hz, p_38_4 hz, g_38_5 hz, p_38_5 hz, l_39 hz, s_39 hz, n_39 hz, ↓c_40 hz, r_40_0 hz, r_40_1 hz, r_40_2 hz, r_40_3 hz, g_40_4 hz, p_40_4 hz, l_41 hz, s_41 hz, n_41 hz, l_42 hz, s_42 hz, n_42 hz, l_43 hz, s_43 hz, n_43 hz, l_44 hz, s_44 hz, n_44 hz, ↓c_45 hz, r_45_0 hz, r_45_1 hz, r_45_2 hz, r_45_3 hz, r_45_4 hz, g_45_5 hz, p_45_5 hz, l_46 hz, s_46 hz, n_46 hz, l_47 hz, s_47 hz, n_47 hz, l_48 hz, s_48 hz, n_48 hz, l_49 hz, s_49 hz, n_49 hz, l_50 hz, s_50 hz, n_50 hz, ↓c_51 hz, r_51_0 hz, r_51_1 hz, r_51_2 hz, r_51_3 hz, r_51_4 hz, g_51_5 hz, p_51_5 hz, g_51_6 hz, p_51_6 hz, l_52 hz, s_52 hz, n_52 hz, l_53 hz, s_53 hz, n_53 hz, l_54 hz, s_54 hz, n_54 hz, l_55 hz, s_55 hz, n_55 hz, l_56 hz, s_56 hz, n_56 hz, l_57 hz, s_57 hz, n_57 hz, ↓c_C hb, g_C_0 hb, p_C_0 hb, r_C_1 hb, g_C_2 hb, p_C_2 hb, r_C_3 hb, r_C_4 hb, r_C_5 hb, r_C_6 hb, r_C_7 hb, r_C_8 hb, r_C_9 hb, g_C_10 hb, p_C_10 hb, r_C_11 hb, r_C_12 hb, r_C_13 hb, g_C_14 hb, p_C_14 hb, r_C_15 hb, g_C_16 hb, p_C_16 hb, l_C1 hb, s_C1 hb, n_C1 hb, l_C2 hb, s_C2 hb, n_C2 hb, l_C3 hb, s_C3 hb, n_C3 hb, l_C4 hb, s_C4 hb, n_C4 hb, l_C5 hb, s_C5 hb, n_C5 hb, l_C6 hb, s_C6 hb, n_C6 hb, l_C7 hb, s_C7 hb, n_C7 hb, l_C8 hb, s_C8 hb, n_C8 hb, l_C9 hb, s_C9 hb, n_C9 hb, l_C10 hb, s_C10 hb, n_C10 hb, l_C11 hb, s_C11 hb, n_C11 hb, l_C12 hb, hO_s, hI_s, hL_s, hQ_s, hQ_n, hR_s, hV_s, hN_n, hN_s, cond_true, lI_0, lI_1, sI_0, sI_1, lL_0, lL_1, ↓reduceIte, not_true_eq_false, not_false_eq_true, Nat.reduceEqDiff, Nat.reduceAdd, Nat.reduceMul, Nat.reduceSub, Nat.reduceLeDiff, Nat.reduceLT, li_2, li_3, li_4, li_5, li_6, li_7, li_8, li_9, li_10, li_11, li_12, li_13, li_14, li_15, li_16, li_17, li_18, li_19, li_20, li_21, li_22, li_23, li_24, li_25, li_26, li_27, li_28, li_29, li_30, li_31, li_32, li_33, li_34, li_35, li_36, li_37, li_38, li_39, li_40, li_41, li_42, li_43, li_44, li_45, li_46, li_47, li_48, li_49, li_50, li_51, li_52, li_53, li_54, li_55, li_56, li_57, li_58, li_59, li_60, li_61, li_62, li_63, li_64, li_65, li_66, li_67, li_68, li_69, li_70, li_71, li_72, li_73, li_74, li_75, li_76, li_77, li_78, li_79, li_80, li_81, li_82, li_83, li_84, li_85, li_86, li_87, li_88, li_89, li_90, li_91, li_92, li_93, li_94, li_95, li_96, li_97, li_98, li_99, li_100, li_101, li_102, li_103, li_104, li_105, li_106, li_107, li_108, li_109, li_110, li_111, li_112, li_113, li_114, li_115, li_116, li_117, li_118, li_119, li_120, li_121, li_122, li_255, li_400, li_608, li_998, li_999, li_1000, li_1024, li_1103, li_2400, li_2911, li_4095, li_4096, li_5711, li_9999, li_12345, li_1000000, li_1000003, li_252645135, li_858993459, li_1431655765, wI_add, wI_mul, wI_add1, wI_1add, cdm, i1, q_Rules_clamp]
  rw [clamp_t (by decide) (by omega) (LA_b (env_B hv (by omega) (by decide) hdn hlt) hl 5)]
  rfl
end
