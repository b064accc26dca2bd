/-! ===== ORDERS: the reference runs them ===== -/
theorem doD_1 {N : Nat → Nat} {a p : Int32} : doD N 1 a p = dCall N a := rfl
theorem doD_3 {N : Nat → Nat} {a p : Int32} : doD N 3 a p = dPass N := rfl
section
variable {z : Mem} {f f' : Nat → Nat → Int32} {N N' N0 : Nat → Nat} {U U' U0 : US} {Z : Nat → Option (Nat → Nat)} {T : Nat → Nat} {L : Nat} {c c' : Nat → Int32} {W : WS} {A n : Nat} {C V : Nat → Nat}
/-- what ORDERS change in the reference -/
def OG (f f' : Nat → Nat → Int32) : Prop := (∀ a, a ≠ 58 → a ≠ 60 → a ≠ 70 → a ≠ 71 → a ≠ 82 → f' a = f a) ∧ ∀ k, k < 22 ∨ k = 26 ∨ k = 29 ∨ k = 30 ∨ (31 < k ∧ k < 44) ∨ 48 < k → f' 58 k = f 58 k
theorem OG.tr {f g h : Nat → Nat → Int32} (h1 : OG f g) (h2 : OG g h) : OG f h := ⟨fun a b c d e i => by rw [h2.1 a b c d e i, h1.1 a b c d e i], fun k hk => by rw [h2.2 k hk, h1.2 k hk]⟩
theorem OG_rf (f : Nat → Nat → Int32) : OG f f := ⟨fun _ _ _ _ _ _ => rfl, fun _ _ => rfl⟩
theorem OGf_OG (h : OGf f f') : OG f f' := ⟨fun a a1 _ _ _ a5 => h.1 a a1 a5, fun k hk => h.2.1 k (by omega)⟩
theorem MOb_OG (h : MOb f f') : OG f f' := ⟨fun a a1 a2 a3 a4 _ => h.1 a a1 a2 a3 a4, fun k hk => h.2 k (by omega)⟩
theorem OG_QM (h : OG f f') : QM f f' := fun a ha => h.1 a (by omega) (by omega) (by omega) (by omega) (by omega)
theorem IM_OG (h : IM f N U Z T L c) (hg : OG f f') (hm : MH f' N') (hu : UM f' U') : IM f' N' U' Z T L c :=
  IM_mk h hm hu (hg.1 _ (by decide) (by decide) (by decide) (by decide) (by decide)) (hg.1 _ (by decide) (by decide) (by decide) (by decide) (by decide)) (hg.1 _ (by decide) (by decide) (by decide) (by decide) (by decide)) (hg.2 _ (by omega)) (hg.2 _ (by omega)) (hg.1 _ (by decide) (by decide) (by decide) (by decide) (by decide)) (hg.1 _ (by decide) (by decide) (by decide) (by decide) (by decide)) (hg.1 _ (by decide) (by decide) (by decide) (by decide) (by decide)) (hg.2 _ (by omega)) (hg.1 _ (by decide) (by decide) (by decide) (by decide) (by decide)) (CM_c h.2.2.2.2.2 (hg.1 _ (by decide) (by decide) (by decide) (by decide) (by decide)) (fun k hk => hg.2 k (by omega)))
/-- the reference while ORDERS run -/
def RO (f : Nat → Nat → Int32) (W : WS) (Z : Nat → Option (Nat → Nat)) (T : Nat → Nat) (L : Nat) (c : Nat → Int32) : Prop := IM f W.1 W.2.1 Z T L c ∧ f 58 27 = jI W.2.2.1 ∧ f 58 28 = jI W.2.2.2
/-- its TEXT stays -/
def CV (W : WS) (A n : Nat) (C V : Nat → Nat) : Prop := cdN W.1 A n = C ∧ vlN W.1 A = V
theorem CV_hi {W W' : WS} (h : CV W A n C V) (hj : ∀ j, 37 ≤ j → W'.1 j = W.1 j) : CV W' A n C V := by
  obtain ⟨h1, h2⟩ := h
  refine ⟨?_, ?_⟩
  · rw [← h1]
    funext t
    unfold cdN
    rw [hj _ (by omega)]
  · rw [← h2]
    funext t
    unfold vlN
    rw [hj _ (by omega)]
theorem MH_OGf (h : MH f N) (hg : OGf f f') : MH f' N := ⟨MK_60 h.1 (hg.1 60 (by decide) (by decide)), h.2.1, h.2.2.1, hg.2.2⟩
theorem UM_OGf (h : UM f U) (hg : OGf f f') : UM f' U := UM_c h (hg.2.1 31 (by omega)) (hg.1 71 (by decide) (by decide))
theorem RO_OGf (h : RO f W Z T L c) (hg : OGf f f') : RO f' W Z T L c := ⟨IM_OG h.1 (OGf_OG hg) (MH_OGf h.1.1 hg) (UM_OGf h.1.2.1 hg), by rw [hg.2.1 27 (by omega)]; exact h.2.1, by rw [hg.2.1 28 (by omega)]; exact h.2.2⟩
theorem runs_19 (hz : Sh z) (hA : A + n ≤ 2800) (hA0 : 0 < A) (hn4 : n ≤ 400) {t cc l : Nat} (htn : t < n) {q : CL} (hp : pOrdC C V cc t l = .inr q) {tm : Nat} (htm : tm ≤ 20) {x3 : Int32} {d : Nat} (hd : 50 ≤ d) : ∀ (m j : Nat) (W : WS) (f : Nat → Nat → Int32) (b : Int), j + m = tm → RO f W Z T L c → WB W b → b + m ≤ 10000 → f 58 44 = wI (A + t) → CV W A n C V →
    (∀ W', oTimes q m W = some W' → ∃ f', Ev (d + 1) mM_runs 19 [(0, .ref 58), (1, .int (wI (A + n))), (2, .int (wI tm)), (3, .int x3), (4, .int (wI j))] [] (mkM f z) = some (some (.int 1), mkM f' z) ∧ RO f' W' Z T L c ∧ WB W' (b + m) ∧ OG f f' ∧ f' 58 44 = x3 ∧ CV W' A n C V ∧ ∀ j, 37 ≤ j → W'.1 j = W.1 j) ∧
    (oTimes q m W = none → ∃ f' W', Ev (d + 1) mM_runs 19 [(0, .ref 58), (1, .int (wI (A + n))), (2, .int (wI tm)), (3, .int x3), (4, .int (wI j))] [] (mkM f z) = some (some (.int 0), mkM f' z) ∧ RO f' W' Z T L c ∧ OG f f' ∧ ∀ j, 37 ≤ j → W'.1 j = W.1 j) := by
  intro m
  induction m with
  | zero =>
    intro j W f b hj h hw hb h44 hcv
    refine ⟨fun W' e => ?_, fun e => by cases e⟩
    cases e
    have hk : ∀ k, k ≠ 44 → up f 58 (upd (f 58) 44 x3) 58 k = f 58 k := fun k hk => by rw [up_eq, upd_ne _ _ _ hk]
    have hg : OG f (up f 58 (upd (f 58) 44 x3)) := ⟨fun a a1 _ _ _ _ => up_ne _ _ _ a1, fun k hk' => hk k (by omega)⟩
    refine ⟨up f 58 (upd (f 58) 44 x3), ?_, ⟨IM_OG h.1 hg ⟨MK_up h.1.1.1 (by decide) _, h.1.1.2.1, h.1.1.2.2.1, by rw [hk 24 (by decide)]; exact h.1.1.2.2.2⟩ (UM_c h.1.2.1 (hk 31 (by decide)) (up_ne _ _ _ (by decide))), by rw [hk 27 (by decide)]; exact h.2.1, by rw [hk 28 (by decide)]; exact h.2.2⟩, ⟨hw.1, hw.2.1, by have := hw.2.2.1; omega, hw.2.2.2⟩, hg, by rw [up_eq, upd_eq], hcv, fun _ _ => rfl⟩
    rw [q_M_runs_19]
    simp -dsimp (disch := omega) only [↓c_58 hz, g_58_0 hz, p_58_0 hz, r_58_1 hz, r_58_2 hz, r_58_3 hz, r_58_4 hz, r_58_5 hz, g_58_6 hz, p_58_6 hz, r_58_7 hz, g_58_8 hz, p_58_8 hz, g_58_9 hz, p_58_9 hz, g_58_10 hz, p_58_10 hz, r_58_11 hz, r_58_12 hz, g_58_13 hz, p_58_13 hz, g_58_14 hz, p_58_14 hz, r_58_15 hz, r_58_16 hz, r_58_17 hz, g_58_18 hz, p_58_18 hz, g_58_19 hz, p_58_19 hz, g_58_20 hz, p_58_20 hz, g_58_21 hz, p_58_21 hz, g_58_22 hz, p_58_22 hz, g_58_23 hz, p_58_23 hz, g_58_24 hz, p_58_24 hz, g_58_25 hz, p_58_25 hz, r_58_26 hz, g_58_27 hz, p_58_27 hz, g_58_28 hz, p_58_28 hz, r_58_29 hz, r_58_30 hz, g_58_31 hz, p_58_31 hz, r_58_32 hz, r_58_33 hz, r_58_34 hz, r_58_35 hz, r_58_36 hz, r_58_37 hz, g_58_38 hz, p_58_38 hz, r_58_39 hz, r_58_40 hz, r_58_41 hz, g_58_42 hz, p_58_42 hz, g_58_43 hz, p_58_43 hz, g_58_44 hz, p_58_44 hz, g_58_45 hz, p_58_45 hz, g_58_46 hz, p_58_46 hz, g_58_47 hz, p_58_47 hz, g_58_48 hz, p_58_48 hz, r_58_49 hz, r_58_50 hz, r_58_51 hz, r_58_52 hz, g_58_53 hz, p_58_53 hz, g_58_54 hz, p_58_54 hz, g_58_55 hz, p_58_55 hz, l_59 hz, s_59 hz, n_59 hz, l_60 hz, s_60 hz, n_60 hz, l_61 hz, s_61 hz, n_61 hz, l_62 hz, s_62 hz, n_62 hz, l_63 hz, s_63 hz, n_63 hz, l_64 hz, s_64 hz, n_64 hz, l_65 hz, s_65 hz, n_65 hz, l_66 hz, s_66 hz, n_66 hz, l_67 hz, s_67 hz, n_67 hz, l_68 hz, s_68 hz, n_68 hz, l_69 hz, s_69 hz, n_69 hz, l_70 hz, s_70 hz, n_70 hz, l_71 hz, s_71 hz, n_71 hz, l_72 hz, s_72 hz, n_72 hz, l_73 hz, s_73 hz, n_73 hz, l_74 hz, s_74 hz, n_74 hz, l_75 hz, s_75 hz, n_75 hz, l_76 hz, s_76 hz, n_76 hz, l_77 hz, s_77 hz, n_77 hz, l_78 hz, s_78 hz, n_78 hz, l_79 hz, s_79 hz, n_79 hz, l_80 hz, s_80 hz, n_80 hz, l_81 hz, s_81 hz, n_81 hz, l_82 hz, s_82 hz, l_83 hz, s_83 hz, n_83 hz, l_84 hz, s_84 hz, n_84 hz, l_85 hz, s_85 hz, n_85 hz, hO_s, hI_s, hL_s, hQ_s, hQ_n, hR_s, hV_s, hN_n, hN_s, cond_true, lI_0, lI_1, sI_0, sI_1, lL_0, lL_1, ↓reduceIte, not_true_eq_false, not_false_eq_true, Nat.reduceEqDiff, Nat.reduceAdd, Nat.reduceMul, Nat.reduceSub, Nat.reduceLeDiff, Nat.reduceLT, li_2, li_3, li_4, li_5, li_6, li_7, li_8, li_9, li_10, li_11, li_12, li_13, li_14, li_15, li_16, li_17, li_18, li_19, li_20, li_21, li_22, li_23, li_24, li_25, li_26, li_27, li_28, li_29, li_30, li_31, li_32, li_33, li_34, li_35, li_36, li_37, li_38, li_39, li_40, li_41, li_42, li_43, li_44, li_45, li_46, li_47, li_48, li_49, li_50, li_51, li_52, li_53, li_54, li_55, li_56, li_57, li_58, li_59, li_60, li_61, li_62, li_63, li_64, li_65, li_66, li_67, li_68, li_69, li_70, li_71, li_72, li_73, li_74, li_75, li_76, li_77, li_78, li_79, li_80, li_81, li_82, li_83, li_84, li_85, li_86, li_87, li_88, li_89, li_90, li_91, li_92, li_93, li_94, li_95, li_96, li_97, li_98, li_99, li_100, li_101, li_102, li_103, li_104, li_105, li_106, li_107, li_108, li_109, li_110, li_111, li_112, li_113, li_114, li_115, li_116, li_117, li_118, li_119, li_120, li_121, li_122, li_255, li_400, li_608, li_998, li_999, li_1000, li_1024, li_1103, li_2400, li_2911, li_4095, li_4096, li_5711, li_9999, li_12345, li_1000000, li_1000003, li_252645135, li_858993459, li_1431655765, wI_add, wI_mul, wI_add1, wI_1add, wI_le, eq_true (show tm ≤ j by omega)]
  | succ m ih =>
    intro j W f b hj h hw hb h44 hcv
    obtain ⟨N, U, dn, lt⟩ := W
    obtain ⟨w1, w2, w3, w4, w5⟩ := id hw
    obtain ⟨hM, h27, h28⟩ := id h
    dsimp only at w1 w2 w3 w4 w5 hM h27 h28
    obtain ⟨hC, hV⟩ := id hcv
    dsimp only at hC hV
    have e1 : ((1 : Int32) = 0) = False := eq_false (by decide)
    have hQ := ordC_QO _ _ _ _ hp
    have hp' := hp
    rw [← hC, ← hV] at hp'
    obtain ⟨f1, i1, i2, i3, i4, i5, i6⟩ := m_goes hz hM.1.1 w1 hA hA0 hn4 h27 h28 ⟨w2, by omega⟩ ⟨w4, w5⟩ hM.1.2.2.2 h44 htn hp' (lv := true) (d := d) (by omega)
    obtain ⟨l1, ⟨w, l2, l3⟩, l4, l5⟩ := i6 rfl
    rw [bz_tt] at i1
    have h1 : RO f1 (N, U, dn, lt) Z T L c := RO_OGf h i2
    have f144 : f1 58 44 = wI (A + t) := by rw [i2.2.1 44 (by omega)]; exact h44
    have hW : oTimes q (m + 1) (N, U, dn, lt) = match oTurn q (N, U, dn, lt) with
      | none => none
      | some W' => oTimes q m W' := rfl
    rw [hW]
    have eW : oEnv (N, U, dn, lt) = xEnv N 0 0 dn lt := rfl
    have hT : oTurn q (N, U, dn, lt) = if q.2.2.2.2.2.2 (xEnv N 0 0 dn lt) = some true then (match q.2.2.2.2.1 (xEnv N 0 0 dn lt) with
      | none => none
      | some a => match q.2.2.2.2.2.1 (xEnv N 0 0 dn lt) with
        | none => none
        | some b => oDone (N, U, dn, lt) (q.2.2.1.getD 0 0) (doD N (q.2.2.1.getD 0 0) (jI a) (jI b))) else some (N, U, dn, lt) := rfl
    -- the next turn
    have next : ∀ (W1 : WS) (f2 : Nat → Nat → Int32), oTurn q (N, U, dn, lt) = some W1 → RO f2 W1 Z T L c → OG f f2 → f2 58 44 = wI (A + t) → Ev (d + 1) mM_runs 19 [(0, .ref 58), (1, .int (wI (A + n))), (2, .int (wI tm)), (3, .int x3), (4, .int (wI j))] [] (mkM f z) = Ev (d + 1) mM_runs 19 [(0, .ref 58), (1, .int (wI (A + n))), (2, .int (wI tm)), (3, .int x3), (4, .int (wI (j + 1)))] [] (mkM f2 z) →
      (∀ W', oTimes q m W1 = some W' → ∃ f', Ev (d + 1) mM_runs 19 [(0, .ref 58), (1, .int (wI (A + n))), (2, .int (wI tm)), (3, .int x3), (4, .int (wI j))] [] (mkM f z) = some (some (.int 1), mkM f' z) ∧ RO f' W' Z T L c ∧ WB W' (b + (m + 1 : Nat)) ∧ OG f f' ∧ f' 58 44 = x3 ∧ CV W' A n C V ∧ ∀ j, 37 ≤ j → W'.1 j = N j) ∧
      (oTimes q m W1 = none → ∃ f' W', Ev (d + 1) mM_runs 19 [(0, .ref 58), (1, .int (wI (A + n))), (2, .int (wI tm)), (3, .int x3), (4, .int (wI j))] [] (mkM f z) = some (some (.int 0), mkM f' z) ∧ RO f' W' Z T L c ∧ OG f f' ∧ ∀ j, 37 ≤ j → W'.1 j = N j) := by
      intro W1 f2 eT hR hG h442 hs
      obtain ⟨b1, b2⟩ := oTurn_WB hw eT
      dsimp only at b2
      obtain ⟨P, Q⟩ := ih (j + 1) W1 f2 (b + 1) (by omega) hR b1 (by omega) h442 (CV_hi hcv b2)
      rw [hs]
      refine ⟨fun W' e => ?_, fun e => ?_⟩
      · obtain ⟨f', y1, y2, y3, y4, y5, y6, y7⟩ := P W' e
        refine ⟨f', y1, y2, ?_, hG.tr y4, y5, y6, fun j hj => by rw [y7 j hj, b2 j hj]⟩
        rw [show b + ((m + 1 : Nat) : Int) = b + 1 + m by omega]
        exact y3
      · obtain ⟨f', W', y1, y2, y3, y4⟩ := Q e
        exact ⟨f', W', y1, y2, hG.tr y3, fun j hj => by rw [y4 j hj, b2 j hj]⟩
    by_cases ht : q.2.2.2.2.2.2 (xEnv N 0 0 dn lt) = some true
    · rw [if_pos ht] at hT
      have hw1 : f1 58 48 = 1 := by rw [l2, bz_pos (l3.mpr ht)]
      cases hF : q.2.2.2.2.1 (xEnv N 0 0 dn lt) with
      | none =>
        rw [hF] at hT l1
        dsimp only at hT
        rw [hT]
        refine ⟨fun W' e => (by cases e), fun _ => ⟨f1, (N, U, dn, lt), ?_, h1, OGf_OG i2, fun _ _ => rfl⟩⟩
        have l1' : f1 58 47 = 0 := l1
        rw [q_M_runs_19]
        simp -dsimp (disch := omega) only [↓c_58 hz, g_58_0 hz, p_58_0 hz, r_58_1 hz, r_58_2 hz, r_58_3 hz, r_58_4 hz, r_58_5 hz, g_58_6 hz, p_58_6 hz, r_58_7 hz, g_58_8 hz, p_58_8 hz, g_58_9 hz, p_58_9 hz, g_58_10 hz, p_58_10 hz, r_58_11 hz, r_58_12 hz, g_58_13 hz, p_58_13 hz, g_58_14 hz, p_58_14 hz, r_58_15 hz, r_58_16 hz, r_58_17 hz, g_58_18 hz, p_58_18 hz, g_58_19 hz, p_58_19 hz, g_58_20 hz, p_58_20 hz, g_58_21 hz, p_58_21 hz, g_58_22 hz, p_58_22 hz, g_58_23 hz, p_58_23 hz, g_58_24 hz, p_58_24 hz, g_58_25 hz, p_58_25 hz, r_58_26 hz, g_58_27 hz, p_58_27 hz, g_58_28 hz, p_58_28 hz, r_58_29 hz, r_58_30 hz, g_58_31 hz, p_58_31 hz, r_58_32 hz, r_58_33 hz, r_58_34 hz, r_58_35 hz, r_58_36 hz, r_58_37 hz, g_58_38 hz, p_58_38 hz, r_58_39 hz, r_58_40 hz, r_58_41 hz, g_58_42 hz, p_58_42 hz, g_58_43 hz, p_58_43 hz, g_58_44 hz, p_58_44 hz, g_58_45 hz, p_58_45 hz, g_58_46 hz, p_58_46 hz, g_58_47 hz, p_58_47 hz, g_58_48 hz, p_58_48 hz, r_58_49 hz, r_58_50 hz, r_58_51 hz, r_58_52 hz, g_58_53 hz, p_58_53 hz, g_58_54 hz, p_58_54 hz, g_58_55 hz, p_58_55 hz, l_59 hz, s_59 hz, n_59 hz, l_60 hz, s_60 hz, n_60 hz, l_61 hz, s_61 hz, n_61 hz, l_62 hz, s_62 hz, n_62 hz, l_63 hz, s_63 hz, n_63 hz, l_64 hz, s_64 hz, n_64 hz, l_65 hz, s_65 hz, n_65 hz, l_66 hz, s_66 hz, n_66 hz, l_67 hz, s_67 hz, n_67 hz, l_68 hz, s_68 hz, n_68 hz, l_69 hz, s_69 hz, n_69 hz, l_70 hz, s_70 hz, n_70 hz, l_71 hz, s_71 hz, n_71 hz, l_72 hz, s_72 hz, n_72 hz, l_73 hz, s_73 hz, n_73 hz, l_74 hz, s_74 hz, n_74 hz, l_75 hz, s_75 hz, n_75 hz, l_76 hz, s_76 hz, n_76 hz, l_77 hz, s_77 hz, n_77 hz, l_78 hz, s_78 hz, n_78 hz, l_79 hz, s_79 hz, n_79 hz, l_80 hz, s_80 hz, n_80 hz, l_81 hz, s_81 hz, n_81 hz, l_82 hz, s_82 hz, l_83 hz, s_83 hz, n_83 hz, l_84 hz, s_84 hz, n_84 hz, l_85 hz, s_85 hz, n_85 hz, hO_s, hI_s, hL_s, hQ_s, hQ_n, hR_s, hV_s, hN_n, hN_s, cond_true, lI_0, lI_1, sI_0, sI_1, lL_0, lL_1, ↓reduceIte, not_true_eq_false, not_false_eq_true, Nat.reduceEqDiff, Nat.reduceAdd, Nat.reduceMul, Nat.reduceSub, Nat.reduceLeDiff, Nat.reduceLT, li_2, li_3, li_4, li_5, li_6, li_7, li_8, li_9, li_10, li_11, li_12, li_13, li_14, li_15, li_16, li_17, li_18, li_19, li_20, li_21, li_22, li_23, li_24, li_25, li_26, li_27, li_28, li_29, li_30, li_31, li_32, li_33, li_34, li_35, li_36, li_37, li_38, li_39, li_40, li_41, li_42, li_43, li_44, li_45, li_46, li_47, li_48, li_49, li_50, li_51, li_52, li_53, li_54, li_55, li_56, li_57, li_58, li_59, li_60, li_61, li_62, li_63, li_64, li_65, li_66, li_67, li_68, li_69, li_70, li_71, li_72, li_73, li_74, li_75, li_76, li_77, li_78, li_79, li_80, li_81, li_82, li_83, li_84, li_85, li_86, li_87, li_88, li_89, li_90, li_91, li_92, li_93, li_94, li_95, li_96, li_97, li_98, li_99, li_100, li_101, li_102, li_103, li_104, li_105, li_106, li_107, li_108, li_109, li_110, li_111, li_112, li_113, li_114, li_115, li_116, li_117, li_118, li_119, li_120, li_121, li_122, li_255, li_400, li_608, li_998, li_999, li_1000, li_1024, li_1103, li_2400, li_2911, li_4095, li_4096, li_5711, li_9999, li_12345, li_1000000, li_1000003, li_252645135, li_858993459, li_1431655765, wI_add, wI_mul, wI_add1, wI_1add, wI_le, eq_false (show ¬ tm ≤ j by omega), i1, hw1, e1, l1']
      | some av =>
        rw [hF] at hT l1
        dsimp only at hT
        cases hS : q.2.2.2.2.2.1 (xEnv N 0 0 dn lt) with
        | none =>
          rw [hS] at hT l1
          dsimp only at hT
          rw [hT]
          refine ⟨fun W' e => (by cases e), fun _ => ⟨f1, (N, U, dn, lt), ?_, h1, OGf_OG i2, fun _ _ => rfl⟩⟩
          have l1' : f1 58 47 = 0 := l1
          rw [q_M_runs_19]
          simp -dsimp (disch := omega) only [↓c_58 hz, g_58_0 hz, p_58_0 hz, r_58_1 hz, r_58_2 hz, r_58_3 hz, r_58_4 hz, r_58_5 hz, g_58_6 hz, p_58_6 hz, r_58_7 hz, g_58_8 hz, p_58_8 hz, g_58_9 hz, p_58_9 hz, g_58_10 hz, p_58_10 hz, r_58_11 hz, r_58_12 hz, g_58_13 hz, p_58_13 hz, g_58_14 hz, p_58_14 hz, r_58_15 hz, r_58_16 hz, r_58_17 hz, g_58_18 hz, p_58_18 hz, g_58_19 hz, p_58_19 hz, g_58_20 hz, p_58_20 hz, g_58_21 hz, p_58_21 hz, g_58_22 hz, p_58_22 hz, g_58_23 hz, p_58_23 hz, g_58_24 hz, p_58_24 hz, g_58_25 hz, p_58_25 hz, r_58_26 hz, g_58_27 hz, p_58_27 hz, g_58_28 hz, p_58_28 hz, r_58_29 hz, r_58_30 hz, g_58_31 hz, p_58_31 hz, r_58_32 hz, r_58_33 hz, r_58_34 hz, r_58_35 hz, r_58_36 hz, r_58_37 hz, g_58_38 hz, p_58_38 hz, r_58_39 hz, r_58_40 hz, r_58_41 hz, g_58_42 hz, p_58_42 hz, g_58_43 hz, p_58_43 hz, g_58_44 hz, p_58_44 hz, g_58_45 hz, p_58_45 hz, g_58_46 hz, p_58_46 hz, g_58_47 hz, p_58_47 hz, g_58_48 hz, p_58_48 hz, r_58_49 hz, r_58_50 hz, r_58_51 hz, r_58_52 hz, g_58_53 hz, p_58_53 hz, g_58_54 hz, p_58_54 hz, g_58_55 hz, p_58_55 hz, l_59 hz, s_59 hz, n_59 hz, l_60 hz, s_60 hz, n_60 hz, l_61 hz, s_61 hz, n_61 hz, l_62 hz, s_62 hz, n_62 hz, l_63 hz, s_63 hz, n_63 hz, l_64 hz, s_64 hz, n_64 hz, l_65 hz, s_65 hz, n_65 hz, l_66 hz, s_66 hz, n_66 hz, l_67 hz, s_67 hz, n_67 hz, l_68 hz, s_68 hz, n_68 hz, l_69 hz, s_69 hz, n_69 hz, l_70 hz, s_70 hz, n_70 hz, l_71 hz, s_71 hz, n_71 hz, l_72 hz, s_72 hz, n_72 hz, l_73 hz, s_73 hz, n_73 hz, l_74 hz, s_74 hz, n_74 hz, l_75 hz, s_75 hz, n_75 hz, l_76 hz, s_76 hz, n_76 hz, l_77 hz, s_77 hz, n_77 hz, l_78 hz, s_78 hz, n_78 hz, l_79 hz, s_79 hz, n_79 hz, l_80 hz, s_80 hz, n_80 hz, l_81 hz, s_81 hz, n_81 hz, l_82 hz, s_82 hz, l_83 hz, s_83 hz, n_83 hz, l_84 hz, s_84 hz, n_84 hz, l_85 hz, s_85 hz, n_85 hz, hO_s, hI_s, hL_s, hQ_s, hQ_n, hR_s, hV_s, hN_n, hN_s, cond_true, lI_0, lI_1, sI_0, sI_1, lL_0, lL_1, ↓reduceIte, not_true_eq_false, not_false_eq_true, Nat.reduceEqDiff, Nat.reduceAdd, Nat.reduceMul, Nat.reduceSub, Nat.reduceLeDiff, Nat.reduceLT, li_2, li_3, li_4, li_5, li_6, li_7, li_8, li_9, li_10, li_11, li_12, li_13, li_14, li_15, li_16, li_17, li_18, li_19, li_20, li_21, li_22, li_23, li_24, li_25, li_26, li_27, li_28, li_29, li_30, li_31, li_32, li_33, li_34, li_35, li_36, li_37, li_38, li_39, li_40, li_41, li_42, li_43, li_44, li_45, li_46, li_47, li_48, li_49, li_50, li_51, li_52, li_53, li_54, li_55, li_56, li_57, li_58, li_59, li_60, li_61, li_62, li_63, li_64, li_65, li_66, li_67, li_68, li_69, li_70, li_71, li_72, li_73, li_74, li_75, li_76, li_77, li_78, li_79, li_80, li_81, li_82, li_83, li_84, li_85, li_86, li_87, li_88, li_89, li_90, li_91, li_92, li_93, li_94, li_95, li_96, li_97, li_98, li_99, li_100, li_101, li_102, li_103, li_104, li_105, li_106, li_107, li_108, li_109, li_110, li_111, li_112, li_113, li_114, li_115, li_116, li_117, li_118, li_119, li_120, li_121, li_122, li_255, li_400, li_608, li_998, li_999, li_1000, li_1024, li_1103, li_2400, li_2911, li_4095, li_4096, li_5711, li_9999, li_12345, li_1000000, li_1000003, li_252645135, li_858993459, li_1431655765, wI_add, wI_mul, wI_add1, wI_1add, wI_le, eq_false (show ¬ tm ≤ j by omega), i1, hw1, e1, l1']
        | some bv =>
          rw [hS] at hT l1
          dsimp only at hT
          have l1' : f1 58 47 = 1 := l1
          have hBd := hQ.2.2.2.2 (xEnv N 0 0 dn lt) (WB_env hw (by omega))
          have ba := hBd.1 av hF
          have bb := hBd.2 bv hS
          obtain ⟨f2, o1, o2, o3, o4, o5⟩ := m_obeys hz h1.1.1 h1.1.2.1 (k := q.2.2.1.getD 0 0) hQ.2.1 i5 (d := d) (by omega)
          dsimp only at o1 o2 o3 o5
          have hk3 := hQ.2.1
          generalize hkk : q.2.2.1.getD 0 0 = k at hT o1 o2 o3 o5 hk3 l4 l5
          have eD : doD N k (smI (f1 82 0)) (smI (f1 82 1)) = doD N k (jI av) (jI bv) := by
            rcases (show k = 0 ∨ k = 1 ∨ k = 2 ∨ k = 3 by omega) with e | e | e | e
            · rw [l4 av hF (by omega), l5 bv hS (by omega), doD_sm w1 ba.1 ba.2 bb.1 bb.2]
            · subst e
              rw [l4 av hF (by omega)]
              have := doD_sm (k := 1) w1 ba.1 ba.2 bb.1 bb.2
              rw [doD_1, doD_1] at this
              rw [doD_1, doD_1, this]
            · rw [l4 av hF (by omega), l5 bv hS (by omega), doD_sm w1 ba.1 ba.2 bb.1 bb.2]
            · subst e; rw [doD_3, doD_3]
          rw [eD] at o1 o2 o3 o5
          have o44 : f2 58 44 = wI (A + t) := by rw [o4.2 44 (by omega)]; exact f144
          have o27 : f2 58 27 = jI dn := by rw [o4.2 27 (by omega)]; exact h1.2.1
          have og := (OGf_OG i2).tr (MOb_OG o4)
          cases hD : doD N k (jI av) (jI bv) with
          | inl e =>
            rw [hD] at hT o1 o2 o3 o5
            have hn : (0 ≤ rsI (.inl e)) = False := by rcases doD_inl hD with rfl | rfl | rfl <;> exact eq_false (by decide)
            have hT' : oTurn q (N, U, dn, lt) = none := hT
            rw [hT']
            refine ⟨fun W' e => (by cases e), fun _ => ⟨f2, (N, U, dn, lt), ?_, ⟨IM_OG h.1 og o2 o3, o27, ?_⟩, og, fun _ _ => rfl⟩⟩
            · rw [q_M_runs_19]
              simp -dsimp (disch := omega) only [↓c_58 hz, g_58_0 hz, p_58_0 hz, r_58_1 hz, r_58_2 hz, r_58_3 hz, r_58_4 hz, r_58_5 hz, g_58_6 hz, p_58_6 hz, r_58_7 hz, g_58_8 hz, p_58_8 hz, g_58_9 hz, p_58_9 hz, g_58_10 hz, p_58_10 hz, r_58_11 hz, r_58_12 hz, g_58_13 hz, p_58_13 hz, g_58_14 hz, p_58_14 hz, r_58_15 hz, r_58_16 hz, r_58_17 hz, g_58_18 hz, p_58_18 hz, g_58_19 hz, p_58_19 hz, g_58_20 hz, p_58_20 hz, g_58_21 hz, p_58_21 hz, g_58_22 hz, p_58_22 hz, g_58_23 hz, p_58_23 hz, g_58_24 hz, p_58_24 hz, g_58_25 hz, p_58_25 hz, r_58_26 hz, g_58_27 hz, p_58_27 hz, g_58_28 hz, p_58_28 hz, r_58_29 hz, r_58_30 hz, g_58_31 hz, p_58_31 hz, r_58_32 hz, r_58_33 hz, r_58_34 hz, r_58_35 hz, r_58_36 hz, r_58_37 hz, g_58_38 hz, p_58_38 hz, r_58_39 hz, r_58_40 hz, r_58_41 hz, g_58_42 hz, p_58_42 hz, g_58_43 hz, p_58_43 hz, g_58_44 hz, p_58_44 hz, g_58_45 hz, p_58_45 hz, g_58_46 hz, p_58_46 hz, g_58_47 hz, p_58_47 hz, g_58_48 hz, p_58_48 hz, r_58_49 hz, r_58_50 hz, r_58_51 hz, r_58_52 hz, g_58_53 hz, p_58_53 hz, g_58_54 hz, p_58_54 hz, g_58_55 hz, p_58_55 hz, l_59 hz, s_59 hz, n_59 hz, l_60 hz, s_60 hz, n_60 hz, l_61 hz, s_61 hz, n_61 hz, l_62 hz, s_62 hz, n_62 hz, l_63 hz, s_63 hz, n_63 hz, l_64 hz, s_64 hz, n_64 hz, l_65 hz, s_65 hz, n_65 hz, l_66 hz, s_66 hz, n_66 hz, l_67 hz, s_67 hz, n_67 hz, l_68 hz, s_68 hz, n_68 hz, l_69 hz, s_69 hz, n_69 hz, l_70 hz, s_70 hz, n_70 hz, l_71 hz, s_71 hz, n_71 hz, l_72 hz, s_72 hz, n_72 hz, l_73 hz, s_73 hz, n_73 hz, l_74 hz, s_74 hz, n_74 hz, l_75 hz, s_75 hz, n_75 hz, l_76 hz, s_76 hz, n_76 hz, l_77 hz, s_77 hz, n_77 hz, l_78 hz, s_78 hz, n_78 hz, l_79 hz, s_79 hz, n_79 hz, l_80 hz, s_80 hz, n_80 hz, l_81 hz, s_81 hz, n_81 hz, l_82 hz, s_82 hz, l_83 hz, s_83 hz, n_83 hz, l_84 hz, s_84 hz, n_84 hz, l_85 hz, s_85 hz, n_85 hz, hO_s, hI_s, hL_s, hQ_s, hQ_n, hR_s, hV_s, hN_n, hN_s, cond_true, lI_0, lI_1, sI_0, sI_1, lL_0, lL_1, ↓reduceIte, not_true_eq_false, not_false_eq_true, Nat.reduceEqDiff, Nat.reduceAdd, Nat.reduceMul, Nat.reduceSub, Nat.reduceLeDiff, Nat.reduceLT, li_2, li_3, li_4, li_5, li_6, li_7, li_8, li_9, li_10, li_11, li_12, li_13, li_14, li_15, li_16, li_17, li_18, li_19, li_20, li_21, li_22, li_23, li_24, li_25, li_26, li_27, li_28, li_29, li_30, li_31, li_32, li_33, li_34, li_35, li_36, li_37, li_38, li_39, li_40, li_41, li_42, li_43, li_44, li_45, li_46, li_47, li_48, li_49, li_50, li_51, li_52, li_53, li_54, li_55, li_56, li_57, li_58, li_59, li_60, li_61, li_62, li_63, li_64, li_65, li_66, li_67, li_68, li_69, li_70, li_71, li_72, li_73, li_74, li_75, li_76, li_77, li_78, li_79, li_80, li_81, li_82, li_83, li_84, li_85, li_86, li_87, li_88, li_89, li_90, li_91, li_92, li_93, li_94, li_95, li_96, li_97, li_98, li_99, li_100, li_101, li_102, li_103, li_104, li_105, li_106, li_107, li_108, li_109, li_110, li_111, li_112, li_113, li_114, li_115, li_116, li_117, li_118, li_119, li_120, li_121, li_122, li_255, li_400, li_608, li_998, li_999, li_1000, li_1024, li_1103, li_2400, li_2911, li_4095, li_4096, li_5711, li_9999, li_12345, li_1000000, li_1000003, li_252645135, li_858993459, li_1431655765, wI_add, wI_mul, wI_add1, wI_1add, wI_le, eq_false (show ¬ tm ≤ j by omega), i1, hw1, e1, l1', o1, hn]
            · have o5' : f2 58 28 = f1 58 28 := o5
              rw [o5']; exact h1.2.2
          | inr r =>
            obtain ⟨v, X⟩ := r
            rw [hD] at hT o1 o2 o3 o5
            have hv := (doD_inr w1 hD).1
            have hn : (0 ≤ rsI (.inr (v, X))) = True := wI_0le (by omega)
            have hT' : oTurn q (N, U, dn, lt) = some (X, pushU U (k, N), dn + 1, if k = 1 then (v : Int) else lt) := hT
            have kk : ∀ j, j ≠ 27 → up f2 58 (upd (f2 58) 27 (jI (dn + 1))) 58 j = f2 58 j := fun j hj => by rw [up_eq, upd_ne _ _ _ hj]
            have og2 : OG f2 (up f2 58 (upd (f2 58) 27 (jI (dn + 1)))) := ⟨fun a a1 _ _ _ _ => up_ne _ _ _ a1, fun k hk' => kk k (by omega)⟩
            have ed : f2 58 27 + 1 = jI (dn + 1) := by rw [o27, jl_1, jI_add]
            have R2 : RO (up f2 58 (upd (f2 58) 27 (jI (dn + 1)))) (X, pushU U (k, N), dn + 1, if k = 1 then (v : Int) else lt) Z T L c := by
              refine ⟨IM_OG h.1 (og.tr og2) ⟨MK_up o2.1 (by decide) _, o2.2.1, o2.2.2.1, by rw [kk 24 (by decide)]; exact o2.2.2.2⟩ (UM_c o3 (kk 31 (by decide)) (up_ne _ _ _ (by decide))), by rw [up_eq, upd_eq], ?_⟩
              rw [kk 28 (by decide), o5]
              show (if k = 1 then wI v else f1 58 28) = jI (if k = 1 then (v : Int) else lt)
              by_cases e : k = 1
              · rw [if_pos e, if_pos e, wI_jI]
              · rw [if_neg e, if_neg e]; exact h1.2.2
            rw [hT']
            refine next _ _ hT' R2 (og.tr og2) (by rw [kk 44 (by decide)]; exact o44) ?_
            rw [q_M_runs_19]
            simp -dsimp (disch := omega) only [↓c_58 hz, g_58_0 hz, p_58_0 hz, r_58_1 hz, r_58_2 hz, r_58_3 hz, r_58_4 hz, r_58_5 hz, g_58_6 hz, p_58_6 hz, r_58_7 hz, g_58_8 hz, p_58_8 hz, g_58_9 hz, p_58_9 hz, g_58_10 hz, p_58_10 hz, r_58_11 hz, r_58_12 hz, g_58_13 hz, p_58_13 hz, g_58_14 hz, p_58_14 hz, r_58_15 hz, r_58_16 hz, r_58_17 hz, g_58_18 hz, p_58_18 hz, g_58_19 hz, p_58_19 hz, g_58_20 hz, p_58_20 hz, g_58_21 hz, p_58_21 hz, g_58_22 hz, p_58_22 hz, g_58_23 hz, p_58_23 hz, g_58_24 hz, p_58_24 hz, g_58_25 hz, p_58_25 hz, r_58_26 hz, g_58_27 hz, p_58_27 hz, g_58_28 hz, p_58_28 hz, r_58_29 hz, r_58_30 hz, g_58_31 hz, p_58_31 hz, r_58_32 hz, r_58_33 hz, r_58_34 hz, r_58_35 hz, r_58_36 hz, r_58_37 hz, g_58_38 hz, p_58_38 hz, r_58_39 hz, r_58_40 hz, r_58_41 hz, g_58_42 hz, p_58_42 hz, g_58_43 hz, p_58_43 hz, g_58_44 hz, p_58_44 hz, g_58_45 hz, p_58_45 hz, g_58_46 hz, p_58_46 hz, g_58_47 hz, p_58_47 hz, g_58_48 hz, p_58_48 hz, r_58_49 hz, r_58_50 hz, r_58_51 hz, r_58_52 hz, g_58_53 hz, p_58_53 hz, g_58_54 hz, p_58_54 hz, g_58_55 hz, p_58_55 hz, l_59 hz, s_59 hz, n_59 hz, l_60 hz, s_60 hz, n_60 hz, l_61 hz, s_61 hz, n_61 hz, l_62 hz, s_62 hz, n_62 hz, l_63 hz, s_63 hz, n_63 hz, l_64 hz, s_64 hz, n_64 hz, l_65 hz, s_65 hz, n_65 hz, l_66 hz, s_66 hz, n_66 hz, l_67 hz, s_67 hz, n_67 hz, l_68 hz, s_68 hz, n_68 hz, l_69 hz, s_69 hz, n_69 hz, l_70 hz, s_70 hz, n_70 hz, l_71 hz, s_71 hz, n_71 hz, l_72 hz, s_72 hz, n_72 hz, l_73 hz, s_73 hz, n_73 hz, l_74 hz, s_74 hz, n_74 hz, l_75 hz, s_75 hz, n_75 hz, l_76 hz, s_76 hz, n_76 hz, l_77 hz, s_77 hz, n_77 hz, l_78 hz, s_78 hz, n_78 hz, l_79 hz, s_79 hz, n_79 hz, l_80 hz, s_80 hz, n_80 hz, l_81 hz, s_81 hz, n_81 hz, l_82 hz, s_82 hz, l_83 hz, s_83 hz, n_83 hz, l_84 hz, s_84 hz, n_84 hz, l_85 hz, s_85 hz, n_85 hz, hO_s, hI_s, hL_s, hQ_s, hQ_n, hR_s, hV_s, hN_n, hN_s, cond_true, lI_0, lI_1, sI_0, sI_1, lL_0, lL_1, ↓reduceIte, not_true_eq_false, not_false_eq_true, Nat.reduceEqDiff, Nat.reduceAdd, Nat.reduceMul, Nat.reduceSub, Nat.reduceLeDiff, Nat.reduceLT, li_2, li_3, li_4, li_5, li_6, li_7, li_8, li_9, li_10, li_11, li_12, li_13, li_14, li_15, li_16, li_17, li_18, li_19, li_20, li_21, li_22, li_23, li_24, li_25, li_26, li_27, li_28, li_29, li_30, li_31, li_32, li_33, li_34, li_35, li_36, li_37, li_38, li_39, li_40, li_41, li_42, li_43, li_44, li_45, li_46, li_47, li_48, li_49, li_50, li_51, li_52, li_53, li_54, li_55, li_56, li_57, li_58, li_59, li_60, li_61, li_62, li_63, li_64, li_65, li_66, li_67, li_68, li_69, li_70, li_71, li_72, li_73, li_74, li_75, li_76, li_77, li_78, li_79, li_80, li_81, li_82, li_83, li_84, li_85, li_86, li_87, li_88, li_89, li_90, li_91, li_92, li_93, li_94, li_95, li_96, li_97, li_98, li_99, li_100, li_101, li_102, li_103, li_104, li_105, li_106, li_107, li_108, li_109, li_110, li_111, li_112, li_113, li_114, li_115, li_116, li_117, li_118, li_119, li_120, li_121, li_122, li_255, li_400, li_608, li_998, li_999, li_1000, li_1024, li_1103, li_2400, li_2911, li_4095, li_4096, li_5711, li_9999, li_12345, li_1000000, li_1000003, li_252645135, li_858993459, li_1431655765, wI_add, wI_mul, wI_add1, wI_1add, wI_le, eq_false (show ¬ tm ≤ j by omega), i1, hw1, e1, l1', o1, hn, ed]
    · rw [if_neg ht] at hT
      have hw0 : f1 58 48 = 0 := by rw [l2, bz_neg (fun e => ht (l3.mp e))]
      rw [hT]
      refine next _ f1 hT h1 (OGf_OG i2) f144 ?_
      rw [q_M_runs_19]
      simp -dsimp (disch := omega) only [↓c_58 hz, g_58_0 hz, p_58_0 hz, r_58_1 hz, r_58_2 hz, r_58_3 hz, r_58_4 hz, r_58_5 hz, g_58_6 hz, p_58_6 hz, r_58_7 hz, g_58_8 hz, p_58_8 hz, g_58_9 hz, p_58_9 hz, g_58_10 hz, p_58_10 hz, r_58_11 hz, r_58_12 hz, g_58_13 hz, p_58_13 hz, g_58_14 hz, p_58_14 hz, r_58_15 hz, r_58_16 hz, r_58_17 hz, g_58_18 hz, p_58_18 hz, g_58_19 hz, p_58_19 hz, g_58_20 hz, p_58_20 hz, g_58_21 hz, p_58_21 hz, g_58_22 hz, p_58_22 hz, g_58_23 hz, p_58_23 hz, g_58_24 hz, p_58_24 hz, g_58_25 hz, p_58_25 hz, r_58_26 hz, g_58_27 hz, p_58_27 hz, g_58_28 hz, p_58_28 hz, r_58_29 hz, r_58_30 hz, g_58_31 hz, p_58_31 hz, r_58_32 hz, r_58_33 hz, r_58_34 hz, r_58_35 hz, r_58_36 hz, r_58_37 hz, g_58_38 hz, p_58_38 hz, r_58_39 hz, r_58_40 hz, r_58_41 hz, g_58_42 hz, p_58_42 hz, g_58_43 hz, p_58_43 hz, g_58_44 hz, p_58_44 hz, g_58_45 hz, p_58_45 hz, g_58_46 hz, p_58_46 hz, g_58_47 hz, p_58_47 hz, g_58_48 hz, p_58_48 hz, r_58_49 hz, r_58_50 hz, r_58_51 hz, r_58_52 hz, g_58_53 hz, p_58_53 hz, g_58_54 hz, p_58_54 hz, g_58_55 hz, p_58_55 hz, l_59 hz, s_59 hz, n_59 hz, l_60 hz, s_60 hz, n_60 hz, l_61 hz, s_61 hz, n_61 hz, l_62 hz, s_62 hz, n_62 hz, l_63 hz, s_63 hz, n_63 hz, l_64 hz, s_64 hz, n_64 hz, l_65 hz, s_65 hz, n_65 hz, l_66 hz, s_66 hz, n_66 hz, l_67 hz, s_67 hz, n_67 hz, l_68 hz, s_68 hz, n_68 hz, l_69 hz, s_69 hz, n_69 hz, l_70 hz, s_70 hz, n_70 hz, l_71 hz, s_71 hz, n_71 hz, l_72 hz, s_72 hz, n_72 hz, l_73 hz, s_73 hz, n_73 hz, l_74 hz, s_74 hz, n_74 hz, l_75 hz, s_75 hz, n_75 hz, l_76 hz, s_76 hz, n_76 hz, l_77 hz, s_77 hz, n_77 hz, l_78 hz, s_78 hz, n_78 hz, l_79 hz, s_79 hz, n_79 hz, l_80 hz, s_80 hz, n_80 hz, l_81 hz, s_81 hz, n_81 hz, l_82 hz, s_82 hz, l_83 hz, s_83 hz, n_83 hz, l_84 hz, s_84 hz, n_84 hz, l_85 hz, s_85 hz, n_85 hz, hO_s, hI_s, hL_s, hQ_s, hQ_n, hR_s, hV_s, hN_n, hN_s, cond_true, lI_0, lI_1, sI_0, sI_1, lL_0, lL_1, ↓reduceIte, not_true_eq_false, not_false_eq_true, Nat.reduceEqDiff, Nat.reduceAdd, Nat.reduceMul, Nat.reduceSub, Nat.reduceLeDiff, Nat.reduceLT, li_2, li_3, li_4, li_5, li_6, li_7, li_8, li_9, li_10, li_11, li_12, li_13, li_14, li_15, li_16, li_17, li_18, li_19, li_20, li_21, li_22, li_23, li_24, li_25, li_26, li_27, li_28, li_29, li_30, li_31, li_32, li_33, li_34, li_35, li_36, li_37, li_38, li_39, li_40, li_41, li_42, li_43, li_44, li_45, li_46, li_47, li_48, li_49, li_50, li_51, li_52, li_53, li_54, li_55, li_56, li_57, li_58, li_59, li_60, li_61, li_62, li_63, li_64, li_65, li_66, li_67, li_68, li_69, li_70, li_71, li_72, li_73, li_74, li_75, li_76, li_77, li_78, li_79, li_80, li_81, li_82, li_83, li_84, li_85, li_86, li_87, li_88, li_89, li_90, li_91, li_92, li_93, li_94, li_95, li_96, li_97, li_98, li_99, li_100, li_101, li_102, li_103, li_104, li_105, li_106, li_107, li_108, li_109, li_110, li_111, li_112, li_113, li_114, li_115, li_116, li_117, li_118, li_119, li_120, li_121, li_122, li_255, li_400, li_608, li_998, li_999, li_1000, li_1024, li_1103, li_2400, li_2911, li_4095, li_4096, li_5711, li_9999, li_12345, li_1000000, li_1000003, li_252645135, li_858993459, li_1431655765, wI_add, wI_mul, wI_add1, wI_1add, wI_le, eq_false (show ¬ tm ≤ j by omega), i1, hw0]
theorem m_runs (hz : Sh z) (hA : A + n ≤ 2800) (hA0 : 0 < A) (hn4 : n ≤ 400) {t cc l : Nat} (htn : t < n) {q : CL} (hp : pOrdC C V cc t l = .inr q) {b : Int} (h : RO f W Z T L c) (hw : WB W b) (hb : b + 20 ≤ 10000) (h44 : f 58 44 = wI (A + t)) (hcv : CV W A n C V) {d : Nat} (hd : 51 ≤ d) :
    (∀ W', oTimes q (q.2.2.1.getD 1 0) W = some W' → ∃ f', EC d mM_runs [.ref 58, .int (wI (A + n))] (mkM f z) = some (some (.int 1), mkM f' z) ∧ RO f' W' Z T L c ∧ WB W' (b + 20) ∧ OG f f' ∧ f' 58 44 = wI (A + (q.1 + 1)) ∧ CV W' A n C V ∧ ∀ j, 37 ≤ j → W'.1 j = W.1 j) ∧
    (oTimes q (q.2.2.1.getD 1 0) W = none → ∃ f' W', EC d mM_runs [.ref 58, .int (wI (A + n))] (mkM f z) = some (some (.int 0), mkM f' z) ∧ RO f' W' Z T L c ∧ OG f f' ∧ ∀ j, 37 ≤ j → W'.1 j = W.1 j) := by
  obtain ⟨d, rfl⟩ : ∃ e, d = e + 1 := ⟨d - 1, by omega⟩
  have hQ := ordC_QO _ _ _ _ hp
  have htm := hQ.2.2.2.1
  obtain ⟨hC, hV⟩ := id hcv
  have hp' := hp
  rw [← hC, ← hV] at hp'
  obtain ⟨f1, i1, i2, i3, i4, i5, i6⟩ := m_goes hz h.1.1.1 hw.1 hA hA0 hn4 h.2.1 h.2.2 ⟨hw.2.1, by have := hw.2.2.1; omega⟩ hw.2.2.2 h.1.1.2.2.2 h44 htn hp' (lv := false) (d := d) (by omega)
  rw [bz_ff] at i1
  obtain ⟨P, Q⟩ := runs_19 (x3 := wI (A + (q.1 + 1))) hz hA hA0 hn4 htn hp htm (d := d) (by omega) (q.2.2.1.getD 1 0) 0 W f1 b (by omega) (RO_OGf h i2) hw (by omega) (by rw [i2.2.1 44 (by omega)]; exact h44) hcv
  have stepQ : EC (d + 1) mM_runs [.ref 58, .int (wI (A + n))] (mkM f z) = Ev (d + 1) mM_runs 19 [(0, .ref 58), (1, .int (wI (A + n))), (2, .int (wI (q.2.2.1.getD 1 0))), (3, .int (wI (A + (q.1 + 1)))), (4, .int (wI 0))] [] (mkM f1 z) := by
    rw [q_M_runs]
    simp -dsimp (disch := omega) only [↓c_58 hz, g_58_0 hz, p_58_0 hz, r_58_1 hz, r_58_2 hz, r_58_3 hz, r_58_4 hz, r_58_5 hz, g_58_6 hz, p_58_6 hz, r_58_7 hz, g_58_8 hz, p_58_8 hz, g_58_9 hz, p_58_9 hz, g_58_10 hz, p_58_10 hz, r_58_11 hz, r_58_12 hz, g_58_13 hz, p_58_13 hz, g_58_14 hz, p_58_14 hz, r_58_15 hz, r_58_16 hz, r_58_17 hz, g_58_18 hz, p_58_18 hz, g_58_19 hz, p_58_19 hz, g_58_20 hz, p_58_20 hz, g_58_21 hz, p_58_21 hz, g_58_22 hz, p_58_22 hz, g_58_23 hz, p_58_23 hz, g_58_24 hz, p_58_24 hz, g_58_25 hz, p_58_25 hz, r_58_26 hz, g_58_27 hz, p_58_27 hz, g_58_28 hz, p_58_28 hz, r_58_29 hz, r_58_30 hz, g_58_31 hz, p_58_31 hz, r_58_32 hz, r_58_33 hz, r_58_34 hz, r_58_35 hz, r_58_36 hz, r_58_37 hz, g_58_38 hz, p_58_38 hz, r_58_39 hz, r_58_40 hz, r_58_41 hz, g_58_42 hz, p_58_42 hz, g_58_43 hz, p_58_43 hz, g_58_44 hz, p_58_44 hz, g_58_45 hz, p_58_45 hz, g_58_46 hz, p_58_46 hz, g_58_47 hz, p_58_47 hz, g_58_48 hz, p_58_48 hz, r_58_49 hz, r_58_50 hz, r_58_51 hz, r_58_52 hz, g_58_53 hz, p_58_53 hz, g_58_54 hz, p_58_54 hz, g_58_55 hz, p_58_55 hz, l_59 hz, s_59 hz, n_59 hz, l_60 hz, s_60 hz, n_60 hz, l_61 hz, s_61 hz, n_61 hz, l_62 hz, s_62 hz, n_62 hz, l_63 hz, s_63 hz, n_63 hz, l_64 hz, s_64 hz, n_64 hz, l_65 hz, s_65 hz, n_65 hz, l_66 hz, s_66 hz, n_66 hz, l_67 hz, s_67 hz, n_67 hz, l_68 hz, s_68 hz, n_68 hz, l_69 hz, s_69 hz, n_69 hz, l_70 hz, s_70 hz, n_70 hz, l_71 hz, s_71 hz, n_71 hz, l_72 hz, s_72 hz, n_72 hz, l_73 hz, s_73 hz, n_73 hz, l_74 hz, s_74 hz, n_74 hz, l_75 hz, s_75 hz, n_75 hz, l_76 hz, s_76 hz, n_76 hz, l_77 hz, s_77 hz, n_77 hz, l_78 hz, s_78 hz, n_78 hz, l_79 hz, s_79 hz, n_79 hz, l_80 hz, s_80 hz, n_80 hz, l_81 hz, s_81 hz, n_81 hz, l_82 hz, s_82 hz, l_83 hz, s_83 hz, n_83 hz, l_84 hz, s_84 hz, n_84 hz, l_85 hz, s_85 hz, n_85 hz, hO_s, hI_s, hL_s, hQ_s, hQ_n, hR_s, hV_s, hN_n, hN_s, cond_true, lI_0, lI_1, sI_0, sI_1, lL_0, lL_1, ↓reduceIte, not_true_eq_false, not_false_eq_true, Nat.reduceEqDiff, Nat.reduceAdd, Nat.reduceMul, Nat.reduceSub, Nat.reduceLeDiff, Nat.reduceLT, li_2, li_3, li_4, li_5, li_6, li_7, li_8, li_9, li_10, li_11, li_12, li_13, li_14, li_15, li_16, li_17, li_18, li_19, li_20, li_21, li_22, li_23, li_24, li_25, li_26, li_27, li_28, li_29, li_30, li_31, li_32, li_33, li_34, li_35, li_36, li_37, li_38, li_39, li_40, li_41, li_42, li_43, li_44, li_45, li_46, li_47, li_48, li_49, li_50, li_51, li_52, li_53, li_54, li_55, li_56, li_57, li_58, li_59, li_60, li_61, li_62, li_63, li_64, li_65, li_66, li_67, li_68, li_69, li_70, li_71, li_72, li_73, li_74, li_75, li_76, li_77, li_78, li_79, li_80, li_81, li_82, li_83, li_84, li_85, li_86, li_87, li_88, li_89, li_90, li_91, li_92, li_93, li_94, li_95, li_96, li_97, li_98, li_99, li_100, li_101, li_102, li_103, li_104, li_105, li_106, li_107, li_108, li_109, li_110, li_111, li_112, li_113, li_114, li_115, li_116, li_117, li_118, li_119, li_120, li_121, li_122, li_255, li_400, li_608, li_998, li_999, li_1000, li_1024, li_1103, li_2400, li_2911, li_4095, li_4096, li_5711, li_9999, li_12345, li_1000000, li_1000003, li_252645135, li_858993459, li_1431655765, wI_add, wI_mul, wI_add1, wI_1add, i1, i3, i4, Nat.add_assoc]
    rfl
  rw [stepQ]
  refine ⟨fun W' e => ?_, fun e => ?_⟩
  · obtain ⟨f', y1, y2, y3, y4, y5, y6, y7⟩ := P W' e
    exact ⟨f', y1, y2, ⟨y3.1, y3.2.1, by have := y3.2.2.1; omega, y3.2.2.2⟩, (OGf_OG i2).tr y4, y5, y6, y7⟩
  · obtain ⟨f', W', y1, y2, y3, y4⟩ := Q e
    exact ⟨f', W', y1, y2, (OGf_OG i2).tr y3, y4⟩
end
