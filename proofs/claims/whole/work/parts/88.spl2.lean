/-! ===== the reference's reader: all TOKENS ===== -/
/-- the first n TOKENS lie there -/
def TKn (T : Nat → Nat) (L n : Nat) (f : Nat → Nat → Int32) : Prop := ∀ t, t < n → f 67 t = wI (cdT T L t) ∧ f 68 t = wI (vlT T L t) ∧ f 69 t = wI (plB T L t)
/-- what splitting changes -/
def TF (f f' : Nat → Nat → Int32) : Prop := (∀ a, a ≠ 58 → a ≠ 67 → a ≠ 68 → a ≠ 69 → f' a = f a) ∧ ∀ k, k ≠ 18 → f' 58 k = f 58 k
theorem TF.rf (f : Nat → Nat → Int32) : TF f f := ⟨fun _ _ _ _ _ => rfl, fun _ _ => rfl⟩
theorem TF.tr {f g h : Nat → Nat → Int32} (h1 : TF f g) (h2 : TF g h) : TF f h := ⟨fun a x y z w => by rw [h2.1 a x y z w, h1.1 a x y z w], fun k hk => by rw [h2.2 k hk, h1.2 k hk]⟩
section
variable {z : Mem} {T : Nat → Nat} {L : Nat}
theorem TKn_s {n : Nat} {f f' : Nat → Nat → Int32} (h : TKn T L n f) (hs : ∀ t, t ≠ n → f' 67 t = f 67 t ∧ f' 68 t = f 68 t ∧ f' 69 t = f 69 t) (hn : f' 67 n = wI (cdT T L n) ∧ f' 68 n = wI (vlT T L n) ∧ f' 69 n = wI (plB T L n)) : TKn T L (n + 1) f' := by
  intro t ht
  by_cases e : t = n
  · subst e; exact hn
  · obtain ⟨a, b, c⟩ := hs t e
    rw [a, b, c]
    exact h t (by omega)
theorem sp_7 (hz : Sh z) (hL : L ≤ 400) (hT : ∀ k, T k < 256) {d : Nat} (hd : 1 ≤ d) : ∀ (m k t : Nat) (f : Nat → Nat → Int32), L - k ≤ m → k ≤ L → t ≤ nT T L → wh isB T L k = plB T L t → WRD f → (∀ k, k < L → f 65 k = sgb (T k)) → f 58 18 = wI t → TKn T L t f →
    ∃ f', Ev (d + 1) mM_splits 7 [(0, .ref 58), (1, .int (wI L)), (2, .int (wI k))] [] (mkM f z) = some (none, mkM f' z) ∧ TF f f' ∧ f' 58 18 = wI (nT T L) ∧ TKn T L (nT T L + 1) f' := by
  have e1 : ((1 : Int32) = 0) = False := eq_false (by decide)
  have hnL := nT_le (T := T) (L := L)
  have fin : ∀ (k t : Nat) (f : Nat → Nat → Int32), k = L → t ≤ nT T L → wh isB T L k = plB T L t → f 58 18 = wI t → TKn T L t f →
    ∃ f', Ev (d + 1) mM_splits 7 [(0, .ref 58), (1, .int (wI L)), (2, .int (wI k))] [] (mkM f z) = some (none, mkM f' z) ∧ TF f f' ∧ f' 58 18 = wI (nT T L) ∧ TKn T L (nT T L + 1) f' := by
    intro k t f hk ht hw h18 hn
    subst hk
    have c : k ≤ k := Nat.le_refl _
    rw [wh_stop (by omega)] at hw
    have htn : t = nT T k := by
      rcases Nat.lt_or_ge t (nT T k) with h | h
      · have := nT_lt h; omega
      · omega
    have h0 : cdT T k t = 0 := by rw [htn]; exact nT_cd
    have h1 : vlT T k t = 0 := by
      unfold vlT vlB
      rw [if_neg (by unfold shp; rw [if_pos (by omega)]; decide)]
    refine ⟨up (up (up f 69 (upd (f 69) t (wI k))) 67 (upd (f 67) t 0)) 68 (upd (f 68) t 0), ?_, ⟨fun a a1 a2 a3 a4 => ?_, fun j hj => ?_⟩, ?_, ?_⟩
    · rw [q_M_splits_7]
      simp -dsimp (disch := omega) only [↓c_58 hz, g_58_0 hz, p_58_0 hz, r_58_1 hz, r_58_2 hz, r_58_3 hz, r_58_4 hz, r_58_5 hz, g_58_6 hz, p_58_6 hz, r_58_7 hz, g_58_8 hz, p_58_8 hz, g_58_9 hz, p_58_9 hz, g_58_10 hz, p_58_10 hz, r_58_11 hz, r_58_12 hz, g_58_13 hz, p_58_13 hz, g_58_14 hz, p_58_14 hz, r_58_15 hz, r_58_16 hz, r_58_17 hz, g_58_18 hz, p_58_18 hz, g_58_19 hz, p_58_19 hz, g_58_20 hz, p_58_20 hz, g_58_21 hz, p_58_21 hz, g_58_22 hz, p_58_22 hz, g_58_23 hz, p_58_23 hz, g_58_24 hz, p_58_24 hz, g_58_25 hz, p_58_25 hz, r_58_26 hz, g_58_27 hz, p_58_27 hz, g_58_28 hz, p_58_28 hz, r_58_29 hz, r_58_30 hz, g_58_31 hz, p_58_31 hz, r_58_32 hz, r_58_33 hz, r_58_34 hz, r_58_35 hz, r_58_36 hz, r_58_37 hz, g_58_38 hz, p_58_38 hz, r_58_39 hz, r_58_40 hz, r_58_41 hz, g_58_42 hz, p_58_42 hz, g_58_43 hz, p_58_43 hz, g_58_44 hz, p_58_44 hz, g_58_45 hz, p_58_45 hz, g_58_46 hz, p_58_46 hz, g_58_47 hz, p_58_47 hz, g_58_48 hz, p_58_48 hz, r_58_49 hz, r_58_50 hz, r_58_51 hz, r_58_52 hz, g_58_53 hz, p_58_53 hz, g_58_54 hz, p_58_54 hz, g_58_55 hz, p_58_55 hz, l_59 hz, s_59 hz, n_59 hz, l_60 hz, s_60 hz, n_60 hz, l_61 hz, s_61 hz, n_61 hz, l_62 hz, s_62 hz, n_62 hz, l_63 hz, s_63 hz, n_63 hz, l_64 hz, s_64 hz, n_64 hz, l_65 hz, s_65 hz, n_65 hz, l_66 hz, s_66 hz, n_66 hz, l_67 hz, s_67 hz, n_67 hz, l_68 hz, s_68 hz, n_68 hz, l_69 hz, s_69 hz, n_69 hz, l_70 hz, s_70 hz, n_70 hz, l_71 hz, s_71 hz, n_71 hz, l_72 hz, s_72 hz, n_72 hz, l_73 hz, s_73 hz, n_73 hz, l_74 hz, s_74 hz, n_74 hz, l_75 hz, s_75 hz, n_75 hz, l_76 hz, s_76 hz, n_76 hz, l_77 hz, s_77 hz, n_77 hz, l_78 hz, s_78 hz, n_78 hz, l_79 hz, s_79 hz, n_79 hz, l_80 hz, s_80 hz, n_80 hz, l_81 hz, s_81 hz, n_81 hz, l_82 hz, s_82 hz, l_83 hz, s_83 hz, n_83 hz, l_84 hz, s_84 hz, n_84 hz, l_85 hz, s_85 hz, n_85 hz, hO_s, hI_s, hL_s, hQ_s, hQ_n, hR_s, hV_s, hN_n, hN_s, cond_true, lI_0, lI_1, sI_0, sI_1, lL_0, lL_1, ↓reduceIte, not_true_eq_false, not_false_eq_true, Nat.reduceEqDiff, Nat.reduceAdd, Nat.reduceMul, Nat.reduceSub, Nat.reduceLeDiff, Nat.reduceLT, up_ne, h18, wI_le, eq_true c]
    · rw [up_ne _ _ _ a3, up_ne _ _ _ a2, up_ne _ _ _ a4]
    · rw [up_ne _ _ _ (by decide), up_ne _ _ _ (by decide), up_ne _ _ _ (by decide)]
    · rw [up_ne _ _ _ (by decide), up_ne _ _ _ (by decide), up_ne _ _ _ (by decide), h18, htn]
    · rw [← htn]
      refine TKn_s hn (fun j hj => ⟨?_, ?_, ?_⟩) ⟨?_, ?_, ?_⟩
      · rw [up_ne _ _ _ (by decide), up_eq, upd_ne _ _ _ hj]
      · rw [up_eq, upd_ne _ _ _ hj]
      · rw [up_ne _ _ _ (by decide), up_ne _ _ _ (by decide), up_eq, upd_ne _ _ _ hj]
      · rw [up_ne _ _ _ (by decide), up_eq, upd_eq, h0]; rfl
      · rw [up_eq, upd_eq, h1]; rfl
      · rw [up_ne _ _ _ (by decide), up_ne _ _ _ (by decide), up_eq, upd_eq, ← hw]
  intro m
  induction m with
  | zero =>
    intro k t f hm hk ht hw _ _ h18 hn
    exact fin k t f (by omega) ht hw h18 hn
  | succ m ih =>
    intro k t f hm hk ht hw hwr h65 h18 hn
    rcases Nat.lt_or_ge k L with hkL | hkL
    · have c : ¬ L ≤ k := by omega
      have h65k := h65 k hkL
      have hTk := hT k
      by_cases c32 : T k = 32
      · obtain ⟨f', i1, i2⟩ := ih (k + 1) t f (by omega) (by omega) ht (by rw [← wh_go hkL (isB_i.mpr c32)]; exact hw) hwr h65 h18 hn
        refine ⟨f', ?_, i2⟩
        rw [← i1, q_M_splits_7]
        simp -dsimp (disch := omega) only [↓c_58 hz, g_58_0 hz, p_58_0 hz, r_58_1 hz, r_58_2 hz, r_58_3 hz, r_58_4 hz, r_58_5 hz, g_58_6 hz, p_58_6 hz, r_58_7 hz, g_58_8 hz, p_58_8 hz, g_58_9 hz, p_58_9 hz, g_58_10 hz, p_58_10 hz, r_58_11 hz, r_58_12 hz, g_58_13 hz, p_58_13 hz, g_58_14 hz, p_58_14 hz, r_58_15 hz, r_58_16 hz, r_58_17 hz, g_58_18 hz, p_58_18 hz, g_58_19 hz, p_58_19 hz, g_58_20 hz, p_58_20 hz, g_58_21 hz, p_58_21 hz, g_58_22 hz, p_58_22 hz, g_58_23 hz, p_58_23 hz, g_58_24 hz, p_58_24 hz, g_58_25 hz, p_58_25 hz, r_58_26 hz, g_58_27 hz, p_58_27 hz, g_58_28 hz, p_58_28 hz, r_58_29 hz, r_58_30 hz, g_58_31 hz, p_58_31 hz, r_58_32 hz, r_58_33 hz, r_58_34 hz, r_58_35 hz, r_58_36 hz, r_58_37 hz, g_58_38 hz, p_58_38 hz, r_58_39 hz, r_58_40 hz, r_58_41 hz, g_58_42 hz, p_58_42 hz, g_58_43 hz, p_58_43 hz, g_58_44 hz, p_58_44 hz, g_58_45 hz, p_58_45 hz, g_58_46 hz, p_58_46 hz, g_58_47 hz, p_58_47 hz, g_58_48 hz, p_58_48 hz, r_58_49 hz, r_58_50 hz, r_58_51 hz, r_58_52 hz, g_58_53 hz, p_58_53 hz, g_58_54 hz, p_58_54 hz, g_58_55 hz, p_58_55 hz, l_59 hz, s_59 hz, n_59 hz, l_60 hz, s_60 hz, n_60 hz, l_61 hz, s_61 hz, n_61 hz, l_62 hz, s_62 hz, n_62 hz, l_63 hz, s_63 hz, n_63 hz, l_64 hz, s_64 hz, n_64 hz, l_65 hz, s_65 hz, n_65 hz, l_66 hz, s_66 hz, n_66 hz, l_67 hz, s_67 hz, n_67 hz, l_68 hz, s_68 hz, n_68 hz, l_69 hz, s_69 hz, n_69 hz, l_70 hz, s_70 hz, n_70 hz, l_71 hz, s_71 hz, n_71 hz, l_72 hz, s_72 hz, n_72 hz, l_73 hz, s_73 hz, n_73 hz, l_74 hz, s_74 hz, n_74 hz, l_75 hz, s_75 hz, n_75 hz, l_76 hz, s_76 hz, n_76 hz, l_77 hz, s_77 hz, n_77 hz, l_78 hz, s_78 hz, n_78 hz, l_79 hz, s_79 hz, n_79 hz, l_80 hz, s_80 hz, n_80 hz, l_81 hz, s_81 hz, n_81 hz, l_82 hz, s_82 hz, l_83 hz, s_83 hz, n_83 hz, l_84 hz, s_84 hz, n_84 hz, l_85 hz, s_85 hz, n_85 hz, hO_s, hI_s, hL_s, hQ_s, hQ_n, hR_s, hV_s, hN_n, hN_s, cond_true, lI_0, lI_1, sI_0, sI_1, lL_0, lL_1, ↓reduceIte, not_true_eq_false, not_false_eq_true, Nat.reduceEqDiff, Nat.reduceAdd, Nat.reduceMul, Nat.reduceSub, Nat.reduceLeDiff, Nat.reduceLT, wI_add, wI_mul, wI_add1, wI_1add, wI_le, c, h65k, show (32 : Int32) = wI 32 from rfl, sgb_eq, eq_true c32]
      · rw [wh_stop (fun h => c32 (isB_i.mp h.2))] at hw
        have htn : t < nT T L := by
          rcases Nat.lt_or_ge t (nT T L) with h | h
          · exact h
          · have : t = nT T L := by omega
            rw [this, nT_end] at hw; omega
        have hE1 := tE_gt (T := T) hkL
        have hE2 := tE_le (T := T) hk
        -- what comes behind a token
        have nxt : ∀ (f1 : Nat → Nat → Int32), TF f f1 → f1 58 18 = wI (t + 1) → (∀ j, j ≠ t → f1 67 j = f 67 j ∧ f1 68 j = f 68 j ∧ f1 69 j = f 69 j) → f1 67 t = wI (cdB T L k) → f1 68 t = wI (vlB T L k) → f1 69 t = wI k →
          ∃ f', Ev (d + 1) mM_splits 7 [(0, .ref 58), (1, .int (wI L)), (2, .int (wI (tE T L k)))] [] (mkM f1 z) = some (none, mkM f' z) ∧ TF f f' ∧ f' 58 18 = wI (nT T L) ∧ TKn T L (nT T L + 1) f' := by
          intro f1 hf hf18 hj h67 h68 h69
          obtain ⟨f', i1, i2, i3, i4⟩ := ih (tE T L k) (t + 1) f1 (by omega) hE2 htn (by show _ = nxB T L (plB T L t); rw [← hw]; rfl) (fun j hj => by rw [hf.1 64 (by decide) (by decide) (by decide) (by decide)]; exact hwr j hj) (fun j hj => by rw [hf.1 65 (by decide) (by decide) (by decide) (by decide)]; exact h65 j hj) hf18 (TKn_s hn hj ⟨by rw [h67, cdT, ← hw], by rw [h68, vlT, ← hw], by rw [h69, ← hw]⟩)
          exact ⟨f', i1, hf.tr i2, i3, i4⟩
        have tf3 : ∀ (cc : Int32), TF f (up (tk3 f t k cc) 58 (upd (tk3 f t k cc 58) 18 (wI (t + 1)))) := fun cc => ⟨fun a a1 a2 a3 a4 => by rw [up_ne _ _ _ a1, tk3_c a2 a3 a4], fun j hj => by rw [up_eq, upd_ne _ _ _ hj, tk3_c (by decide) (by decide) (by decide)]⟩
        have rows : ∀ (cc : Int32), ∀ j, j ≠ t → up (tk3 f t k cc) 58 (upd (tk3 f t k cc 58) 18 (wI (t + 1))) 67 j = f 67 j ∧ up (tk3 f t k cc) 58 (upd (tk3 f t k cc 58) 18 (wI (t + 1))) 68 j = f 68 j ∧ up (tk3 f t k cc) 58 (upd (tk3 f t k cc 58) 18 (wI (t + 1))) 69 j = f 69 j := fun cc j hj => by
          rw [up_ne _ _ _ (by decide), up_ne _ _ _ (by decide), up_ne _ _ _ (by decide), tk3_67, tk3_68, tk3_69, upd_ne _ _ _ hj, upd_ne _ _ _ hj, upd_ne _ _ _ hj]
          exact ⟨rfl, rfl, rfl⟩
        have h183 : ∀ (cc : Int32), tk3 f t k cc 58 18 = wI t := fun cc => by rw [tk3_c (by decide) (by decide) (by decide), h18]
        by_cases cS : isS (T k) = true
        · have hS : ∀ σ, EC d mM_isSmall [.int (sgb (T k))] σ = some (some (.int 1), σ) := fun σ => by rw [m_isSmall (hT k) hd, bz_pos cS]
          have nD : ¬ isD (T k) = true := by rw [isD_i]; rw [isS_i] at cS; omega
          have hE : tE T L k = wh isS T L (k + 1) := by unfold tE; rw [if_neg c, if_pos cS, wh_go hkL cS]
          have i1 := sp_43 hz hwr h65 hL hT cS (show t ≤ 400 by omega) h18 hd (L - (k + 1)) (k + 1) (by omega) (by omega)
          rw [← hE] at i1
          have i2 := sp_169n (L := L) hz hT (f := tk3 f t k (wI (wcL T k (tE T L k) WL 1))) hE1 (by omega) nD (h183 _) hd
          obtain ⟨f', j1, j2⟩ := nxt _ (tf3 (wI (wcL T k (tE T L k) WL 1))) (by rw [up_eq, upd_eq]) (rows _) (by rw [up_ne _ _ _ (by decide), tk3_67, upd_eq]; unfold cdB; rw [if_neg c, if_pos cS]) (by rw [up_ne _ _ _ (by decide), tk3_68, upd_eq]; unfold vlB; rw [if_neg (by unfold shp; rw [if_neg c, if_pos cS]; decide)]; rfl) (by rw [up_ne _ _ _ (by decide), tk3_69, upd_eq])
          refine ⟨f', ?_, j2⟩
          rw [← j1, ← i2, ← i1, q_M_splits_7]
          simp -dsimp (disch := omega) only [↓c_58 hz, g_58_0 hz, p_58_0 hz, r_58_1 hz, r_58_2 hz, r_58_3 hz, r_58_4 hz, r_58_5 hz, g_58_6 hz, p_58_6 hz, r_58_7 hz, g_58_8 hz, p_58_8 hz, g_58_9 hz, p_58_9 hz, g_58_10 hz, p_58_10 hz, r_58_11 hz, r_58_12 hz, g_58_13 hz, p_58_13 hz, g_58_14 hz, p_58_14 hz, r_58_15 hz, r_58_16 hz, r_58_17 hz, g_58_18 hz, p_58_18 hz, g_58_19 hz, p_58_19 hz, g_58_20 hz, p_58_20 hz, g_58_21 hz, p_58_21 hz, g_58_22 hz, p_58_22 hz, g_58_23 hz, p_58_23 hz, g_58_24 hz, p_58_24 hz, g_58_25 hz, p_58_25 hz, r_58_26 hz, g_58_27 hz, p_58_27 hz, g_58_28 hz, p_58_28 hz, r_58_29 hz, r_58_30 hz, g_58_31 hz, p_58_31 hz, r_58_32 hz, r_58_33 hz, r_58_34 hz, r_58_35 hz, r_58_36 hz, r_58_37 hz, g_58_38 hz, p_58_38 hz, r_58_39 hz, r_58_40 hz, r_58_41 hz, g_58_42 hz, p_58_42 hz, g_58_43 hz, p_58_43 hz, g_58_44 hz, p_58_44 hz, g_58_45 hz, p_58_45 hz, g_58_46 hz, p_58_46 hz, g_58_47 hz, p_58_47 hz, g_58_48 hz, p_58_48 hz, r_58_49 hz, r_58_50 hz, r_58_51 hz, r_58_52 hz, g_58_53 hz, p_58_53 hz, g_58_54 hz, p_58_54 hz, g_58_55 hz, p_58_55 hz, l_59 hz, s_59 hz, n_59 hz, l_60 hz, s_60 hz, n_60 hz, l_61 hz, s_61 hz, n_61 hz, l_62 hz, s_62 hz, n_62 hz, l_63 hz, s_63 hz, n_63 hz, l_64 hz, s_64 hz, n_64 hz, l_65 hz, s_65 hz, n_65 hz, l_66 hz, s_66 hz, n_66 hz, l_67 hz, s_67 hz, n_67 hz, l_68 hz, s_68 hz, n_68 hz, l_69 hz, s_69 hz, n_69 hz, l_70 hz, s_70 hz, n_70 hz, l_71 hz, s_71 hz, n_71 hz, l_72 hz, s_72 hz, n_72 hz, l_73 hz, s_73 hz, n_73 hz, l_74 hz, s_74 hz, n_74 hz, l_75 hz, s_75 hz, n_75 hz, l_76 hz, s_76 hz, n_76 hz, l_77 hz, s_77 hz, n_77 hz, l_78 hz, s_78 hz, n_78 hz, l_79 hz, s_79 hz, n_79 hz, l_80 hz, s_80 hz, n_80 hz, l_81 hz, s_81 hz, n_81 hz, l_82 hz, s_82 hz, l_83 hz, s_83 hz, n_83 hz, l_84 hz, s_84 hz, n_84 hz, l_85 hz, s_85 hz, n_85 hz, hO_s, hI_s, hL_s, hQ_s, hQ_n, hR_s, hV_s, hN_n, hN_s, cond_true, lI_0, lI_1, sI_0, sI_1, lL_0, lL_1, ↓reduceIte, not_true_eq_false, not_false_eq_true, Nat.reduceEqDiff, Nat.reduceAdd, Nat.reduceMul, Nat.reduceSub, Nat.reduceLeDiff, Nat.reduceLT, wI_add, wI_mul, wI_add1, wI_1add, wI_le, c, h65k, show (32 : Int32) = wI 32 from rfl, sgb_eq, c32, hS, e1]
        · have hS : ∀ σ, EC d mM_isSmall [.int (sgb (T k))] σ = some (some (.int 0), σ) := fun σ => by rw [m_isSmall (hT k) hd, bz_neg cS]
          by_cases cD : isD (T k) = true
          · have hD : ∀ σ, EC d mM_isDigit [.int (sgb (T k))] σ = some (some (.int 1), σ) := fun σ => by rw [m_isDigit (hT k) hd, bz_pos cD]
            have hE : tE T L k = wh isD T L k := by unfold tE; rw [if_neg c, if_neg cS, if_pos cD]
            have i1 := sp_75 hz h65 hL hT cD (show t ≤ 400 by omega) h18 hd (L - (k + 1)) (k + 1) (by omega)
            rw [← wh_go hkL cD] at i1
            have hu : up (tk3 f t k 50) 68 (upd (f 68) t 0) = tk3 f t k 50 := by
              funext a
              by_cases ha : a = 68
              · subst ha; rw [up_eq, tk3_68]
              · rw [up_ne _ _ _ ha]
            obtain ⟨g', i2, i3, i4⟩ := sp_169 hz (f := tk3 f t k 50) (fun j hj => by rw [tk3_c (by decide) (by decide) (by decide)]; exact h65 j hj) hL hT hkL cD (show t ≤ 400 by omega) (h183 _) hd (wh isD T L k - k) k 0 (upd (f 68) t 0) (by have := wh_ge (P := isD) (T := T) (L := L) (k := k); omega) (Nat.le_refl _) (by decide) (by rw [upd_eq]; rfl)
            rw [hu, ← hE] at i2
            rw [← hE] at i1
            obtain ⟨f', j1, j2⟩ := nxt (up (up (tk3 f t k 50) 68 g') 58 (upd (tk3 f t k 50 58) 18 (wI (t + 1)))) ⟨fun a a1 a2 a3 a4 => by rw [up_ne _ _ _ a1, up_ne _ _ _ a3, tk3_c a2 a3 a4], fun j hj => by rw [up_eq, upd_ne _ _ _ hj, tk3_c (by decide) (by decide) (by decide)]⟩ (by rw [up_eq, upd_eq]) (fun j hj => by
                refine ⟨?_, ?_, ?_⟩
                · rw [up_ne _ _ _ (by decide), up_ne _ _ _ (by decide), tk3_67, upd_ne _ _ _ hj]
                · rw [up_ne _ _ _ (by decide), up_eq, i4 j hj, upd_ne _ _ _ hj]
                · rw [up_ne _ _ _ (by decide), up_ne _ _ _ (by decide), tk3_69, upd_ne _ _ _ hj]) (by rw [up_ne _ _ _ (by decide), up_ne _ _ _ (by decide), tk3_67, upd_eq]; unfold cdB; rw [if_neg c, if_neg cS, if_pos cD]; rfl) (by rw [up_ne _ _ _ (by decide), up_eq, i3]; unfold vlB; rw [if_pos (by unfold shp; rw [if_neg c, if_neg cS, if_pos cD])]) (by rw [up_ne _ _ _ (by decide), up_ne _ _ _ (by decide), tk3_69, upd_eq])
            refine ⟨f', ?_, j2⟩
            rw [← j1, ← i2, ← i1, q_M_splits_7]
            simp -dsimp (disch := omega) only [↓c_58 hz, g_58_0 hz, p_58_0 hz, r_58_1 hz, r_58_2 hz, r_58_3 hz, r_58_4 hz, r_58_5 hz, g_58_6 hz, p_58_6 hz, r_58_7 hz, g_58_8 hz, p_58_8 hz, g_58_9 hz, p_58_9 hz, g_58_10 hz, p_58_10 hz, r_58_11 hz, r_58_12 hz, g_58_13 hz, p_58_13 hz, g_58_14 hz, p_58_14 hz, r_58_15 hz, r_58_16 hz, r_58_17 hz, g_58_18 hz, p_58_18 hz, g_58_19 hz, p_58_19 hz, g_58_20 hz, p_58_20 hz, g_58_21 hz, p_58_21 hz, g_58_22 hz, p_58_22 hz, g_58_23 hz, p_58_23 hz, g_58_24 hz, p_58_24 hz, g_58_25 hz, p_58_25 hz, r_58_26 hz, g_58_27 hz, p_58_27 hz, g_58_28 hz, p_58_28 hz, r_58_29 hz, r_58_30 hz, g_58_31 hz, p_58_31 hz, r_58_32 hz, r_58_33 hz, r_58_34 hz, r_58_35 hz, r_58_36 hz, r_58_37 hz, g_58_38 hz, p_58_38 hz, r_58_39 hz, r_58_40 hz, r_58_41 hz, g_58_42 hz, p_58_42 hz, g_58_43 hz, p_58_43 hz, g_58_44 hz, p_58_44 hz, g_58_45 hz, p_58_45 hz, g_58_46 hz, p_58_46 hz, g_58_47 hz, p_58_47 hz, g_58_48 hz, p_58_48 hz, r_58_49 hz, r_58_50 hz, r_58_51 hz, r_58_52 hz, g_58_53 hz, p_58_53 hz, g_58_54 hz, p_58_54 hz, g_58_55 hz, p_58_55 hz, l_59 hz, s_59 hz, n_59 hz, l_60 hz, s_60 hz, n_60 hz, l_61 hz, s_61 hz, n_61 hz, l_62 hz, s_62 hz, n_62 hz, l_63 hz, s_63 hz, n_63 hz, l_64 hz, s_64 hz, n_64 hz, l_65 hz, s_65 hz, n_65 hz, l_66 hz, s_66 hz, n_66 hz, l_67 hz, s_67 hz, n_67 hz, l_68 hz, s_68 hz, n_68 hz, l_69 hz, s_69 hz, n_69 hz, l_70 hz, s_70 hz, n_70 hz, l_71 hz, s_71 hz, n_71 hz, l_72 hz, s_72 hz, n_72 hz, l_73 hz, s_73 hz, n_73 hz, l_74 hz, s_74 hz, n_74 hz, l_75 hz, s_75 hz, n_75 hz, l_76 hz, s_76 hz, n_76 hz, l_77 hz, s_77 hz, n_77 hz, l_78 hz, s_78 hz, n_78 hz, l_79 hz, s_79 hz, n_79 hz, l_80 hz, s_80 hz, n_80 hz, l_81 hz, s_81 hz, n_81 hz, l_82 hz, s_82 hz, l_83 hz, s_83 hz, n_83 hz, l_84 hz, s_84 hz, n_84 hz, l_85 hz, s_85 hz, n_85 hz, hO_s, hI_s, hL_s, hQ_s, hQ_n, hR_s, hV_s, hN_n, hN_s, cond_true, lI_0, lI_1, sI_0, sI_1, lL_0, lL_1, ↓reduceIte, not_true_eq_false, not_false_eq_true, Nat.reduceEqDiff, Nat.reduceAdd, Nat.reduceMul, Nat.reduceSub, Nat.reduceLeDiff, Nat.reduceLT, wI_add, wI_mul, wI_add1, wI_1add, wI_le, c, h65k, show (32 : Int32) = wI 32 from rfl, sgb_eq, c32, hS, hD, e1]
          · have hD : ∀ σ, EC d mM_isDigit [.int (sgb (T k))] σ = some (some (.int 0), σ) := fun σ => by rw [m_isDigit (hT k) hd, bz_neg cD]
            have hE : tE T L k = k + 1 := by unfold tE; rw [if_neg c, if_neg cS, if_neg cD]
            have i2 := sp_169n (L := L) hz hT (f := tk3 f t k (wI (100 + T k))) hE1 (by omega) cD (h183 _) hd
            obtain ⟨f', j1, j2⟩ := nxt _ (tf3 (wI (100 + T k))) (by rw [up_eq, upd_eq]) (rows _) (by rw [up_ne _ _ _ (by decide), tk3_67, upd_eq]; unfold cdB; rw [if_neg c, if_neg cS, if_neg cD]) (by rw [up_ne _ _ _ (by decide), tk3_68, upd_eq]; unfold vlB; rw [if_neg (by unfold shp; rw [if_neg c, if_neg cS, if_neg cD]; decide)]; rfl) (by rw [up_ne _ _ _ (by decide), tk3_69, upd_eq])
            refine ⟨f', ?_, j2⟩
            rw [← j1, ← i2, q_M_splits_7, hE]
            simp -dsimp (disch := omega) only [↓c_58 hz, g_58_0 hz, p_58_0 hz, r_58_1 hz, r_58_2 hz, r_58_3 hz, r_58_4 hz, r_58_5 hz, g_58_6 hz, p_58_6 hz, r_58_7 hz, g_58_8 hz, p_58_8 hz, g_58_9 hz, p_58_9 hz, g_58_10 hz, p_58_10 hz, r_58_11 hz, r_58_12 hz, g_58_13 hz, p_58_13 hz, g_58_14 hz, p_58_14 hz, r_58_15 hz, r_58_16 hz, r_58_17 hz, g_58_18 hz, p_58_18 hz, g_58_19 hz, p_58_19 hz, g_58_20 hz, p_58_20 hz, g_58_21 hz, p_58_21 hz, g_58_22 hz, p_58_22 hz, g_58_23 hz, p_58_23 hz, g_58_24 hz, p_58_24 hz, g_58_25 hz, p_58_25 hz, r_58_26 hz, g_58_27 hz, p_58_27 hz, g_58_28 hz, p_58_28 hz, r_58_29 hz, r_58_30 hz, g_58_31 hz, p_58_31 hz, r_58_32 hz, r_58_33 hz, r_58_34 hz, r_58_35 hz, r_58_36 hz, r_58_37 hz, g_58_38 hz, p_58_38 hz, r_58_39 hz, r_58_40 hz, r_58_41 hz, g_58_42 hz, p_58_42 hz, g_58_43 hz, p_58_43 hz, g_58_44 hz, p_58_44 hz, g_58_45 hz, p_58_45 hz, g_58_46 hz, p_58_46 hz, g_58_47 hz, p_58_47 hz, g_58_48 hz, p_58_48 hz, r_58_49 hz, r_58_50 hz, r_58_51 hz, r_58_52 hz, g_58_53 hz, p_58_53 hz, g_58_54 hz, p_58_54 hz, g_58_55 hz, p_58_55 hz, l_59 hz, s_59 hz, n_59 hz, l_60 hz, s_60 hz, n_60 hz, l_61 hz, s_61 hz, n_61 hz, l_62 hz, s_62 hz, n_62 hz, l_63 hz, s_63 hz, n_63 hz, l_64 hz, s_64 hz, n_64 hz, l_65 hz, s_65 hz, n_65 hz, l_66 hz, s_66 hz, n_66 hz, l_67 hz, s_67 hz, n_67 hz, l_68 hz, s_68 hz, n_68 hz, l_69 hz, s_69 hz, n_69 hz, l_70 hz, s_70 hz, n_70 hz, l_71 hz, s_71 hz, n_71 hz, l_72 hz, s_72 hz, n_72 hz, l_73 hz, s_73 hz, n_73 hz, l_74 hz, s_74 hz, n_74 hz, l_75 hz, s_75 hz, n_75 hz, l_76 hz, s_76 hz, n_76 hz, l_77 hz, s_77 hz, n_77 hz, l_78 hz, s_78 hz, n_78 hz, l_79 hz, s_79 hz, n_79 hz, l_80 hz, s_80 hz, n_80 hz, l_81 hz, s_81 hz, n_81 hz, l_82 hz, s_82 hz, l_83 hz, s_83 hz, n_83 hz, l_84 hz, s_84 hz, n_84 hz, l_85 hz, s_85 hz, n_85 hz, hO_s, hI_s, hL_s, hQ_s, hQ_n, hR_s, hV_s, hN_n, hN_s, cond_true, lI_0, lI_1, sI_0, sI_1, lL_0, lL_1, ↓reduceIte, not_true_eq_false, not_false_eq_true, Nat.reduceEqDiff, Nat.reduceAdd, Nat.reduceMul, Nat.reduceSub, Nat.reduceLeDiff, Nat.reduceLT, wI_add, wI_mul, wI_add1, wI_1add, up_ne, h18, wI_le, c, h65k, show (32 : Int32) = wI 32 from rfl, sgb_eq, c32, hS, hD, tk_a, tk2_c, sgb_and, tk_b]
    · exact fin k t f (by omega) ht hw h18 hn
theorem m_splits (hz : Sh z) (hL : L ≤ 400) (hT : ∀ k, T k < 256) {f : Nat → Nat → Int32} (hw : WRD f) (h65 : ∀ k, k < L → f 65 k = sgb (T k)) {d : Nat} (hd : 2 ≤ d) : ∃ f', EC d mM_splits [.ref 58, .int (wI L)] (mkM f z) = some (none, mkM f' z) ∧ TF f f' ∧ f' 58 18 = wI (nT T L) ∧ TKn T L (nT T L + 1) f' := by
  obtain ⟨d, rfl⟩ : ∃ e, d = e + 1 := ⟨d - 1, by omega⟩
  have t1 : TF f (up f 58 (upd (f 58) 18 0)) := ⟨fun a a1 _ _ _ => up_ne _ _ _ a1, fun j hj => by rw [up_eq, upd_ne _ _ _ hj]⟩
  obtain ⟨f', i1, i2, i3, i4⟩ := sp_7 hz hL hT (d := d) (by omega) L 0 0 (up f 58 (upd (f 58) 18 0)) (by omega) (by omega) (by omega) rfl (fun j hj => by rw [up_ne _ _ _ (by decide)]; exact hw j hj) (fun j hj => by rw [up_ne _ _ _ (by decide)]; exact h65 j hj) (by rw [up_eq, upd_eq]; rfl) (fun t ht => absurd ht (Nat.not_lt_zero _))
  refine ⟨f', ?_, t1.tr i2, i3, i4⟩
  rw [← i1, q_M_splits]
  simp -dsimp (disch := omega) only [↓c_58 hz, g_58_0 hz, p_58_0 hz, r_58_1 hz, r_58_2 hz, r_58_3 hz, r_58_4 hz, r_58_5 hz, g_58_6 hz, p_58_6 hz, r_58_7 hz, g_58_8 hz, p_58_8 hz, g_58_9 hz, p_58_9 hz, g_58_10 hz, p_58_10 hz, r_58_11 hz, r_58_12 hz, g_58_13 hz, p_58_13 hz, g_58_14 hz, p_58_14 hz, r_58_15 hz, r_58_16 hz, r_58_17 hz, g_58_18 hz, p_58_18 hz, g_58_19 hz, p_58_19 hz, g_58_20 hz, p_58_20 hz, g_58_21 hz, p_58_21 hz, g_58_22 hz, p_58_22 hz, g_58_23 hz, p_58_23 hz, g_58_24 hz, p_58_24 hz, g_58_25 hz, p_58_25 hz, r_58_26 hz, g_58_27 hz, p_58_27 hz, g_58_28 hz, p_58_28 hz, r_58_29 hz, r_58_30 hz, g_58_31 hz, p_58_31 hz, r_58_32 hz, r_58_33 hz, r_58_34 hz, r_58_35 hz, r_58_36 hz, r_58_37 hz, g_58_38 hz, p_58_38 hz, r_58_39 hz, r_58_40 hz, r_58_41 hz, g_58_42 hz, p_58_42 hz, g_58_43 hz, p_58_43 hz, g_58_44 hz, p_58_44 hz, g_58_45 hz, p_58_45 hz, g_58_46 hz, p_58_46 hz, g_58_47 hz, p_58_47 hz, g_58_48 hz, p_58_48 hz, r_58_49 hz, r_58_50 hz, r_58_51 hz, r_58_52 hz, g_58_53 hz, p_58_53 hz, g_58_54 hz, p_58_54 hz, g_58_55 hz, p_58_55 hz, l_59 hz, s_59 hz, n_59 hz, l_60 hz, s_60 hz, n_60 hz, l_61 hz, s_61 hz, n_61 hz, l_62 hz, s_62 hz, n_62 hz, l_63 hz, s_63 hz, n_63 hz, l_64 hz, s_64 hz, n_64 hz, l_65 hz, s_65 hz, n_65 hz, l_66 hz, s_66 hz, n_66 hz, l_67 hz, s_67 hz, n_67 hz, l_68 hz, s_68 hz, n_68 hz, l_69 hz, s_69 hz, n_69 hz, l_70 hz, s_70 hz, n_70 hz, l_71 hz, s_71 hz, n_71 hz, l_72 hz, s_72 hz, n_72 hz, l_73 hz, s_73 hz, n_73 hz, l_74 hz, s_74 hz, n_74 hz, l_75 hz, s_75 hz, n_75 hz, l_76 hz, s_76 hz, n_76 hz, l_77 hz, s_77 hz, n_77 hz, l_78 hz, s_78 hz, n_78 hz, l_79 hz, s_79 hz, n_79 hz, l_80 hz, s_80 hz, n_80 hz, l_81 hz, s_81 hz, n_81 hz, l_82 hz, s_82 hz, l_83 hz, s_83 hz, n_83 hz, l_84 hz, s_84 hz, n_84 hz, l_85 hz, s_85 hz, n_85 hz, hO_s, hI_s, hL_s, hQ_s, hQ_n, hR_s, hV_s, hN_n, hN_s, cond_true, lI_0, lI_1, sI_0, sI_1, lL_0, lL_1, ↓reduceIte, not_true_eq_false, not_false_eq_true, Nat.reduceEqDiff, Nat.reduceAdd, Nat.reduceMul, Nat.reduceSub, Nat.reduceLeDiff, Nat.reduceLT]
  rfl
end
