/-! ===== the reference reads a TEXT ===== -/
def RM (f f' : Nat → Nat → Int32) : Prop := (∀ a, a ≠ 58 → a ≠ 67 → a ≠ 68 → a ≠ 69 → f' a = f a) ∧ ∀ k, k ≠ 8 → k ≠ 9 → k ≠ 10 → k ≠ 13 → k ≠ 14 → k ≠ 18 → k ≠ 19 → k ≠ 20 → k ≠ 21 → f' 58 k = f 58 k
/-- what reading comes to -/
def RR (T : Nat → Nat) (L : Nat) (R : Nat ⊕ List CL) (f : Nat → Nat → Int32) (w : Bool) (f' : Nat → Nat → Int32) : Prop := RM f f' ∧ f' 58 13 = 0 ∧ f' 58 18 = wI (nT T L) ∧ TKn T L (nT T L + 1) f' ∧ match R with
  | .inl e => w = false ∧ f' 58 14 = wI (plB T L e)
  | .inr _ => w = true ∧ f' 58 14 = -1
section
variable {z : Mem} {f : Nat → Nat → Int32} {T : Nat → Nat} {L : Nat}
theorem P4_c {t l a : Nat} {b : Int32} (h : a ≠ 58) : MP4 f t l b a = f a := by unfold MP4; rw [up_ne _ _ _ h, P_c h]
theorem P4_k {t l k : Nat} {b : Int32} (h : k ≠ 14) (h1 : k ≠ 19) (h2 : k ≠ 20) (h3 : k ≠ 21) : MP4 f t l b 58 k = f 58 k := by unfold MP4; rw [up_eq, upd_ne _ _ _ h, P_k h1 h2 h3]
theorem P4_14 {t l : Nat} {b : Int32} : MP4 f t l b 58 14 = b := by unfold MP4; rw [up_eq, upd_eq]
theorem RR_of {R : Nat ⊕ List CL} {f f1 f2 f' : Nat → Nat → Int32} {w : Bool} (h1 : TF f f1) (h18 : f1 58 18 = wI (nT T L)) (hk : TKn T L (nT T L + 1) f1) (e2 : f2 = up f1 58 (upd (f1 58) 13 0)) (h : TM T L f2 R w f') : RR T L R f w f' := by
  have key : ∀ t l b, f' = MP4 f2 t l b → RM f f' ∧ f' 58 13 = 0 ∧ f' 58 18 = wI (nT T L) ∧ TKn T L (nT T L + 1) f' ∧ f' 58 14 = b := by
    intro t l b e
    subst e
    refine ⟨⟨fun a a1 a2 a3 a4 => ?_, fun k a1 a2 a3 a4 a5 a6 a7 a8 a9 => ?_⟩, ?_, ?_, fun t ht => ?_, P4_14⟩
    · rw [P4_c a1, e2, up_ne _ _ _ a1, h1.1 a a1 a2 a3 a4]
    · rw [P4_k a5 a7 a8 a9, e2, up_eq, upd_ne _ _ _ a4, h1.2 k a6]
    · rw [P4_k (by decide) (by decide) (by decide) (by decide), e2, up_eq, upd_eq]
    · rw [P4_k (by decide) (by decide) (by decide) (by decide), e2, up_eq, upd_ne _ _ _ (by decide), h18]
    · rw [P4_c (by decide), P4_c (by decide), P4_c (by decide), e2, up_ne _ _ _ (by decide), up_ne _ _ _ (by decide), up_ne _ _ _ (by decide)]
      exact hk t ht
  cases R with
  | inl e =>
    obtain ⟨hw, t, l, e4⟩ := h
    obtain ⟨a, b, c, d, e'⟩ := key t l _ e4
    exact ⟨a, b, c, d, hw, e'⟩
  | inr q =>
    obtain ⟨hw, t, l, e4⟩ := h
    obtain ⟨a, b, c, d, e'⟩ := key t l _ e4
    exact ⟨a, b, c, d, hw, e'⟩
theorem m_reads_law (hz : Sh z) (hL : L ≤ 400) (hT : ∀ k, T k < 256) (hw : WRD f) (h65 : ∀ k, k < L → f 65 k = sgb (T k)) (h13 : f 58 13 = wI L) (h10 : f 58 10 = bz (false = true)) (h8 : f 58 8 = wI 8) (h9 : f 58 9 = wI 16) {d : Nat} (hd : 45 ≤ d) : ∃ w f', EC d mM_reads [.ref 58] (mkM f z) = some (some (.int (bz (w = true))), mkM f' z) ∧ RR T L (pText (cdT T L) (pLawC (cdT T L) (vlT T L)) (nT T L) 12 0 0 0) f w f' := by
  obtain ⟨d, rfl⟩ : ∃ e, d = e + 1 := ⟨d - 1, by omega⟩
  obtain ⟨f1, i1, i2, i3, i4⟩ := m_splits hz hL hT hw h65 (d := d) (by omega)
  let f2 : Nat → Nat → Int32 := up f1 58 (upd (f1 58) 13 0)
  have hM : up f1 58 (upd (upd (upd (upd (f1 58) 13 0) 19 0) 20 0) 21 (-1)) = MP f2 0 0 (-1) := by
    unfold MP
    show _ = up (up f1 58 (upd (f1 58) 13 0)) 58 _
    rw [up_up, show f2 58 = upd (f1 58) 13 0 from up_eq _ _ _]
    rfl
  have f2k : ∀ k, k ≠ 13 → k ≠ 18 → f2 58 k = f 58 k := fun k a b => by
    show up f1 58 (upd (f1 58) 13 0) 58 k = _
    rw [up_eq, upd_ne _ _ _ a, i2.2 k b]
  have hm : MTk T L false f2 := by
    refine ⟨fun t ht => ?_, hL, hT, fun t => ?_, ?_, ?_, ?_⟩
    · show up f1 58 (upd (f1 58) 13 0) 67 t = _ ∧ up f1 58 (upd (f1 58) 13 0) 68 t = _ ∧ up f1 58 (upd (f1 58) 13 0) 69 t = _
      rw [up_ne _ _ _ (by decide), up_ne _ _ _ (by decide), up_ne _ _ _ (by decide)]
      exact i4 t (by omega)
    · have := vlT_le (T := T) (L := L) (t := t) hT
      omega
    · rw [f2k 10 (by decide) (by decide), h10]
    · rw [f2k 8 (by decide) (by decide), h8]; rfl
    · rw [f2k 9 (by decide) (by decide), h9]; rfl
  have h18 : f2 58 18 = wI (nT T L) := by
    show up f1 58 (upd (f1 58) 13 0) 58 18 = _
    rw [up_eq, upd_ne _ _ _ (by decide), i3]
  obtain ⟨f3, j1, j2⟩ := m_one_law hz hm (d := d) (by omega) (c := 0) (t := 0) (l := 0) (Nat.zero_le _) (by decide)
  obtain ⟨w, f4, k1, k2⟩ := m_text_law hz hm h18 (d := d) (by omega) 11 1 0 0 0 f3 (by decide) (Nat.zero_le _) (by decide) j2
  rw [show wI 1 = (1 : Int32) from rfl] at k1
  refine ⟨w, f4, ?_, RR_of i2 i3 i4 rfl k2⟩
  rw [q_M_reads]
  simp -dsimp (disch := omega) only [↓c_58 hz, g_58_0 hz, p_58_0 hz, r_58_1 hz, r_58_2 hz, r_58_3 hz, r_58_4 hz, r_58_5 hz, g_58_6 hz, p_58_6 hz, r_58_7 hz, g_58_8 hz, p_58_8 hz, g_58_9 hz, p_58_9 hz, g_58_10 hz, p_58_10 hz, r_58_11 hz, r_58_12 hz, g_58_13 hz, p_58_13 hz, g_58_14 hz, p_58_14 hz, r_58_15 hz, r_58_16 hz, r_58_17 hz, g_58_18 hz, p_58_18 hz, g_58_19 hz, p_58_19 hz, g_58_20 hz, p_58_20 hz, g_58_21 hz, p_58_21 hz, g_58_22 hz, p_58_22 hz, g_58_23 hz, p_58_23 hz, g_58_24 hz, p_58_24 hz, g_58_25 hz, p_58_25 hz, r_58_26 hz, g_58_27 hz, p_58_27 hz, g_58_28 hz, p_58_28 hz, r_58_29 hz, r_58_30 hz, g_58_31 hz, p_58_31 hz, r_58_32 hz, r_58_33 hz, r_58_34 hz, r_58_35 hz, r_58_36 hz, r_58_37 hz, g_58_38 hz, p_58_38 hz, r_58_39 hz, r_58_40 hz, r_58_41 hz, g_58_42 hz, p_58_42 hz, g_58_43 hz, p_58_43 hz, g_58_44 hz, p_58_44 hz, g_58_45 hz, p_58_45 hz, g_58_46 hz, p_58_46 hz, g_58_47 hz, p_58_47 hz, g_58_48 hz, p_58_48 hz, r_58_49 hz, r_58_50 hz, r_58_51 hz, r_58_52 hz, g_58_53 hz, p_58_53 hz, g_58_54 hz, p_58_54 hz, g_58_55 hz, p_58_55 hz, l_59 hz, s_59 hz, n_59 hz, l_60 hz, s_60 hz, n_60 hz, l_61 hz, s_61 hz, n_61 hz, l_62 hz, s_62 hz, n_62 hz, l_63 hz, s_63 hz, n_63 hz, l_64 hz, s_64 hz, n_64 hz, l_65 hz, s_65 hz, n_65 hz, l_66 hz, s_66 hz, n_66 hz, l_67 hz, s_67 hz, n_67 hz, l_68 hz, s_68 hz, n_68 hz, l_69 hz, s_69 hz, n_69 hz, l_70 hz, s_70 hz, n_70 hz, l_71 hz, s_71 hz, n_71 hz, l_72 hz, s_72 hz, n_72 hz, l_73 hz, s_73 hz, n_73 hz, l_74 hz, s_74 hz, n_74 hz, l_75 hz, s_75 hz, n_75 hz, l_76 hz, s_76 hz, n_76 hz, l_77 hz, s_77 hz, n_77 hz, l_78 hz, s_78 hz, n_78 hz, l_79 hz, s_79 hz, n_79 hz, l_80 hz, s_80 hz, n_80 hz, l_81 hz, s_81 hz, n_81 hz, l_82 hz, s_82 hz, l_83 hz, s_83 hz, n_83 hz, l_84 hz, s_84 hz, n_84 hz, l_85 hz, s_85 hz, n_85 hz, hO_s, hI_s, hL_s, hQ_s, hQ_n, hR_s, hV_s, hN_n, hN_s, cond_true, lI_0, lI_1, sI_0, sI_1, lL_0, lL_1, ↓reduceIte, not_true_eq_false, not_false_eq_true, Nat.reduceEqDiff, Nat.reduceAdd, Nat.reduceMul, Nat.reduceSub, Nat.reduceLeDiff, Nat.reduceLT, h13, i1, up_up, up_eq, hM, j1, k1]
theorem m_readsAs_law (hz : Sh z) (hL : L ≤ 400) (hT : ∀ k, T k < 256) (hw : WRD f) (h65 : ∀ k, k < L → f 65 k = sgb (T k)) (h13 : f 58 13 = wI L) {d : Nat} (hd : 46 ≤ d) : ∃ w f', EC d mM_readsAs [.ref 58, .int 0] (mkM f z) = some (some (.int (bz (w = true))), mkM f' z) ∧ RR T L (pText (cdT T L) (pLawC (cdT T L) (vlT T L)) (nT T L) 12 0 0 0) f w f' := by
  obtain ⟨d, rfl⟩ : ∃ e, d = e + 1 := ⟨d - 1, by omega⟩
  have e1 : ((1 : Int32) = 0) = False := eq_false (by decide)
  let f1 : Nat → Nat → Int32 := up f 58 (upd (upd (upd (f 58) 10 0) 8 (wI 8)) 9 (wI 16))
  have f1c : ∀ a, a ≠ 58 → f1 a = f a := fun a h => up_ne _ _ _ h
  have f1k : ∀ k, k ≠ 8 → k ≠ 9 → k ≠ 10 → f1 58 k = f 58 k := fun k a b c => by
    show up f 58 _ 58 k = _
    rw [up_eq, upd_ne _ _ _ b, upd_ne _ _ _ a, upd_ne _ _ _ c]
  obtain ⟨w, f', i1, i2⟩ := m_reads_law (f := f1) hz hL hT (fun j hj => by rw [f1c _ (by decide)]; exact hw j hj) (fun j hj => by rw [f1c _ (by decide)]; exact h65 j hj) (by rw [f1k _ (by decide) (by decide) (by decide)]; exact h13) (by show up f 58 _ 58 10 = _; rw [up_eq, upd_ne _ _ _ (by decide), upd_ne _ _ _ (by decide), upd_eq]; rfl) (by show up f 58 _ 58 8 = _; rw [up_eq, upd_ne _ _ _ (by decide), upd_eq]) (by show up f 58 _ 58 9 = _; rw [up_eq, upd_eq]) (d := d) (by omega)
  have i1' : EC d mM_reads [.ref 58] (mkM (up f 58 (upd (upd (upd (f 58) 10 0) 8 (wI 8)) 9 (wI 16))) z) = some (some (.int (bz (w = true))), mkM f' z) := i1
  obtain ⟨⟨r1, r2⟩, r3⟩ := i2
  refine ⟨w, f', ?_, ⟨fun a a1 a2 a3 a4 => by rw [r1 a a1 a2 a3 a4, f1c a a1], fun k a1 a2 a3 a4 a5 a6 a7 a8 a9 => by rw [r2 k a1 a2 a3 a4 a5 a6 a7 a8 a9, f1k k a1 a2 a3]⟩, r3⟩
  rw [q_M_readsAs]
  simp -dsimp (disch := omega) only [↓c_58 hz, g_58_0 hz, p_58_0 hz, r_58_1 hz, r_58_2 hz, r_58_3 hz, r_58_4 hz, r_58_5 hz, g_58_6 hz, p_58_6 hz, r_58_7 hz, g_58_8 hz, p_58_8 hz, g_58_9 hz, p_58_9 hz, g_58_10 hz, p_58_10 hz, r_58_11 hz, r_58_12 hz, g_58_13 hz, p_58_13 hz, g_58_14 hz, p_58_14 hz, r_58_15 hz, r_58_16 hz, r_58_17 hz, g_58_18 hz, p_58_18 hz, g_58_19 hz, p_58_19 hz, g_58_20 hz, p_58_20 hz, g_58_21 hz, p_58_21 hz, g_58_22 hz, p_58_22 hz, g_58_23 hz, p_58_23 hz, g_58_24 hz, p_58_24 hz, g_58_25 hz, p_58_25 hz, r_58_26 hz, g_58_27 hz, p_58_27 hz, g_58_28 hz, p_58_28 hz, r_58_29 hz, r_58_30 hz, g_58_31 hz, p_58_31 hz, r_58_32 hz, r_58_33 hz, r_58_34 hz, r_58_35 hz, r_58_36 hz, r_58_37 hz, g_58_38 hz, p_58_38 hz, r_58_39 hz, r_58_40 hz, r_58_41 hz, g_58_42 hz, p_58_42 hz, g_58_43 hz, p_58_43 hz, g_58_44 hz, p_58_44 hz, g_58_45 hz, p_58_45 hz, g_58_46 hz, p_58_46 hz, g_58_47 hz, p_58_47 hz, g_58_48 hz, p_58_48 hz, r_58_49 hz, r_58_50 hz, r_58_51 hz, r_58_52 hz, g_58_53 hz, p_58_53 hz, g_58_54 hz, p_58_54 hz, g_58_55 hz, p_58_55 hz, l_59 hz, s_59 hz, n_59 hz, l_60 hz, s_60 hz, n_60 hz, l_61 hz, s_61 hz, n_61 hz, l_62 hz, s_62 hz, n_62 hz, l_63 hz, s_63 hz, n_63 hz, l_64 hz, s_64 hz, n_64 hz, l_65 hz, s_65 hz, n_65 hz, l_66 hz, s_66 hz, n_66 hz, l_67 hz, s_67 hz, n_67 hz, l_68 hz, s_68 hz, n_68 hz, l_69 hz, s_69 hz, n_69 hz, l_70 hz, s_70 hz, n_70 hz, l_71 hz, s_71 hz, n_71 hz, l_72 hz, s_72 hz, n_72 hz, l_73 hz, s_73 hz, n_73 hz, l_74 hz, s_74 hz, n_74 hz, l_75 hz, s_75 hz, n_75 hz, l_76 hz, s_76 hz, n_76 hz, l_77 hz, s_77 hz, n_77 hz, l_78 hz, s_78 hz, n_78 hz, l_79 hz, s_79 hz, n_79 hz, l_80 hz, s_80 hz, n_80 hz, l_81 hz, s_81 hz, n_81 hz, l_82 hz, s_82 hz, l_83 hz, s_83 hz, n_83 hz, l_84 hz, s_84 hz, n_84 hz, l_85 hz, s_85 hz, n_85 hz, hO_s, hI_s, hL_s, hQ_s, hQ_n, hR_s, hV_s, hN_n, hN_s, cond_true, lI_0, lI_1, sI_0, sI_1, lL_0, lL_1, ↓reduceIte, not_true_eq_false, not_false_eq_true, Nat.reduceEqDiff, Nat.reduceAdd, Nat.reduceMul, Nat.reduceSub, Nat.reduceLeDiff, Nat.reduceLT, li_2, li_3, li_4, li_5, li_6, li_7, li_8, li_9, li_10, li_11, li_12, li_13, li_14, li_15, li_16, li_17, li_18, li_19, li_20, li_21, li_22, li_23, li_24, li_25, li_26, li_27, li_28, li_29, li_30, li_31, li_32, li_33, li_34, li_35, li_36, li_37, li_38, li_39, li_40, li_41, li_42, li_43, li_44, li_45, li_46, li_47, li_48, li_49, li_50, li_51, li_52, li_53, li_54, li_55, li_56, li_57, li_58, li_59, li_60, li_61, li_62, li_63, li_64, li_65, li_66, li_67, li_68, li_69, li_70, li_71, li_72, li_73, li_74, li_75, li_76, li_77, li_78, li_79, li_80, li_81, li_82, li_83, li_84, li_85, li_86, li_87, li_88, li_89, li_90, li_91, li_92, li_93, li_94, li_95, li_96, li_97, li_98, li_99, li_100, li_101, li_102, li_103, li_104, li_105, li_106, li_107, li_108, li_109, li_110, li_111, li_112, li_113, li_114, li_115, li_116, li_117, li_118, li_119, li_120, li_121, li_122, li_255, li_400, li_608, li_998, li_999, li_1000, li_1024, li_1103, li_2400, li_2911, li_4095, li_4096, li_5711, li_9999, li_12345, li_1000000, li_1000003, li_252645135, li_858993459, li_1431655765, okZ_0, okZ_1, okZ_bz, e1, eq_self, up_up, up_eq, i1']
theorem m_reads_ord (hz : Sh z) (hL : L ≤ 400) (hT : ∀ k, T k < 256) (hw : WRD f) (h65 : ∀ k, k < L → f 65 k = sgb (T k)) (h13 : f 58 13 = wI L) (h10 : f 58 10 = bz (true = true)) (h8 : f 58 8 = wI 14) (h9 : f 58 9 = wI 19) {d : Nat} (hd : 45 ≤ d) : ∃ w f', EC d mM_reads [.ref 58] (mkM f z) = some (some (.int (bz (w = true))), mkM f' z) ∧ RR T L (pText (cdT T L) (pOrdC (cdT T L) (vlT T L)) (nT T L) 12 0 0 0) f w f' := by
  obtain ⟨d, rfl⟩ : ∃ e, d = e + 1 := ⟨d - 1, by omega⟩
  obtain ⟨f1, i1, i2, i3, i4⟩ := m_splits hz hL hT hw h65 (d := d) (by omega)
  let f2 : Nat → Nat → Int32 := up f1 58 (upd (f1 58) 13 0)
  have hM : up f1 58 (upd (upd (upd (upd (f1 58) 13 0) 19 0) 20 0) 21 (-1)) = MP f2 0 0 (-1) := by
    unfold MP
    show _ = up (up f1 58 (upd (f1 58) 13 0)) 58 _
    rw [up_up, show f2 58 = upd (f1 58) 13 0 from up_eq _ _ _]
    rfl
  have f2k : ∀ k, k ≠ 13 → k ≠ 18 → f2 58 k = f 58 k := fun k a b => by
    show up f1 58 (upd (f1 58) 13 0) 58 k = _
    rw [up_eq, upd_ne _ _ _ a, i2.2 k b]
  have hm : MTk T L true f2 := by
    refine ⟨fun t ht => ?_, hL, hT, fun t => ?_, ?_, ?_, ?_⟩
    · show up f1 58 (upd (f1 58) 13 0) 67 t = _ ∧ up f1 58 (upd (f1 58) 13 0) 68 t = _ ∧ up f1 58 (upd (f1 58) 13 0) 69 t = _
      rw [up_ne _ _ _ (by decide), up_ne _ _ _ (by decide), up_ne _ _ _ (by decide)]
      exact i4 t (by omega)
    · have := vlT_le (T := T) (L := L) (t := t) hT
      omega
    · rw [f2k 10 (by decide) (by decide), h10]
    · rw [f2k 8 (by decide) (by decide), h8]; rfl
    · rw [f2k 9 (by decide) (by decide), h9]; rfl
  have h18 : f2 58 18 = wI (nT T L) := by
    show up f1 58 (upd (f1 58) 13 0) 58 18 = _
    rw [up_eq, upd_ne _ _ _ (by decide), i3]
  obtain ⟨f3, j1, j2⟩ := m_one_ord hz hm (d := d) (by omega) (c := 0) (t := 0) (l := 0) (Nat.zero_le _) (by decide)
  obtain ⟨w, f4, k1, k2⟩ := m_text_ord hz hm h18 (d := d) (by omega) 11 1 0 0 0 f3 (by decide) (Nat.zero_le _) (by decide) j2
  rw [show wI 1 = (1 : Int32) from rfl] at k1
  refine ⟨w, f4, ?_, RR_of i2 i3 i4 rfl k2⟩
  rw [q_M_reads]
  simp -dsimp (disch := omega) only [↓c_58 hz, g_58_0 hz, p_58_0 hz, r_58_1 hz, r_58_2 hz, r_58_3 hz, r_58_4 hz, r_58_5 hz, g_58_6 hz, p_58_6 hz, r_58_7 hz, g_58_8 hz, p_58_8 hz, g_58_9 hz, p_58_9 hz, g_58_10 hz, p_58_10 hz, r_58_11 hz, r_58_12 hz, g_58_13 hz, p_58_13 hz, g_58_14 hz, p_58_14 hz, r_58_15 hz, r_58_16 hz, r_58_17 hz, g_58_18 hz, p_58_18 hz, g_58_19 hz, p_58_19 hz, g_58_20 hz, p_58_20 hz, g_58_21 hz, p_58_21 hz, g_58_22 hz, p_58_22 hz, g_58_23 hz, p_58_23 hz, g_58_24 hz, p_58_24 hz, g_58_25 hz, p_58_25 hz, r_58_26 hz, g_58_27 hz, p_58_27 hz, g_58_28 hz, p_58_28 hz, r_58_29 hz, r_58_30 hz, g_58_31 hz, p_58_31 hz, r_58_32 hz, r_58_33 hz, r_58_34 hz, r_58_35 hz, r_58_36 hz, r_58_37 hz, g_58_38 hz, p_58_38 hz, r_58_39 hz, r_58_40 hz, r_58_41 hz, g_58_42 hz, p_58_42 hz, g_58_43 hz, p_58_43 hz, g_58_44 hz, p_58_44 hz, g_58_45 hz, p_58_45 hz, g_58_46 hz, p_58_46 hz, g_58_47 hz, p_58_47 hz, g_58_48 hz, p_58_48 hz, r_58_49 hz, r_58_50 hz, r_58_51 hz, r_58_52 hz, g_58_53 hz, p_58_53 hz, g_58_54 hz, p_58_54 hz, g_58_55 hz, p_58_55 hz, l_59 hz, s_59 hz, n_59 hz, l_60 hz, s_60 hz, n_60 hz, l_61 hz, s_61 hz, n_61 hz, l_62 hz, s_62 hz, n_62 hz, l_63 hz, s_63 hz, n_63 hz, l_64 hz, s_64 hz, n_64 hz, l_65 hz, s_65 hz, n_65 hz, l_66 hz, s_66 hz, n_66 hz, l_67 hz, s_67 hz, n_67 hz, l_68 hz, s_68 hz, n_68 hz, l_69 hz, s_69 hz, n_69 hz, l_70 hz, s_70 hz, n_70 hz, l_71 hz, s_71 hz, n_71 hz, l_72 hz, s_72 hz, n_72 hz, l_73 hz, s_73 hz, n_73 hz, l_74 hz, s_74 hz, n_74 hz, l_75 hz, s_75 hz, n_75 hz, l_76 hz, s_76 hz, n_76 hz, l_77 hz, s_77 hz, n_77 hz, l_78 hz, s_78 hz, n_78 hz, l_79 hz, s_79 hz, n_79 hz, l_80 hz, s_80 hz, n_80 hz, l_81 hz, s_81 hz, n_81 hz, l_82 hz, s_82 hz, l_83 hz, s_83 hz, n_83 hz, l_84 hz, s_84 hz, n_84 hz, l_85 hz, s_85 hz, n_85 hz, hO_s, hI_s, hL_s, hQ_s, hQ_n, hR_s, hV_s, hN_n, hN_s, cond_true, lI_0, lI_1, sI_0, sI_1, lL_0, lL_1, ↓reduceIte, not_true_eq_false, not_false_eq_true, Nat.reduceEqDiff, Nat.reduceAdd, Nat.reduceMul, Nat.reduceSub, Nat.reduceLeDiff, Nat.reduceLT, h13, i1, up_up, up_eq, hM, j1, k1]
theorem m_readsAs_ord (hz : Sh z) (hL : L ≤ 400) (hT : ∀ k, T k < 256) (hw : WRD f) (h65 : ∀ k, k < L → f 65 k = sgb (T k)) (h13 : f 58 13 = wI L) {d : Nat} (hd : 46 ≤ d) : ∃ w f', EC d mM_readsAs [.ref 58, .int 1] (mkM f z) = some (some (.int (bz (w = true))), mkM f' z) ∧ RR T L (pText (cdT T L) (pOrdC (cdT T L) (vlT T L)) (nT T L) 12 0 0 0) f w f' := by
  obtain ⟨d, rfl⟩ : ∃ e, d = e + 1 := ⟨d - 1, by omega⟩
  have e1 : ((1 : Int32) = 0) = False := eq_false (by decide)
  let f1 : Nat → Nat → Int32 := up f 58 (upd (upd (upd (f 58) 10 1) 8 (wI 14)) 9 (wI 19))
  have f1c : ∀ a, a ≠ 58 → f1 a = f a := fun a h => up_ne _ _ _ h
  have f1k : ∀ k, k ≠ 8 → k ≠ 9 → k ≠ 10 → f1 58 k = f 58 k := fun k a b c => by
    show up f 58 _ 58 k = _
    rw [up_eq, upd_ne _ _ _ b, upd_ne _ _ _ a, upd_ne _ _ _ c]
  obtain ⟨w, f', i1, i2⟩ := m_reads_ord (f := f1) hz hL hT (fun j hj => by rw [f1c _ (by decide)]; exact hw j hj) (fun j hj => by rw [f1c _ (by decide)]; exact h65 j hj) (by rw [f1k _ (by decide) (by decide) (by decide)]; exact h13) (by show up f 58 _ 58 10 = _; rw [up_eq, upd_ne _ _ _ (by decide), upd_ne _ _ _ (by decide), upd_eq]; rfl) (by show up f 58 _ 58 8 = _; rw [up_eq, upd_ne _ _ _ (by decide), upd_eq]) (by show up f 58 _ 58 9 = _; rw [up_eq, upd_eq]) (d := d) (by omega)
  have i1' : EC d mM_reads [.ref 58] (mkM (up f 58 (upd (upd (upd (f 58) 10 1) 8 (wI 14)) 9 (wI 19))) z) = some (some (.int (bz (w = true))), mkM f' z) := i1
  obtain ⟨⟨r1, r2⟩, r3⟩ := i2
  refine ⟨w, f', ?_, ⟨fun a a1 a2 a3 a4 => by rw [r1 a a1 a2 a3 a4, f1c a a1], fun k a1 a2 a3 a4 a5 a6 a7 a8 a9 => by rw [r2 k a1 a2 a3 a4 a5 a6 a7 a8 a9, f1k k a1 a2 a3]⟩, r3⟩
  rw [q_M_readsAs]
  simp -dsimp (disch := omega) only [↓c_58 hz, g_58_0 hz, p_58_0 hz, r_58_1 hz, r_58_2 hz, r_58_3 hz, r_58_4 hz, r_58_5 hz, g_58_6 hz, p_58_6 hz, r_58_7 hz, g_58_8 hz, p_58_8 hz, g_58_9 hz, p_58_9 hz, g_58_10 hz, p_58_10 hz, r_58_11 hz, r_58_12 hz, g_58_13 hz, p_58_13 hz, g_58_14 hz, p_58_14 hz, r_58_15 hz, r_58_16 hz, r_58_17 hz, g_58_18 hz, p_58_18 hz, g_58_19 hz, p_58_19 hz, g_58_20 hz, p_58_20 hz, g_58_21 hz, p_58_21 hz, g_58_22 hz, p_58_22 hz, g_58_23 hz, p_58_23 hz, g_58_24 hz, p_58_24 hz, g_58_25 hz, p_58_25 hz, r_58_26 hz, g_58_27 hz, p_58_27 hz, g_58_28 hz, p_58_28 hz, r_58_29 hz, r_58_30 hz, g_58_31 hz, p_58_31 hz, r_58_32 hz, r_58_33 hz, r_58_34 hz, r_58_35 hz, r_58_36 hz, r_58_37 hz, g_58_38 hz, p_58_38 hz, r_58_39 hz, r_58_40 hz, r_58_41 hz, g_58_42 hz, p_58_42 hz, g_58_43 hz, p_58_43 hz, g_58_44 hz, p_58_44 hz, g_58_45 hz, p_58_45 hz, g_58_46 hz, p_58_46 hz, g_58_47 hz, p_58_47 hz, g_58_48 hz, p_58_48 hz, r_58_49 hz, r_58_50 hz, r_58_51 hz, r_58_52 hz, g_58_53 hz, p_58_53 hz, g_58_54 hz, p_58_54 hz, g_58_55 hz, p_58_55 hz, l_59 hz, s_59 hz, n_59 hz, l_60 hz, s_60 hz, n_60 hz, l_61 hz, s_61 hz, n_61 hz, l_62 hz, s_62 hz, n_62 hz, l_63 hz, s_63 hz, n_63 hz, l_64 hz, s_64 hz, n_64 hz, l_65 hz, s_65 hz, n_65 hz, l_66 hz, s_66 hz, n_66 hz, l_67 hz, s_67 hz, n_67 hz, l_68 hz, s_68 hz, n_68 hz, l_69 hz, s_69 hz, n_69 hz, l_70 hz, s_70 hz, n_70 hz, l_71 hz, s_71 hz, n_71 hz, l_72 hz, s_72 hz, n_72 hz, l_73 hz, s_73 hz, n_73 hz, l_74 hz, s_74 hz, n_74 hz, l_75 hz, s_75 hz, n_75 hz, l_76 hz, s_76 hz, n_76 hz, l_77 hz, s_77 hz, n_77 hz, l_78 hz, s_78 hz, n_78 hz, l_79 hz, s_79 hz, n_79 hz, l_80 hz, s_80 hz, n_80 hz, l_81 hz, s_81 hz, n_81 hz, l_82 hz, s_82 hz, l_83 hz, s_83 hz, n_83 hz, l_84 hz, s_84 hz, n_84 hz, l_85 hz, s_85 hz, n_85 hz, hO_s, hI_s, hL_s, hQ_s, hQ_n, hR_s, hV_s, hN_n, hN_s, cond_true, lI_0, lI_1, sI_0, sI_1, lL_0, lL_1, ↓reduceIte, not_true_eq_false, not_false_eq_true, Nat.reduceEqDiff, Nat.reduceAdd, Nat.reduceMul, Nat.reduceSub, Nat.reduceLeDiff, Nat.reduceLT, li_2, li_3, li_4, li_5, li_6, li_7, li_8, li_9, li_10, li_11, li_12, li_13, li_14, li_15, li_16, li_17, li_18, li_19, li_20, li_21, li_22, li_23, li_24, li_25, li_26, li_27, li_28, li_29, li_30, li_31, li_32, li_33, li_34, li_35, li_36, li_37, li_38, li_39, li_40, li_41, li_42, li_43, li_44, li_45, li_46, li_47, li_48, li_49, li_50, li_51, li_52, li_53, li_54, li_55, li_56, li_57, li_58, li_59, li_60, li_61, li_62, li_63, li_64, li_65, li_66, li_67, li_68, li_69, li_70, li_71, li_72, li_73, li_74, li_75, li_76, li_77, li_78, li_79, li_80, li_81, li_82, li_83, li_84, li_85, li_86, li_87, li_88, li_89, li_90, li_91, li_92, li_93, li_94, li_95, li_96, li_97, li_98, li_99, li_100, li_101, li_102, li_103, li_104, li_105, li_106, li_107, li_108, li_109, li_110, li_111, li_112, li_113, li_114, li_115, li_116, li_117, li_118, li_119, li_120, li_121, li_122, li_255, li_400, li_608, li_998, li_999, li_1000, li_1024, li_1103, li_2400, li_2911, li_4095, li_4096, li_5711, li_9999, li_12345, li_1000000, li_1000003, li_252645135, li_858993459, li_1431655765, okZ_0, okZ_1, okZ_bz, e1, eq_self, up_up, up_eq, i1']
end
