/-! ===== years ===== -/
noncomputable def yrS (M : Nat → Nat) (s p : Nat) : (Nat → Nat) × Nat := match dCall M (wI s) with
  | .inr q => (q.2, 1)
  | .inl _ => (nxN M (dGive M (wI s) (wI p)), 0)
noncomputable def yrR : Nat → (Nat → Nat) → Nat → Nat → (Nat → Nat) × Nat
  | 0, M, _, c => (M, c)
  | m + 1, M, dr, c => if 999 ≤ M 36 then (M, c) else yrR m (passN (yrS M (nxD dr % M 100) (nxD (nxD dr) % M 99)).1) (nxD (nxD dr)) (c + (yrS M (nxD dr % M 100) (nxD (nxD dr) % M 99)).2)
theorem nx_ok {M : Nat → Nat} (hv : VK M) {k : Nat} (hk : k ≤ 2) {a p : Int32} : VK (nxN M (doD M k a p)) ∧ (∀ j, 37 ≤ j → nxN M (doD M k a p) j = M j) ∧ nxN M (doD M k a p) 36 = M 36 := by
  cases hD : doD M k a p with
  | inl e => exact ⟨hv, fun _ _ => rfl, rfl⟩
  | inr q =>
    obtain ⟨v, X⟩ := q
    obtain ⟨w1, w2, w3, w4, w5⟩ := doD_inr hv hD
    obtain ⟨s, s1, s2, s3⟩ := w4 hk
    have h100 := hv.2.2.1
    have := VK_ow hv (s := s) (by omega)
    exact ⟨w2, w3, s3 36 (by omega) (by omega) (by omega) (by omega) (by omega)⟩
theorem yrS_ok {M : Nat → Nat} (hv : VK M) (s p : Nat) : VK (yrS M s p).1 ∧ (∀ j, 37 ≤ j → (yrS M s p).1 j = M j) ∧ (yrS M s p).1 36 = M 36 ∧ (yrS M s p).2 ≤ 1 := by
  have h1 := nx_ok hv (k := 1) (by decide) (a := wI s) (p := 0)
  have h0 := nx_ok hv (k := 0) (by decide) (a := wI s) (p := wI p)
  have e1 : doD M 1 (wI s) 0 = dCall M (wI s) := rfl
  have e0 : doD M 0 (wI s) (wI p) = dGive M (wI s) (wI p) := rfl
  rw [e1] at h1
  rw [e0] at h0
  unfold yrS
  cases hD : dCall M (wI s) with
  | inl e => exact ⟨h0.1, h0.2.1, h0.2.2, Nat.zero_le _⟩
  | inr q =>
    rw [hD] at h1
    exact ⟨h1.1, h1.2.1, h1.2.2, Nat.le_refl _⟩
section
variable {z : Mem} {S : Nat} {xs : Nat → Int32} {f f' : Nat → Nat → Int32} {N N' M : Nat → Nat} {U : US} {Z : Nat → Option (Nat → Nat)} {T : Nat → Nat} {L : Nat} {c : Nat → Int32} {d : Nat}
theorem IY_kh (h : IY S xs f z N U Z T L c) {k : Nat} (hk : k < 3) (hZ : Z k = some M) : ∃ b, rfC f k = wI b ∧ 86 ≤ b ∧ b < 100000 ∧ bOK b ∧ KH f z b M := by
  obtain ⟨a1, a2, a3, a4, a5, a6, ⟨B, g1, g2⟩, a8, a9⟩ := h
  have hB := g1 k hk
  rw [hZ] at hB
  have := Ch_lt a2 hB.2.2.1
  have := a2.1.2
  exact ⟨B k, hB.1, hB.2.1, by omega, ⟨by have := hB.2.1; omega, by omega, Or.inr hB.2.1⟩, hB.2.2⟩
/-- a deed in the chest of place k -/
theorem IY_dx (h : IY S xs f z N U Z T L c) {k b : Nat} (hk : k < 3) (hZ : Z k = some M) (hr : rfC f k = wI b) (h86 : 86 ≤ b) (hb : b < 100000) {M' : Nat → Nat} (hd : DX b f f') (hK : KH f' z b M') : IY S xs f' z N U (upZ Z k (some M')) T L c ∧ (∀ a, a < 86 → a ≠ 38 → a ≠ 39 → f' a = f a) := by
  obtain ⟨a1, a2, a3, a4, a5, a6, ⟨B, g1, g2⟩, a8, a9⟩ := h
  have hB := g1 k hk
  rw [hZ] at hB
  have hlt := Ch_lt a2 hB.2.2.1
  have hzl := a2.1.2
  have eb : B k = b := by
    have := hB.1
    rw [hr, wI_eq (by omega) (by omega)] at this
    exact this.symm
  have hlo : ∀ a, a < 86 → a ≠ 38 → a ≠ 39 → f' a = f a := fun a h1 h2 h3 => hd.1 a h2 h3 (by omega)
  have hrf : ∀ i, rfC f' i = rfC f i := fun i => by unfold rfC; rw [hlo 27 (by decide) (by decide) (by decide), hlo 0 (by decide) (by decide) (by decide)]
  refine ⟨⟨a1, a2, KH_oth a3 hK.1 (by omega) bOK_1 hd.1, DX_RI a4 hd, UX_c a5 (hlo 28 (by decide) (by decide) (by decide)) (hlo 29 (by decide) (by decide) (by decide)) (fun _ _ => rfl), a6, ⟨B, fun i hi => ?_, fun i j hi hj hij zi zj => ?_⟩, ?_, CX_s a9 (hlo 0 (by decide) (by decide) (by decide)) (hlo 57 (by decide) (by decide) (by decide))⟩, hlo⟩
  · by_cases e : i = k
    · subst e
      rw [upZ_eq, eb]
      exact ⟨by rw [hrf]; exact hr, h86, hK⟩
    · rw [upZ_ne e]
      have hi' := g1 i hi
      cases hZi : Z i with
      | none => rw [hZi] at hi'; show rfC f' i = 0; rw [hrf]; exact hi'
      | some M' =>
        rw [hZi] at hi'
        obtain ⟨c1, c2, c3⟩ := hi'
        have := Ch_lt a2 c3.1
        exact ⟨by rw [hrf]; exact c1, c2, KH_oth c3 hK.1 (by rw [← eb]; exact g2 k i hk hi (fun h => e h.symm) (by rw [hZ]; exact fun h => by cases h) (by rw [hZi]; exact fun h => by cases h)) ⟨by omega, by omega, by omega⟩ hd.1⟩
  · refine g2 i j hi hj hij ?_ ?_
    · by_cases e : i = k
      · rw [e, hZ]; exact fun h => by cases h
      · rw [upZ_ne e] at zi; exact zi
    · by_cases e : j = k
      · rw [e, hZ]; exact fun h => by cases h
      · rw [upZ_ne e] at zj; exact zj
  · unfold TP; rw [hlo 0 (by decide) (by decide) (by decide), hlo 32 (by decide) (by decide) (by decide)]; exact a8
theorem upZ_up {k : Nat} {A B : Option (Nat → Nat)} : upZ (upZ Z k A) k B = upZ Z k B := by
  funext i
  unfold upZ
  split <;> rfl
theorem QX_lo (h : ∀ a, a < 86 → a ≠ 38 → a ≠ 39 → f' a = f a) : QX f f' := fun a ha => h a (by omega) (by omega) (by omega)
theorem x_yr_L {d : Nat} (hd : 20 ≤ d) {n : Nat} (hn : n ≤ 60) : ∀ (m day : Nat) (M : Nat → Nat) (dr cl : Nat) (f : Nat → Nat → Int32) (Z : Nat → Option (Nat → Nat)), day + m = n → dr ≤ 1000003 → cl ≤ day → Z 2 = some M → VK M → 1 ≤ M 100 → 1 ≤ M 99 → IY S xs f z N U Z T L c →
    ∃ f', Ev (d + 1) mX_years 92 [(0, .ref 0), (2, .int (wI n)), (3, .int (wI dr)), (4, .int (wI cl)), (5, .int (wI day))] [] (mkM f z) = some (some (.int (wI (yrR m M dr cl).2)), mkM f' z) ∧ IY S xs f' z N U (upZ Z 2 (some (yrR m M dr cl).1)) T L (okC c) ∧ QX f f' ∧ f' 0 13 = 0 := by
  intro m
  induction m with
  | zero =>
    intro day M dr cl f Z hm hdr hcl hZ hv h1 h2 h
    have hz := h.1
    obtain ⟨f3, k1, k2, k3, k4⟩ := x_accept h (d := d) (by omega) (wI cl)
    have eZ : upZ Z 2 (some (yrR 0 M dr cl).1) = Z := by
      funext i
      unfold upZ
      split
      · rename_i e; rw [e, hZ]; rfl
      · rfl
    rw [eZ]
    refine ⟨f3, ?_, k2, k4, k3⟩
    rw [q_X_years_92]
    simp -dsimp (disch := omega) only [↓c_0 hz, r_0_0 hz, r_0_1 hz, r_0_2 hz, v_0_3 hz, w_0_3 hz, p_0_3 hz, r_0_4 hz, r_0_5 hz, r_0_6 hz, g_0_7 hz, p_0_7 hz, r_0_8 hz, r_0_9 hz, r_0_10 hz, r_0_11 hz, r_0_12 hz, g_0_13 hz, p_0_13 hz, g_0_14 hz, p_0_14 hz, g_0_15 hz, p_0_15 hz, g_0_16 hz, p_0_16 hz, g_0_17 hz, p_0_17 hz, g_0_18 hz, p_0_18 hz, r_0_19 hz, ↓c_1 hz, g_1_0 hz, p_1_0 hz, r_1_1 hz, g_1_2 hz, p_1_2 hz, r_1_3 hz, r_1_4 hz, r_1_5 hz, r_1_6 hz, r_1_7 hz, r_1_8 hz, r_1_9 hz, g_1_10 hz, p_1_10 hz, r_1_11 hz, r_1_12 hz, r_1_13 hz, g_1_14 hz, p_1_14 hz, r_1_15 hz, g_1_16 hz, p_1_16 hz, l_2 hz, s_2 hz, n_2 hz, l_3 hz, s_3 hz, n_3 hz, l_4 hz, s_4 hz, n_4 hz, l_5 hz, s_5 hz, n_5 hz, l_6 hz, s_6 hz, n_6 hz, l_7 hz, s_7 hz, n_7 hz, l_8 hz, s_8 hz, n_8 hz, l_9 hz, s_9 hz, n_9 hz, l_10 hz, s_10 hz, n_10 hz, l_11 hz, s_11 hz, n_11 hz, l_12 hz, s_12 hz, n_12 hz, l_13 hz, ↓c_14 hz, g_14_0 hz, p_14_0 hz, r_14_1 hz, g_14_2 hz, p_14_2 hz, r_14_3 hz, r_14_4 hz, r_14_5 hz, r_14_6 hz, r_14_7 hz, r_14_8 hz, r_14_9 hz, g_14_10 hz, p_14_10 hz, r_14_11 hz, r_14_12 hz, r_14_13 hz, g_14_14 hz, p_14_14 hz, r_14_15 hz, g_14_16 hz, p_14_16 hz, l_15 hz, s_15 hz, n_15 hz, l_16 hz, s_16 hz, n_16 hz, l_17 hz, s_17 hz, n_17 hz, l_18 hz, s_18 hz, n_18 hz, l_19 hz, s_19 hz, n_19 hz, l_20 hz, s_20 hz, n_20 hz, l_21 hz, s_21 hz, n_21 hz, l_22 hz, s_22 hz, n_22 hz, l_23 hz, s_23 hz, n_23 hz, l_24 hz, s_24 hz, n_24 hz, l_25 hz, s_25 hz, n_25 hz, l_26 hz, l_27 hz, ↓c_28 hz, r_28_0 hz, g_28_1 hz, p_28_1 hz, g_28_2 hz, p_28_2 hz, l_29 hz, s_29 hz, n_29 hz, ↓c_30 hz, r_30_0 hz, g_30_1 hz, p_30_1 hz, g_30_2 hz, p_30_2 hz, l_31 hz, s_31 hz, n_31 hz, l_32 hz, s_32 hz, n_32 hz, ↓c_33 hz, r_33_0 hz, v_33_1 hz, w_33_1 hz, p_33_1 hz, g_33_2 hz, p_33_2 hz, g_33_3 hz, p_33_3 hz, g_33_4 hz, p_33_4 hz, g_33_5 hz, p_33_5 hz, g_33_6 hz, p_33_6 hz, g_33_7 hz, p_33_7 hz, g_33_8 hz, p_33_8 hz, g_33_9 hz, p_33_9 hz, ↓c_34 hz, g_34_0 hz, p_34_0 hz, g_34_1 hz, p_34_1 hz, r_34_2 hz, r_34_3 hz, l_35 hz, s_35 hz, n_35 hz, l_36 hz, s_36 hz, n_36 hz, ↓c_38 hz, r_38_0 hz, v_38_1 hz, w_38_1 hz, p_38_1 hz, g_38_2 hz, p_38_2 hz, g_38_3 hz, p_38_3 hz, g_38_4 hz, p_38_4 hz, g_38_5 hz, p_38_5 hz, l_39 hz, s_39 hz, n_39 hz, ↓c_40 hz, r_40_0 hz, r_40_1 hz, r_40_2 hz, r_40_3 hz, g_40_4 hz, p_40_4 hz, l_41 hz, s_41 hz, n_41 hz, l_42 hz, s_42 hz, n_42 hz, l_43 hz, s_43 hz, n_43 hz, l_44 hz, s_44 hz, n_44 hz, ↓c_45 hz, r_45_0 hz, r_45_1 hz, r_45_2 hz, r_45_3 hz, r_45_4 hz, g_45_5 hz, p_45_5 hz, l_46 hz, s_46 hz, n_46 hz, l_47 hz, s_47 hz, n_47 hz, l_48 hz, s_48 hz, n_48 hz, l_49 hz, s_49 hz, n_49 hz, l_50 hz, s_50 hz, n_50 hz, ↓c_51 hz, r_51_0 hz, r_51_1 hz, r_51_2 hz, r_51_3 hz, r_51_4 hz, g_51_5 hz, p_51_5 hz, g_51_6 hz, p_51_6 hz, l_52 hz, s_52 hz, n_52 hz, l_53 hz, s_53 hz, n_53 hz, l_54 hz, s_54 hz, n_54 hz, l_55 hz, s_55 hz, n_55 hz, l_56 hz, s_56 hz, n_56 hz, l_57 hz, s_57 hz, n_57 hz, hO_s, hI_s, hL_s, hQ_s, hQ_n, hR_s, hV_s, hN_n, hN_s, cond_true, lI_0, lI_1, sI_0, sI_1, lL_0, lL_1, ↓reduceIte, not_true_eq_false, not_false_eq_true, Nat.reduceEqDiff, Nat.reduceAdd, Nat.reduceMul, Nat.reduceSub, Nat.reduceLeDiff, Nat.reduceLT, li_2, li_3, li_4, li_5, li_6, li_7, li_8, li_9, li_10, li_11, li_12, li_13, li_14, li_15, li_16, li_17, li_18, li_19, li_20, li_21, li_22, li_23, li_24, li_25, li_26, li_27, li_28, li_29, li_30, li_31, li_32, li_33, li_34, li_35, li_36, li_37, li_38, li_39, li_40, li_41, li_42, li_43, li_44, li_45, li_46, li_47, li_48, li_49, li_50, li_51, li_52, li_53, li_54, li_55, li_56, li_57, li_58, li_59, li_60, li_61, li_62, li_63, li_64, li_65, li_66, li_67, li_68, li_69, li_70, li_71, li_72, li_73, li_74, li_75, li_76, li_77, li_78, li_79, li_80, li_81, li_82, li_83, li_84, li_85, li_86, li_87, li_88, li_89, li_90, li_91, li_92, li_93, li_94, li_95, li_96, li_97, li_98, li_99, li_100, li_101, li_102, li_103, li_104, li_105, li_106, li_107, li_108, li_109, li_110, li_111, li_112, li_113, li_114, li_115, li_116, li_117, li_118, li_119, li_120, li_121, li_122, li_255, li_400, li_608, li_998, li_999, li_1000, li_1024, li_1103, li_2400, li_2911, li_4095, li_4096, li_5711, li_9999, li_12345, li_1000000, li_1000003, li_252645135, li_858993459, li_1431655765, wI_add, wI_mul, wI_add1, wI_1add, wI_le, eq_true (show n ≤ day by omega), k1]
    rfl
  | succ m ih =>
    intro day M dr cl f Z hm hdr hcl hZ hv h1 h2 h
    have hz := h.1
    obtain ⟨b, b1, b2, b3, b4, b5⟩ := IY_kh h (k := 2) (by decide) hZ
    have r0 : f 0 3 = wI b := b1
    have cda : f (b + 11) 0 = wI (M 36) := by have hck := b5.2.1; obtain ⟨c99, c100, c101, c102, c103, cpu, cow, cho, csu, cgr, cki, cdu, cpa, cfg, cfs, cda, cdm, cmo⟩ := hck; exact cda
    have h36 := hv.2.2.2.2.2.2.1
    have hB := hv.1
    by_cases h9 : 999 ≤ M 36
    · have eR : yrR (m + 1) M dr cl = (M, cl) := by unfold yrR; exact if_pos h9
      rw [eR]
      obtain ⟨f3, k1, k2, k3, k4⟩ := x_accept h (d := d) (by omega) (wI cl)
      have eZ : upZ Z 2 (some M) = Z := by
        funext i
        unfold upZ
        split
        · rename_i e; rw [e, hZ]
        · rfl
      rw [eZ]
      refine ⟨f3, ?_, k2, k4, k3⟩
      rw [q_X_years_92]
      simp -dsimp (disch := first | omega | exact hB _) only [↓c_0 hz, r_0_0 hz, r_0_1 hz, r_0_2 hz, v_0_3 hz, w_0_3 hz, p_0_3 hz, r_0_4 hz, r_0_5 hz, r_0_6 hz, g_0_7 hz, p_0_7 hz, r_0_8 hz, r_0_9 hz, r_0_10 hz, r_0_11 hz, r_0_12 hz, g_0_13 hz, p_0_13 hz, g_0_14 hz, p_0_14 hz, g_0_15 hz, p_0_15 hz, g_0_16 hz, p_0_16 hz, g_0_17 hz, p_0_17 hz, g_0_18 hz, p_0_18 hz, r_0_19 hz, ↓c_1 hz, g_1_0 hz, p_1_0 hz, r_1_1 hz, g_1_2 hz, p_1_2 hz, r_1_3 hz, r_1_4 hz, r_1_5 hz, r_1_6 hz, r_1_7 hz, r_1_8 hz, r_1_9 hz, g_1_10 hz, p_1_10 hz, r_1_11 hz, r_1_12 hz, r_1_13 hz, g_1_14 hz, p_1_14 hz, r_1_15 hz, g_1_16 hz, p_1_16 hz, l_2 hz, s_2 hz, n_2 hz, l_3 hz, s_3 hz, n_3 hz, l_4 hz, s_4 hz, n_4 hz, l_5 hz, s_5 hz, n_5 hz, l_6 hz, s_6 hz, n_6 hz, l_7 hz, s_7 hz, n_7 hz, l_8 hz, s_8 hz, n_8 hz, l_9 hz, s_9 hz, n_9 hz, l_10 hz, s_10 hz, n_10 hz, l_11 hz, s_11 hz, n_11 hz, l_12 hz, s_12 hz, n_12 hz, l_13 hz, ↓c_14 hz, g_14_0 hz, p_14_0 hz, r_14_1 hz, g_14_2 hz, p_14_2 hz, r_14_3 hz, r_14_4 hz, r_14_5 hz, r_14_6 hz, r_14_7 hz, r_14_8 hz, r_14_9 hz, g_14_10 hz, p_14_10 hz, r_14_11 hz, r_14_12 hz, r_14_13 hz, g_14_14 hz, p_14_14 hz, r_14_15 hz, g_14_16 hz, p_14_16 hz, l_15 hz, s_15 hz, n_15 hz, l_16 hz, s_16 hz, n_16 hz, l_17 hz, s_17 hz, n_17 hz, l_18 hz, s_18 hz, n_18 hz, l_19 hz, s_19 hz, n_19 hz, l_20 hz, s_20 hz, n_20 hz, l_21 hz, s_21 hz, n_21 hz, l_22 hz, s_22 hz, n_22 hz, l_23 hz, s_23 hz, n_23 hz, l_24 hz, s_24 hz, n_24 hz, l_25 hz, s_25 hz, n_25 hz, l_26 hz, l_27 hz, ↓c_28 hz, r_28_0 hz, g_28_1 hz, p_28_1 hz, g_28_2 hz, p_28_2 hz, l_29 hz, s_29 hz, n_29 hz, ↓c_30 hz, r_30_0 hz, g_30_1 hz, p_30_1 hz, g_30_2 hz, p_30_2 hz, l_31 hz, s_31 hz, n_31 hz, l_32 hz, s_32 hz, n_32 hz, ↓c_33 hz, r_33_0 hz, v_33_1 hz, w_33_1 hz, p_33_1 hz, g_33_2 hz, p_33_2 hz, g_33_3 hz, p_33_3 hz, g_33_4 hz, p_33_4 hz, g_33_5 hz, p_33_5 hz, g_33_6 hz, p_33_6 hz, g_33_7 hz, p_33_7 hz, g_33_8 hz, p_33_8 hz, g_33_9 hz, p_33_9 hz, ↓c_34 hz, g_34_0 hz, p_34_0 hz, g_34_1 hz, p_34_1 hz, r_34_2 hz, r_34_3 hz, l_35 hz, s_35 hz, n_35 hz, l_36 hz, s_36 hz, n_36 hz, ↓c_38 hz, r_38_0 hz, v_38_1 hz, w_38_1 hz, p_38_1 hz, g_38_2 hz, p_38_2 hz, g_38_3 hz, p_38_3 hz, g_38_4 hz, p_38_4 hz, g_38_5 hz, p_38_5 hz, l_39 hz, s_39 hz, n_39 hz, ↓c_40 hz, r_40_0 hz, r_40_1 hz, r_40_2 hz, r_40_3 hz, g_40_4 hz, p_40_4 hz, l_41 hz, s_41 hz, n_41 hz, l_42 hz, s_42 hz, n_42 hz, l_43 hz, s_43 hz, n_43 hz, l_44 hz, s_44 hz, n_44 hz, ↓c_45 hz, r_45_0 hz, r_45_1 hz, r_45_2 hz, r_45_3 hz, r_45_4 hz, g_45_5 hz, p_45_5 hz, l_46 hz, s_46 hz, n_46 hz, l_47 hz, s_47 hz, n_47 hz, l_48 hz, s_48 hz, n_48 hz, l_49 hz, s_49 hz, n_49 hz, l_50 hz, s_50 hz, n_50 hz, ↓c_51 hz, r_51_0 hz, r_51_1 hz, r_51_2 hz, r_51_3 hz, r_51_4 hz, g_51_5 hz, p_51_5 hz, g_51_6 hz, p_51_6 hz, l_52 hz, s_52 hz, n_52 hz, l_53 hz, s_53 hz, n_53 hz, l_54 hz, s_54 hz, n_54 hz, l_55 hz, s_55 hz, n_55 hz, l_56 hz, s_56 hz, n_56 hz, l_57 hz, s_57 hz, n_57 hz, hO_s, hI_s, hL_s, hQ_s, hQ_n, hR_s, hV_s, hN_n, hN_s, cond_true, lI_0, lI_1, sI_0, sI_1, lL_0, lL_1, ↓reduceIte, not_true_eq_false, not_false_eq_true, Nat.reduceEqDiff, Nat.reduceAdd, Nat.reduceMul, Nat.reduceSub, Nat.reduceLeDiff, Nat.reduceLT, li_2, li_3, li_4, li_5, li_6, li_7, li_8, li_9, li_10, li_11, li_12, li_13, li_14, li_15, li_16, li_17, li_18, li_19, li_20, li_21, li_22, li_23, li_24, li_25, li_26, li_27, li_28, li_29, li_30, li_31, li_32, li_33, li_34, li_35, li_36, li_37, li_38, li_39, li_40, li_41, li_42, li_43, li_44, li_45, li_46, li_47, li_48, li_49, li_50, li_51, li_52, li_53, li_54, li_55, li_56, li_57, li_58, li_59, li_60, li_61, li_62, li_63, li_64, li_65, li_66, li_67, li_68, li_69, li_70, li_71, li_72, li_73, li_74, li_75, li_76, li_77, li_78, li_79, li_80, li_81, li_82, li_83, li_84, li_85, li_86, li_87, li_88, li_89, li_90, li_91, li_92, li_93, li_94, li_95, li_96, li_97, li_98, li_99, li_100, li_101, li_102, li_103, li_104, li_105, li_106, li_107, li_108, li_109, li_110, li_111, li_112, li_113, li_114, li_115, li_116, li_117, li_118, li_119, li_120, li_121, li_122, li_255, li_400, li_608, li_998, li_999, li_1000, li_1024, li_1103, li_2400, li_2911, li_4095, li_4096, li_5711, li_9999, li_12345, li_1000000, li_1000003, li_252645135, li_858993459, li_1431655765, wI_le, eq_false (show ¬ n ≤ day by omega), r0, rfo_w, r_C_13 b5.1, l_C11 b5.1, cda, eq_true h9, k1]
    · have eR : yrR (m + 1) M dr cl = yrR m (passN (yrS M (nxD dr % M 100) (nxD (nxD dr) % M 99)).1) (nxD (nxD dr)) (cl + (yrS M (nxD dr % M 100) (nxD (nxD dr) % M 99)).2) := by rw [yrR]; exact if_neg h9
      rw [eR]
      have x1 := nxD_lt dr
      have x2 := nxD_lt (nxD dr)
      have n1 := t_nextDraw (v := dr) (by omega) (d := d) (by omega)
      have n2 := t_nextDraw (v := nxD dr) (by omega) (d := d) (by omega)
      have c99 : f b 0 = wI (M 99) := b5.2.1.1
      have c100 : f b 2 = wI (M 100) := b5.2.1.2.1
      have z1 : (wI (M 100) = 0) = False := by rw [wI_eq0 (hB _)]; exact eq_false (by omega)
      have z2 : (wI (M 99) = 0) = False := by rw [wI_eq0 (hB _)]; exact eq_false (by omega)
      have ed1 : wI (nxD dr) / wI (M 100) = wI (nxD dr / M 100) := wI_div (by omega) (hB _)
      have ed2 : wI (nxD (nxD dr)) / wI (M 99) = wI (nxD (nxD dr) / M 99) := wI_div (by omega) (hB _)
      have er1 := wI_rem (a := nxD dr) (b := M 100) (by omega) (hB _)
      have er2 := wI_rem (a := nxD (nxD dr)) (b := M 99) (by omega) (hB _)
      rw [ed1, wI_mul] at er1
      rw [ed2, wI_mul] at er2
      generalize hs : nxD dr % M 100 = s at er1
      generalize hp : nxD (nxD dr) % M 99 = p at er2
      obtain ⟨f1, i1, j1, j2, j3⟩ := t_tryCall hz b5 b4 h.2.2.2.1 (wI s) (d := d) (by omega)
      obtain ⟨h1', lo1⟩ := IY_dx h (k := 2) (by decide) hZ b1 b2 b3 j2 j1
      have r1 : f1 0 3 = wI b := by rw [lo1 0 (by decide) (by decide) (by decide)]; exact r0
      have hyo := yrS_ok hv s p
      cases hC : dCall M (wI s) with
      | inr q =>
        obtain ⟨v, X⟩ := q
        have ey : yrS M s p = (X, 1) := by unfold yrS; rw [hC]
        rw [ey] at hyo ⊢
        dsimp only at hyo ⊢
        have hv100 : v < 100000 := (doD_inr hv (k := 1) (a := wI s) (p := 0) (show doD M 1 (wI s) 0 = .inr (v, X) from hC)).1
        rw [hC] at i1 j1 h1' j3
        have k1X : KH f1 z b X := j1
        obtain ⟨f2, i2, l1, l2, l3⟩ := t_tryPass k1X b4 h1'.2.2.2.1 (d := d) (by omega)
        obtain ⟨h2', lo2⟩ := IY_dx h1' (k := 2) (b := b) (by decide) upZ_eq (by show f1 0 3 = _; exact r1) b2 b3 l2 l1
        have eP : dPass X = .inr (X 36 + 1, passN X) := dPass_ok (by rw [hyo.2.2.1]; omega)
        rw [eP] at h2' i2
        rw [upZ_up] at h2'
        obtain ⟨f3, m1, m2, m3, m4⟩ := ih (day + 1) (passN X) (nxD (nxD dr)) (cl + 1) f2 _ (by omega) (by omega) (by omega) upZ_eq (passN_VK hyo.1 (by rw [hyo.2.2.1]; omega)) (by rw [passN_hi (by decide), hyo.2.1 100 (by decide)]; exact h1) (by rw [passN_hi (by decide), hyo.2.1 99 (by decide)]; exact h2) h2'
        rw [upZ_up] at m2
        refine ⟨f3, ?_, m2, ((QX_lo lo1).tr (QX_lo lo2)).tr m3, m4⟩
        have n3 : (wI v < 0) = False := wI_lt0 (by omega)
        rw [q_X_years_92]
        simp -dsimp (disch := first | omega | exact hB _) only [↓c_0 hz, r_0_0 hz, r_0_1 hz, r_0_2 hz, v_0_3 hz, w_0_3 hz, p_0_3 hz, r_0_4 hz, r_0_5 hz, r_0_6 hz, g_0_7 hz, p_0_7 hz, r_0_8 hz, r_0_9 hz, r_0_10 hz, r_0_11 hz, r_0_12 hz, g_0_13 hz, p_0_13 hz, g_0_14 hz, p_0_14 hz, g_0_15 hz, p_0_15 hz, g_0_16 hz, p_0_16 hz, g_0_17 hz, p_0_17 hz, g_0_18 hz, p_0_18 hz, r_0_19 hz, ↓c_1 hz, g_1_0 hz, p_1_0 hz, r_1_1 hz, g_1_2 hz, p_1_2 hz, r_1_3 hz, r_1_4 hz, r_1_5 hz, r_1_6 hz, r_1_7 hz, r_1_8 hz, r_1_9 hz, g_1_10 hz, p_1_10 hz, r_1_11 hz, r_1_12 hz, r_1_13 hz, g_1_14 hz, p_1_14 hz, r_1_15 hz, g_1_16 hz, p_1_16 hz, l_2 hz, s_2 hz, n_2 hz, l_3 hz, s_3 hz, n_3 hz, l_4 hz, s_4 hz, n_4 hz, l_5 hz, s_5 hz, n_5 hz, l_6 hz, s_6 hz, n_6 hz, l_7 hz, s_7 hz, n_7 hz, l_8 hz, s_8 hz, n_8 hz, l_9 hz, s_9 hz, n_9 hz, l_10 hz, s_10 hz, n_10 hz, l_11 hz, s_11 hz, n_11 hz, l_12 hz, s_12 hz, n_12 hz, l_13 hz, ↓c_14 hz, g_14_0 hz, p_14_0 hz, r_14_1 hz, g_14_2 hz, p_14_2 hz, r_14_3 hz, r_14_4 hz, r_14_5 hz, r_14_6 hz, r_14_7 hz, r_14_8 hz, r_14_9 hz, g_14_10 hz, p_14_10 hz, r_14_11 hz, r_14_12 hz, r_14_13 hz, g_14_14 hz, p_14_14 hz, r_14_15 hz, g_14_16 hz, p_14_16 hz, l_15 hz, s_15 hz, n_15 hz, l_16 hz, s_16 hz, n_16 hz, l_17 hz, s_17 hz, n_17 hz, l_18 hz, s_18 hz, n_18 hz, l_19 hz, s_19 hz, n_19 hz, l_20 hz, s_20 hz, n_20 hz, l_21 hz, s_21 hz, n_21 hz, l_22 hz, s_22 hz, n_22 hz, l_23 hz, s_23 hz, n_23 hz, l_24 hz, s_24 hz, n_24 hz, l_25 hz, s_25 hz, n_25 hz, l_26 hz, l_27 hz, ↓c_28 hz, r_28_0 hz, g_28_1 hz, p_28_1 hz, g_28_2 hz, p_28_2 hz, l_29 hz, s_29 hz, n_29 hz, ↓c_30 hz, r_30_0 hz, g_30_1 hz, p_30_1 hz, g_30_2 hz, p_30_2 hz, l_31 hz, s_31 hz, n_31 hz, l_32 hz, s_32 hz, n_32 hz, ↓c_33 hz, r_33_0 hz, v_33_1 hz, w_33_1 hz, p_33_1 hz, g_33_2 hz, p_33_2 hz, g_33_3 hz, p_33_3 hz, g_33_4 hz, p_33_4 hz, g_33_5 hz, p_33_5 hz, g_33_6 hz, p_33_6 hz, g_33_7 hz, p_33_7 hz, g_33_8 hz, p_33_8 hz, g_33_9 hz, p_33_9 hz, ↓c_34 hz, g_34_0 hz, p_34_0 hz, g_34_1 hz, p_34_1 hz, r_34_2 hz, r_34_3 hz, l_35 hz, s_35 hz, n_35 hz, l_36 hz, s_36 hz, n_36 hz, ↓c_38 hz, r_38_0 hz, v_38_1 hz, w_38_1 hz, p_38_1 hz, g_38_2 hz, p_38_2 hz, g_38_3 hz, p_38_3 hz, g_38_4 hz, p_38_4 hz, g_38_5 hz, p_38_5 hz, l_39 hz, s_39 hz, n_39 hz, ↓c_40 hz, r_40_0 hz, r_40_1 hz, r_40_2 hz, r_40_3 hz, g_40_4 hz, p_40_4 hz, l_41 hz, s_41 hz, n_41 hz, l_42 hz, s_42 hz, n_42 hz, l_43 hz, s_43 hz, n_43 hz, l_44 hz, s_44 hz, n_44 hz, ↓c_45 hz, r_45_0 hz, r_45_1 hz, r_45_2 hz, r_45_3 hz, r_45_4 hz, g_45_5 hz, p_45_5 hz, l_46 hz, s_46 hz, n_46 hz, l_47 hz, s_47 hz, n_47 hz, l_48 hz, s_48 hz, n_48 hz, l_49 hz, s_49 hz, n_49 hz, l_50 hz, s_50 hz, n_50 hz, ↓c_51 hz, r_51_0 hz, r_51_1 hz, r_51_2 hz, r_51_3 hz, r_51_4 hz, g_51_5 hz, p_51_5 hz, g_51_6 hz, p_51_6 hz, l_52 hz, s_52 hz, n_52 hz, l_53 hz, s_53 hz, n_53 hz, l_54 hz, s_54 hz, n_54 hz, l_55 hz, s_55 hz, n_55 hz, l_56 hz, s_56 hz, n_56 hz, l_57 hz, s_57 hz, n_57 hz, hO_s, hI_s, hL_s, hQ_s, hQ_n, hR_s, hV_s, hN_n, hN_s, cond_true, lI_0, lI_1, sI_0, sI_1, lL_0, lL_1, ↓reduceIte, not_true_eq_false, not_false_eq_true, Nat.reduceEqDiff, Nat.reduceAdd, Nat.reduceMul, Nat.reduceSub, Nat.reduceLeDiff, Nat.reduceLT, li_2, li_3, li_4, li_5, li_6, li_7, li_8, li_9, li_10, li_11, li_12, li_13, li_14, li_15, li_16, li_17, li_18, li_19, li_20, li_21, li_22, li_23, li_24, li_25, li_26, li_27, li_28, li_29, li_30, li_31, li_32, li_33, li_34, li_35, li_36, li_37, li_38, li_39, li_40, li_41, li_42, li_43, li_44, li_45, li_46, li_47, li_48, li_49, li_50, li_51, li_52, li_53, li_54, li_55, li_56, li_57, li_58, li_59, li_60, li_61, li_62, li_63, li_64, li_65, li_66, li_67, li_68, li_69, li_70, li_71, li_72, li_73, li_74, li_75, li_76, li_77, li_78, li_79, li_80, li_81, li_82, li_83, li_84, li_85, li_86, li_87, li_88, li_89, li_90, li_91, li_92, li_93, li_94, li_95, li_96, li_97, li_98, li_99, li_100, li_101, li_102, li_103, li_104, li_105, li_106, li_107, li_108, li_109, li_110, li_111, li_112, li_113, li_114, li_115, li_116, li_117, li_118, li_119, li_120, li_121, li_122, li_255, li_400, li_608, li_998, li_999, li_1000, li_1024, li_1103, li_2400, li_2911, li_4095, li_4096, li_5711, li_9999, li_12345, li_1000000, li_1000003, li_252645135, li_858993459, li_1431655765, wI_add, wI_mul, wI_add1, wI_1add, wI_le, eq_false (show ¬ n ≤ day by omega), r0, r1, rfo_w, r_C_13 b5.1, l_C11 b5.1, cda, eq_false h9, n1, n2, g_C_2 b5.1, g_C_0 b5.1, c99, c100, z1, z2, ed1, er1, ed2, er2, i1, rsI, n3, i2, m1]
      | inl e =>
        have ey : yrS M s p = (nxN M (dGive M (wI s) (wI p)), 0) := by unfold yrS; rw [hC]
        rw [ey] at hyo ⊢
        dsimp only at hyo ⊢
        rw [hC] at i1 j1 h1' j3
        have k1X : KH f1 z b M := j1
        obtain ⟨f2, i2, l1, l2, l3⟩ := t_tryGive hz k1X b4 h1'.2.2.2.1 (wI s) (wI p) (d := d) (by omega)
        obtain ⟨h2', lo2⟩ := IY_dx h1' (k := 2) (b := b) (by decide) upZ_eq (by show f1 0 3 = _; exact r1) b2 b3 l2 l1
        have r2 : f2 0 3 = wI b := by rw [lo2 0 (by decide) (by decide) (by decide)]; exact r1
        obtain ⟨f3, i3, o1, o2, o3⟩ := t_tryPass l1 b4 h2'.2.2.2.1 (d := d) (by omega)
        obtain ⟨h3', lo3⟩ := IY_dx h2' (k := 2) (b := b) (by decide) upZ_eq (by show f2 0 3 = _; exact r2) b2 b3 o2 o1
        have eP : dPass (nxN M (dGive M (wI s) (wI p))) = .inr (nxN M (dGive M (wI s) (wI p)) 36 + 1, passN (nxN M (dGive M (wI s) (wI p)))) := dPass_ok (by rw [hyo.2.2.1]; omega)
        rw [eP] at h3' i3
        rw [upZ_up, upZ_up] at h3'
        obtain ⟨f4, m1, m2, m3, m4⟩ := ih (day + 1) (passN (nxN M (dGive M (wI s) (wI p)))) (nxD (nxD dr)) cl f3 _ (by omega) (by omega) (by omega) upZ_eq (passN_VK hyo.1 (by rw [hyo.2.2.1]; omega)) (by rw [passN_hi (by decide), hyo.2.1 100 (by decide)]; exact h1) (by rw [passN_hi (by decide), hyo.2.1 99 (by decide)]; exact h2) h3'
        rw [upZ_up] at m2
        refine ⟨f4, ?_, m2, (((QX_lo lo1).tr (QX_lo lo2)).tr (QX_lo lo3)).tr m3, m4⟩
        have n3 := neg_w e (doD_inl (N := M) (k := 1) (a := wI s) (p := 0) (show doD M 1 (wI s) 0 = .inl e from hC))
        rw [q_X_years_92]
        simp -dsimp (disch := first | omega | exact hB _) only [↓c_0 hz, r_0_0 hz, r_0_1 hz, r_0_2 hz, v_0_3 hz, w_0_3 hz, p_0_3 hz, r_0_4 hz, r_0_5 hz, r_0_6 hz, g_0_7 hz, p_0_7 hz, r_0_8 hz, r_0_9 hz, r_0_10 hz, r_0_11 hz, r_0_12 hz, g_0_13 hz, p_0_13 hz, g_0_14 hz, p_0_14 hz, g_0_15 hz, p_0_15 hz, g_0_16 hz, p_0_16 hz, g_0_17 hz, p_0_17 hz, g_0_18 hz, p_0_18 hz, r_0_19 hz, ↓c_1 hz, g_1_0 hz, p_1_0 hz, r_1_1 hz, g_1_2 hz, p_1_2 hz, r_1_3 hz, r_1_4 hz, r_1_5 hz, r_1_6 hz, r_1_7 hz, r_1_8 hz, r_1_9 hz, g_1_10 hz, p_1_10 hz, r_1_11 hz, r_1_12 hz, r_1_13 hz, g_1_14 hz, p_1_14 hz, r_1_15 hz, g_1_16 hz, p_1_16 hz, l_2 hz, s_2 hz, n_2 hz, l_3 hz, s_3 hz, n_3 hz, l_4 hz, s_4 hz, n_4 hz, l_5 hz, s_5 hz, n_5 hz, l_6 hz, s_6 hz, n_6 hz, l_7 hz, s_7 hz, n_7 hz, l_8 hz, s_8 hz, n_8 hz, l_9 hz, s_9 hz, n_9 hz, l_10 hz, s_10 hz, n_10 hz, l_11 hz, s_11 hz, n_11 hz, l_12 hz, s_12 hz, n_12 hz, l_13 hz, ↓c_14 hz, g_14_0 hz, p_14_0 hz, r_14_1 hz, g_14_2 hz, p_14_2 hz, r_14_3 hz, r_14_4 hz, r_14_5 hz, r_14_6 hz, r_14_7 hz, r_14_8 hz, r_14_9 hz, g_14_10 hz, p_14_10 hz, r_14_11 hz, r_14_12 hz, r_14_13 hz, g_14_14 hz, p_14_14 hz, r_14_15 hz, g_14_16 hz, p_14_16 hz, l_15 hz, s_15 hz, n_15 hz, l_16 hz, s_16 hz, n_16 hz, l_17 hz, s_17 hz, n_17 hz, l_18 hz, s_18 hz, n_18 hz, l_19 hz, s_19 hz, n_19 hz, l_20 hz, s_20 hz, n_20 hz, l_21 hz, s_21 hz, n_21 hz, l_22 hz, s_22 hz, n_22 hz, l_23 hz, s_23 hz, n_23 hz, l_24 hz, s_24 hz, n_24 hz, l_25 hz, s_25 hz, n_25 hz, l_26 hz, l_27 hz, ↓c_28 hz, r_28_0 hz, g_28_1 hz, p_28_1 hz, g_28_2 hz, p_28_2 hz, l_29 hz, s_29 hz, n_29 hz, ↓c_30 hz, r_30_0 hz, g_30_1 hz, p_30_1 hz, g_30_2 hz, p_30_2 hz, l_31 hz, s_31 hz, n_31 hz, l_32 hz, s_32 hz, n_32 hz, ↓c_33 hz, r_33_0 hz, v_33_1 hz, w_33_1 hz, p_33_1 hz, g_33_2 hz, p_33_2 hz, g_33_3 hz, p_33_3 hz, g_33_4 hz, p_33_4 hz, g_33_5 hz, p_33_5 hz, g_33_6 hz, p_33_6 hz, g_33_7 hz, p_33_7 hz, g_33_8 hz, p_33_8 hz, g_33_9 hz, p_33_9 hz, ↓c_34 hz, g_34_0 hz, p_34_0 hz, g_34_1 hz, p_34_1 hz, r_34_2 hz, r_34_3 hz, l_35 hz, s_35 hz, n_35 hz, l_36 hz, s_36 hz, n_36 hz, ↓c_38 hz, r_38_0 hz, v_38_1 hz, w_38_1 hz, p_38_1 hz, g_38_2 hz, p_38_2 hz, g_38_3 hz, p_38_3 hz, g_38_4 hz, p_38_4 hz, g_38_5 hz, p_38_5 hz, l_39 hz, s_39 hz, n_39 hz, ↓c_40 hz, r_40_0 hz, r_40_1 hz, r_40_2 hz, r_40_3 hz, g_40_4 hz, p_40_4 hz, l_41 hz, s_41 hz, n_41 hz, l_42 hz, s_42 hz, n_42 hz, l_43 hz, s_43 hz, n_43 hz, l_44 hz, s_44 hz, n_44 hz, ↓c_45 hz, r_45_0 hz, r_45_1 hz, r_45_2 hz, r_45_3 hz, r_45_4 hz, g_45_5 hz, p_45_5 hz, l_46 hz, s_46 hz, n_46 hz, l_47 hz, s_47 hz, n_47 hz, l_48 hz, s_48 hz, n_48 hz, l_49 hz, s_49 hz, n_49 hz, l_50 hz, s_50 hz, n_50 hz, ↓c_51 hz, r_51_0 hz, r_51_1 hz, r_51_2 hz, r_51_3 hz, r_51_4 hz, g_51_5 hz, p_51_5 hz, g_51_6 hz, p_51_6 hz, l_52 hz, s_52 hz, n_52 hz, l_53 hz, s_53 hz, n_53 hz, l_54 hz, s_54 hz, n_54 hz, l_55 hz, s_55 hz, n_55 hz, l_56 hz, s_56 hz, n_56 hz, l_57 hz, s_57 hz, n_57 hz, hO_s, hI_s, hL_s, hQ_s, hQ_n, hR_s, hV_s, hN_n, hN_s, cond_true, lI_0, lI_1, sI_0, sI_1, lL_0, lL_1, ↓reduceIte, not_true_eq_false, not_false_eq_true, Nat.reduceEqDiff, Nat.reduceAdd, Nat.reduceMul, Nat.reduceSub, Nat.reduceLeDiff, Nat.reduceLT, li_2, li_3, li_4, li_5, li_6, li_7, li_8, li_9, li_10, li_11, li_12, li_13, li_14, li_15, li_16, li_17, li_18, li_19, li_20, li_21, li_22, li_23, li_24, li_25, li_26, li_27, li_28, li_29, li_30, li_31, li_32, li_33, li_34, li_35, li_36, li_37, li_38, li_39, li_40, li_41, li_42, li_43, li_44, li_45, li_46, li_47, li_48, li_49, li_50, li_51, li_52, li_53, li_54, li_55, li_56, li_57, li_58, li_59, li_60, li_61, li_62, li_63, li_64, li_65, li_66, li_67, li_68, li_69, li_70, li_71, li_72, li_73, li_74, li_75, li_76, li_77, li_78, li_79, li_80, li_81, li_82, li_83, li_84, li_85, li_86, li_87, li_88, li_89, li_90, li_91, li_92, li_93, li_94, li_95, li_96, li_97, li_98, li_99, li_100, li_101, li_102, li_103, li_104, li_105, li_106, li_107, li_108, li_109, li_110, li_111, li_112, li_113, li_114, li_115, li_116, li_117, li_118, li_119, li_120, li_121, li_122, li_255, li_400, li_608, li_998, li_999, li_1000, li_1024, li_1103, li_2400, li_2911, li_4095, li_4096, li_5711, li_9999, li_12345, li_1000000, li_1000003, li_252645135, li_858993459, li_1431655765, wI_add, wI_mul, wI_add1, wI_1add, wI_le, eq_false (show ¬ n ≤ day by omega), r0, r1, r2, rfo_w, r_C_13 b5.1, l_C11 b5.1, cda, eq_false h9, n1, n2, g_C_2 b5.1, g_C_0 b5.1, c99, c100, z1, z2, ed1, er1, ed2, er2, i1, rsI, n3, i2, i3, m1]
        rfl
end
