/-! ===== ORDERS: the program, from the tape on ===== -/
section
variable {z : Mem} {S : Nat} {xs : Nat → Int32} {f f' f0 : Nat → Nat → Int32} {N N' M N0 : Nat → Nat} {U U' U0 : US} {Z : Nat → Option (Nat → Nat)} {T : Nat → Nat} {L : Nat} {c c' : Nat → Int32} {W : WS} {cls : List CL}
theorem KH_R6 {b : Nat} (hr : R6 N M) (hB : ∀ j, M j < 2147483648) (h : KH f z b N) : KH f z b M := by
  obtain ⟨a1, a2, a3, a4, a5⟩ := h
  have h102 := a3.2.2.2.2.1
  refine ⟨a1, CK_N a2 (fun j hj => hr j (by omega)), R6_VK hr a3 hB, fun i hi => ?_, a5⟩
  rw [hr 102 (by omega)] at hi
  obtain ⟨q, hl, sl, cls, b1, b2, b3, b4, b5, b6⟩ := a4 i hi
  exact ⟨q, hl, sl, cls, b1, b2, b3, b4, b5, R6_LT hr (by omega) b6⟩
theorem IY_R6 (hr : R6 N M) (hB : ∀ j, M j < 2147483648) (h : IY S xs f z N U Z T L c) : IY S xs f z M U Z T L c := by
  obtain ⟨a1, a2, a3, a4, a5, a6, a7, a8, a9⟩ := h
  refine ⟨a1, a2, KH_R6 hr hB a3, a4, UX_c a5 rfl rfl (fun k hk => hr k (by omega)), fun i hi => ⟨(a6 i hi).1, R6_VK (R6_mrg hr) (a6 i hi).2 (fun j => ?_)⟩, a7, a8, a9⟩
  unfold mrg
  split
  · rename_i hj
    have := (a6 i hi).2.1 j
    rw [mrg_lo hj] at this
    exact this
  · exact hB j
/-- the tape is read, its fault is kept -/
theorem x_ord_read (h : IY S xs f z N U Z T L c) {d : Nat} (hd : 44 ≤ d) : ∃ v f', EC d mReader_readText [.ref 33, .ref 32, .int (wI L), .int 0] (mkM (up f 0 (upd (upd (f 0) 7 0) 16 (-1))) z) = some (some (.int v), mkM f' z) ∧ Fg (up f 0 (upd (upd (f 0) 7 0) 16 (-1))) f' ∧ match pText (cdT T L) (pOrdC (cdT T L) (vlT T L)) (nT T L) 12 0 0 0 with
      | .inl e => v = wI (plB T L e)
      | .inr cls => v = -1 ∧ PT f' 34 72 400 cls := by
  obtain ⟨t1, t2, t3, t4⟩ := h.2.2.2.2.2.2.2.1
  obtain ⟨v, f', i1, i2, i3⟩ := t_read_ord (f := up f 0 (upd (upd (f 0) 7 0) 16 (-1))) h.1 (XT_Tx h.2.1) (T := T) (L := L) (fun k hk => by rw [up_ne _ _ _ (by decide)]; exact t4 k hk) t2 t3 hd
  refine ⟨v, f', i1, i2, ?_⟩
  cases e : pText (cdT T L) (pOrdC (cdT T L) (vlT T L)) (nT T L) 12 0 0 0 with
  | inl x => rw [e] at i3; exact i3
  | inr cls => rw [e] at i3; exact ⟨i3.1, i3.2.1⟩
theorem x_ord_bad (h : IY S xs f z N U Z T L c) {e : Nat} (hp : pText (cdT T L) (pOrdC (cdT T L) (vlT T L)) (nT T L) 12 0 0 0 = .inl e) {d : Nat} (hd : 45 ≤ d) : ∃ f', EC d mX_orders [.ref 0] (mkM f z) = some (some (.int (-6)), mkM f' z) ∧ IY S xs f' z N U Z T 0 (refC (upd (upd c 7 (-1)) 6 (wI (plB T L e))) 6) ∧ CQ f f' ∧ QX f f' := by
  obtain ⟨d, rfl⟩ : ∃ e, d = e + 1 := ⟨d - 1, by omega⟩
  have hz := h.1
  obtain ⟨t1, t2, t3, t4⟩ := h.2.2.2.2.2.2.2.1
  obtain ⟨v, f1, i1, i2, i3⟩ := x_ord_read h (d := d) (by omega)
  rw [hp] at i3
  have hv : v = wI (plB T L e) := i3
  have pB : plB T L e ≤ L := pl_le e
  have i0 := t_X_emptyTape (f := f) hz (d := d) (by omega)
  rw [t1] at i0
  have n1 : ∀ a, a ≠ 0 → a ≠ 33 → a ≠ 34 → a ≠ 35 → a ≠ 36 → f1 a = f a := fun a a0 a1 a2 a3 a4 => by rw [i2 a a1 a2 a3 a4, up_ne _ _ _ a0]
  have e0 : f1 0 = upd (upd (f 0) 7 0) 16 (-1) := by rw [i2 0 (by decide) (by decide) (by decide) (by decide), up_eq]
  have hY : IY S xs (up f1 0 (upd (f1 0) 15 v)) z N U Z T 0 (upd (upd c 7 (-1)) 6 (wI (plB T L e))) := by
    refine IY_t h (by rw [up_eq, e0]; simp (disch := decide) only [upd_ne, upd_eq]) (by rw [up_eq, e0]; simp (disch := decide) only [upd_ne]) (fun a ha => by rw [up_ne _ _ _ (by omega), n1 a (by omega) (by omega) (by omega) (by omega) (by omega)]) ?_
    have hx := h.2.2.2.2.2.2.2.2
    unfold CX at *
    obtain ⟨x0, x1, x2, x3, x4, x5, x6, x7, x8⟩ := hx
    rw [up_eq, up_ne _ _ _ (by decide), e0, n1 57 (by decide) (by decide) (by decide) (by decide) (by decide), hv]
    simp (disch := decide) only [upd_ne, upd_eq, x0, x1, x2, x3, x4, x5, x6, x7, x8, and_self]
  obtain ⟨f', k1, k2, k3, k4⟩ := x_refuse hY (e := 6) (by omega) (d := d) (by omega)
  have nv : (v = -1) = False := by
    rw [hv]
    refine eq_false (fun q => ?_)
    have := congrArg Int32.toInt q
    rw [wI_toInt (by omega)] at this
    have h1 : (-1 : Int32).toInt = -1 := by decide
    omega
  refine ⟨f', ?_, k2, ?_, fun a ha => by rw [k4 a ha, up_ne _ _ _ (by omega), n1 a (by omega) (by omega) (by omega) (by omega) (by omega)]⟩
  · rw [q_X_orders]
    simp -dsimp (disch := omega) only [↓c_0 hz, r_0_0 hz, r_0_1 hz, r_0_2 hz, v_0_3 hz, w_0_3 hz, p_0_3 hz, r_0_4 hz, r_0_5 hz, r_0_6 hz, g_0_7 hz, p_0_7 hz, r_0_8 hz, r_0_9 hz, r_0_10 hz, r_0_11 hz, r_0_12 hz, g_0_13 hz, p_0_13 hz, g_0_14 hz, p_0_14 hz, g_0_15 hz, p_0_15 hz, g_0_16 hz, p_0_16 hz, g_0_17 hz, p_0_17 hz, g_0_18 hz, p_0_18 hz, r_0_19 hz, ↓c_1 hz, g_1_0 hz, p_1_0 hz, r_1_1 hz, g_1_2 hz, p_1_2 hz, r_1_3 hz, r_1_4 hz, r_1_5 hz, r_1_6 hz, r_1_7 hz, r_1_8 hz, r_1_9 hz, g_1_10 hz, p_1_10 hz, r_1_11 hz, r_1_12 hz, r_1_13 hz, g_1_14 hz, p_1_14 hz, r_1_15 hz, g_1_16 hz, p_1_16 hz, l_2 hz, s_2 hz, n_2 hz, l_3 hz, s_3 hz, n_3 hz, l_4 hz, s_4 hz, n_4 hz, l_5 hz, s_5 hz, n_5 hz, l_6 hz, s_6 hz, n_6 hz, l_7 hz, s_7 hz, n_7 hz, l_8 hz, s_8 hz, n_8 hz, l_9 hz, s_9 hz, n_9 hz, l_10 hz, s_10 hz, n_10 hz, l_11 hz, s_11 hz, n_11 hz, l_12 hz, s_12 hz, n_12 hz, l_13 hz, ↓c_14 hz, g_14_0 hz, p_14_0 hz, r_14_1 hz, g_14_2 hz, p_14_2 hz, r_14_3 hz, r_14_4 hz, r_14_5 hz, r_14_6 hz, r_14_7 hz, r_14_8 hz, r_14_9 hz, g_14_10 hz, p_14_10 hz, r_14_11 hz, r_14_12 hz, r_14_13 hz, g_14_14 hz, p_14_14 hz, r_14_15 hz, g_14_16 hz, p_14_16 hz, l_15 hz, s_15 hz, n_15 hz, l_16 hz, s_16 hz, n_16 hz, l_17 hz, s_17 hz, n_17 hz, l_18 hz, s_18 hz, n_18 hz, l_19 hz, s_19 hz, n_19 hz, l_20 hz, s_20 hz, n_20 hz, l_21 hz, s_21 hz, n_21 hz, l_22 hz, s_22 hz, n_22 hz, l_23 hz, s_23 hz, n_23 hz, l_24 hz, s_24 hz, n_24 hz, l_25 hz, s_25 hz, n_25 hz, l_26 hz, l_27 hz, ↓c_28 hz, r_28_0 hz, g_28_1 hz, p_28_1 hz, g_28_2 hz, p_28_2 hz, l_29 hz, s_29 hz, n_29 hz, ↓c_30 hz, r_30_0 hz, g_30_1 hz, p_30_1 hz, g_30_2 hz, p_30_2 hz, l_31 hz, s_31 hz, n_31 hz, l_32 hz, s_32 hz, n_32 hz, ↓c_33 hz, r_33_0 hz, v_33_1 hz, w_33_1 hz, p_33_1 hz, g_33_2 hz, p_33_2 hz, g_33_3 hz, p_33_3 hz, g_33_4 hz, p_33_4 hz, g_33_5 hz, p_33_5 hz, g_33_6 hz, p_33_6 hz, g_33_7 hz, p_33_7 hz, g_33_8 hz, p_33_8 hz, g_33_9 hz, p_33_9 hz, ↓c_34 hz, g_34_0 hz, p_34_0 hz, g_34_1 hz, p_34_1 hz, r_34_2 hz, r_34_3 hz, l_35 hz, s_35 hz, n_35 hz, l_36 hz, s_36 hz, n_36 hz, ↓c_38 hz, r_38_0 hz, v_38_1 hz, w_38_1 hz, p_38_1 hz, g_38_2 hz, p_38_2 hz, g_38_3 hz, p_38_3 hz, g_38_4 hz, p_38_4 hz, g_38_5 hz, p_38_5 hz, l_39 hz, s_39 hz, n_39 hz, ↓c_40 hz, r_40_0 hz, r_40_1 hz, r_40_2 hz, r_40_3 hz, g_40_4 hz, p_40_4 hz, l_41 hz, s_41 hz, n_41 hz, l_42 hz, s_42 hz, n_42 hz, l_43 hz, s_43 hz, n_43 hz, l_44 hz, s_44 hz, n_44 hz, ↓c_45 hz, r_45_0 hz, r_45_1 hz, r_45_2 hz, r_45_3 hz, r_45_4 hz, g_45_5 hz, p_45_5 hz, l_46 hz, s_46 hz, n_46 hz, l_47 hz, s_47 hz, n_47 hz, l_48 hz, s_48 hz, n_48 hz, l_49 hz, s_49 hz, n_49 hz, l_50 hz, s_50 hz, n_50 hz, ↓c_51 hz, r_51_0 hz, r_51_1 hz, r_51_2 hz, r_51_3 hz, r_51_4 hz, g_51_5 hz, p_51_5 hz, g_51_6 hz, p_51_6 hz, l_52 hz, s_52 hz, n_52 hz, l_53 hz, s_53 hz, n_53 hz, l_54 hz, s_54 hz, n_54 hz, l_55 hz, s_55 hz, n_55 hz, l_56 hz, s_56 hz, n_56 hz, l_57 hz, s_57 hz, n_57 hz, hO_s, hI_s, hL_s, hQ_s, hQ_n, hR_s, hV_s, hN_n, hN_s, cond_true, lI_0, lI_1, sI_0, sI_1, lL_0, lL_1, ↓reduceIte, not_true_eq_false, not_false_eq_true, Nat.reduceEqDiff, Nat.reduceAdd, Nat.reduceMul, Nat.reduceSub, Nat.reduceLeDiff, Nat.reduceLT, li_2, li_3, li_4, li_5, li_6, li_7, li_8, li_9, li_10, li_11, li_12, li_13, li_14, li_15, li_16, li_17, li_18, li_19, li_20, li_21, li_22, li_23, li_24, li_25, li_26, li_27, li_28, li_29, li_30, li_31, li_32, li_33, li_34, li_35, li_36, li_37, li_38, li_39, li_40, li_41, li_42, li_43, li_44, li_45, li_46, li_47, li_48, li_49, li_50, li_51, li_52, li_53, li_54, li_55, li_56, li_57, li_58, li_59, li_60, li_61, li_62, li_63, li_64, li_65, li_66, li_67, li_68, li_69, li_70, li_71, li_72, li_73, li_74, li_75, li_76, li_77, li_78, li_79, li_80, li_81, li_82, li_83, li_84, li_85, li_86, li_87, li_88, li_89, li_90, li_91, li_92, li_93, li_94, li_95, li_96, li_97, li_98, li_99, li_100, li_101, li_102, li_103, li_104, li_105, li_106, li_107, li_108, li_109, li_110, li_111, li_112, li_113, li_114, li_115, li_116, li_117, li_118, li_119, li_120, li_121, li_122, li_255, li_400, li_608, li_998, li_999, li_1000, li_1024, li_1103, li_2400, li_2911, li_4095, li_4096, li_5711, li_9999, li_12345, li_1000000, li_1000003, li_252645135, li_858993459, li_1431655765, wI_add, wI_mul, wI_add1, wI_1add, i0, up_up, up_eq, upd_eq, i1, nv, k1]
  · refine CQ.tr ⟨?_, ?_, ?_⟩ k3
    · rw [up_eq, e0]; simp (disch := decide) only [upd_ne]
    · rw [up_eq, e0]; simp (disch := decide) only [upd_ne]
    · rw [up_ne _ _ _ (by decide), n1 54 (by decide) (by decide) (by decide) (by decide) (by decide)]
theorem x_ord_ok (h : IY S xs f z N U Z T L c) (hp : pText (cdT T L) (pOrdC (cdT T L) (vlT T L)) (nT T L) 12 0 0 0 = .inr cls) {d : Nat} (hd : 60 ≤ d) :
    (∀ W', oRun 0 cls (layO N T L, U, 0, -1) = .inr W' → ∃ f', EC d mX_orders [.ref 0] (mkM f z) = some (some (.int (jI W'.2.2.1)), mkM f' z) ∧ IY S xs f' z W'.1 W'.2.1 Z T 0 (okC (upd (upd c 7 (-1)) 6 (-1))) ∧ f' 0 13 = 0 ∧ QX f f') ∧
    (∀ n, oRun 0 cls (layO N T L, U, 0, -1) = .inl n → ∃ f', EC d mX_orders [.ref 0] (mkM f z) = some (some (.int (-3)), mkM f' z) ∧ IY S xs f' z (layO N T L) U Z T 0 (refC (upd (upd (upd c 7 (-1)) 6 (-1)) 7 (wI n)) 3) ∧ CQ f f' ∧ QX f f') := by
  obtain ⟨d, rfl⟩ : ∃ e, d = e + 1 := ⟨d - 1, by omega⟩
  have hz := h.1
  have hv := h.2.2.1.2.2.1
  obtain ⟨t1, t2, t3, t4⟩ := h.2.2.2.2.2.2.2.1
  obtain ⟨v, f1, i1, i2, i3⟩ := x_ord_read h (d := d) (by omega)
  rw [hp] at i3
  obtain ⟨hv1, hpt⟩ : v = -1 ∧ PT f1 34 72 400 cls := i3
  subst hv1
  have i0 := t_X_emptyTape (f := f) hz (d := d) (by omega)
  rw [t1] at i0
  have n1 : ∀ a, a ≠ 0 → a ≠ 33 → a ≠ 34 → a ≠ 35 → a ≠ 36 → f1 a = f a := fun a a0 a1 a2 a3 a4 => by rw [i2 a a1 a2 a3 a4, up_ne _ _ _ a0]
  have e0 : f1 0 = upd (upd (f 0) 7 0) 16 (-1) := by rw [i2 0 (by decide) (by decide) (by decide) (by decide), up_eq]
  obtain ⟨f2, ef2⟩ : ∃ f2, f2 = up f1 0 (upd (f1 0) 15 (-1)) := ⟨_, rfl⟩
  have n2 : ∀ a, a ≠ 0 → f2 a = f1 a := fun a ha => by rw [ef2, up_ne _ _ _ ha]
  have e2 : f2 0 = upd (upd (upd (f 0) 7 0) 16 (-1)) 15 (-1) := by rw [ef2, up_eq, e0]
  have hY : IY S xs f2 z N U Z T 0 (upd (upd c 7 (-1)) 6 (-1)) := by
    refine IY_t h (by rw [e2]; simp (disch := decide) only [upd_ne, upd_eq]) (by rw [e2]; simp (disch := decide) only [upd_ne]) (fun a ha => by rw [n2 a (by omega), n1 a (by omega) (by omega) (by omega) (by omega) (by omega)]) ?_
    have hx := h.2.2.2.2.2.2.2.2
    unfold CX at *
    obtain ⟨x0, x1, x2, x3, x4, x5, x6, x7, x8⟩ := hx
    rw [n2 57 (by decide), e2, n1 57 (by decide) (by decide) (by decide) (by decide) (by decide)]
    simp (disch := decide) only [upd_ne, upd_eq, x0, x1, x2, x3, x4, x5, x6, x7, x8, and_self]
  have hr6 := layO_R6 (N := N) (T := T) (L := L) t2
  have hB6 := layO_B (L := L) hv t2 t3
  have hY1 := IY_R6 hr6 hB6 hY
  obtain ⟨f3, j1, j2, j3⟩ := t_copyFrom (Ch_14 hz) hY1.2.2.1 (by decide) (d := d) (by omega)
  obtain ⟨f4, k1, k2, k3, k4, k5⟩ := t_Dcopy1 (f := f3) hz (d := d) (by omega)
  have n4 : ∀ a, a < 14 ∨ 26 < a → a ≠ 30 → a ≠ 31 → f4 a = f2 a := fun a a1 a2 a3 => by rw [k5 a a2 a3, j3 a (by omega)]
  obtain ⟨f5, ef5⟩ : ∃ f5, f5 = up f4 38 (upd (upd (upd (f4 38) 1 (wI 1)) 4 0) 5 (-1)) := ⟨_, rfl⟩
  have n5 : ∀ a, a ≠ 38 → f5 a = f4 a := fun a ha => by rw [ef5, up_ne _ _ _ ha]
  have m1 : EC d mRules_startOrders [.ref 38, .ref 1] (mkM f4 z) = some (none, mkM f5 z) := by
    obtain ⟨d, rfl⟩ : ∃ e, d = e + 1 := ⟨d - 1, by omega⟩
    rw [ef5, q_Rules_startOrders]
    simp -dsimp (disch := omega) only [↓c_0 hz, r_0_0 hz, r_0_1 hz, r_0_2 hz, v_0_3 hz, w_0_3 hz, p_0_3 hz, r_0_4 hz, r_0_5 hz, r_0_6 hz, g_0_7 hz, p_0_7 hz, r_0_8 hz, r_0_9 hz, r_0_10 hz, r_0_11 hz, r_0_12 hz, g_0_13 hz, p_0_13 hz, g_0_14 hz, p_0_14 hz, g_0_15 hz, p_0_15 hz, g_0_16 hz, p_0_16 hz, g_0_17 hz, p_0_17 hz, g_0_18 hz, p_0_18 hz, r_0_19 hz, ↓c_1 hz, g_1_0 hz, p_1_0 hz, r_1_1 hz, g_1_2 hz, p_1_2 hz, r_1_3 hz, r_1_4 hz, r_1_5 hz, r_1_6 hz, r_1_7 hz, r_1_8 hz, r_1_9 hz, g_1_10 hz, p_1_10 hz, r_1_11 hz, r_1_12 hz, r_1_13 hz, g_1_14 hz, p_1_14 hz, r_1_15 hz, g_1_16 hz, p_1_16 hz, l_2 hz, s_2 hz, n_2 hz, l_3 hz, s_3 hz, n_3 hz, l_4 hz, s_4 hz, n_4 hz, l_5 hz, s_5 hz, n_5 hz, l_6 hz, s_6 hz, n_6 hz, l_7 hz, s_7 hz, n_7 hz, l_8 hz, s_8 hz, n_8 hz, l_9 hz, s_9 hz, n_9 hz, l_10 hz, s_10 hz, n_10 hz, l_11 hz, s_11 hz, n_11 hz, l_12 hz, s_12 hz, n_12 hz, l_13 hz, ↓c_14 hz, g_14_0 hz, p_14_0 hz, r_14_1 hz, g_14_2 hz, p_14_2 hz, r_14_3 hz, r_14_4 hz, r_14_5 hz, r_14_6 hz, r_14_7 hz, r_14_8 hz, r_14_9 hz, g_14_10 hz, p_14_10 hz, r_14_11 hz, r_14_12 hz, r_14_13 hz, g_14_14 hz, p_14_14 hz, r_14_15 hz, g_14_16 hz, p_14_16 hz, l_15 hz, s_15 hz, n_15 hz, l_16 hz, s_16 hz, n_16 hz, l_17 hz, s_17 hz, n_17 hz, l_18 hz, s_18 hz, n_18 hz, l_19 hz, s_19 hz, n_19 hz, l_20 hz, s_20 hz, n_20 hz, l_21 hz, s_21 hz, n_21 hz, l_22 hz, s_22 hz, n_22 hz, l_23 hz, s_23 hz, n_23 hz, l_24 hz, s_24 hz, n_24 hz, l_25 hz, s_25 hz, n_25 hz, l_26 hz, l_27 hz, ↓c_28 hz, r_28_0 hz, g_28_1 hz, p_28_1 hz, g_28_2 hz, p_28_2 hz, l_29 hz, s_29 hz, n_29 hz, ↓c_30 hz, r_30_0 hz, g_30_1 hz, p_30_1 hz, g_30_2 hz, p_30_2 hz, l_31 hz, s_31 hz, n_31 hz, l_32 hz, s_32 hz, n_32 hz, ↓c_33 hz, r_33_0 hz, v_33_1 hz, w_33_1 hz, p_33_1 hz, g_33_2 hz, p_33_2 hz, g_33_3 hz, p_33_3 hz, g_33_4 hz, p_33_4 hz, g_33_5 hz, p_33_5 hz, g_33_6 hz, p_33_6 hz, g_33_7 hz, p_33_7 hz, g_33_8 hz, p_33_8 hz, g_33_9 hz, p_33_9 hz, ↓c_34 hz, g_34_0 hz, p_34_0 hz, g_34_1 hz, p_34_1 hz, r_34_2 hz, r_34_3 hz, l_35 hz, s_35 hz, n_35 hz, l_36 hz, s_36 hz, n_36 hz, ↓c_38 hz, r_38_0 hz, v_38_1 hz, w_38_1 hz, p_38_1 hz, g_38_2 hz, p_38_2 hz, g_38_3 hz, p_38_3 hz, g_38_4 hz, p_38_4 hz, g_38_5 hz, p_38_5 hz, l_39 hz, s_39 hz, n_39 hz, ↓c_40 hz, r_40_0 hz, r_40_1 hz, r_40_2 hz, r_40_3 hz, g_40_4 hz, p_40_4 hz, l_41 hz, s_41 hz, n_41 hz, l_42 hz, s_42 hz, n_42 hz, l_43 hz, s_43 hz, n_43 hz, l_44 hz, s_44 hz, n_44 hz, ↓c_45 hz, r_45_0 hz, r_45_1 hz, r_45_2 hz, r_45_3 hz, r_45_4 hz, g_45_5 hz, p_45_5 hz, l_46 hz, s_46 hz, n_46 hz, l_47 hz, s_47 hz, n_47 hz, l_48 hz, s_48 hz, n_48 hz, l_49 hz, s_49 hz, n_49 hz, l_50 hz, s_50 hz, n_50 hz, ↓c_51 hz, r_51_0 hz, r_51_1 hz, r_51_2 hz, r_51_3 hz, r_51_4 hz, g_51_5 hz, p_51_5 hz, g_51_6 hz, p_51_6 hz, l_52 hz, s_52 hz, n_52 hz, l_53 hz, s_53 hz, n_53 hz, l_54 hz, s_54 hz, n_54 hz, l_55 hz, s_55 hz, n_55 hz, l_56 hz, s_56 hz, n_56 hz, l_57 hz, s_57 hz, n_57 hz, hO_s, hI_s, hL_s, hQ_s, hQ_n, hR_s, hV_s, hN_n, hN_s, cond_true, lI_0, lI_1, sI_0, sI_1, lL_0, lL_1, ↓reduceIte, not_true_eq_false, not_false_eq_true, Nat.reduceEqDiff, Nat.reduceAdd, Nat.reduceMul, Nat.reduceSub, Nat.reduceLeDiff, Nat.reduceLT, li_2, li_3, li_4, li_5, li_6, li_7, li_8, li_9, li_10, li_11, li_12, li_13, li_14, li_15, li_16, li_17, li_18, li_19, li_20, li_21, li_22, li_23, li_24, li_25, li_26, li_27, li_28, li_29, li_30, li_31, li_32, li_33, li_34, li_35, li_36, li_37, li_38, li_39, li_40, li_41, li_42, li_43, li_44, li_45, li_46, li_47, li_48, li_49, li_50, li_51, li_52, li_53, li_54, li_55, li_56, li_57, li_58, li_59, li_60, li_61, li_62, li_63, li_64, li_65, li_66, li_67, li_68, li_69, li_70, li_71, li_72, li_73, li_74, li_75, li_76, li_77, li_78, li_79, li_80, li_81, li_82, li_83, li_84, li_85, li_86, li_87, li_88, li_89, li_90, li_91, li_92, li_93, li_94, li_95, li_96, li_97, li_98, li_99, li_100, li_101, li_102, li_103, li_104, li_105, li_106, li_107, li_108, li_109, li_110, li_111, li_112, li_113, li_114, li_115, li_116, li_117, li_118, li_119, li_120, li_121, li_122, li_255, li_400, li_608, li_998, li_999, li_1000, li_1024, li_1103, li_2400, li_2911, li_4095, li_4096, li_5711, li_9999, li_12345, li_1000000, li_1000003, li_252645135, li_858993459, li_1431655765, wI_add, wI_mul, wI_add1, wI_1add, up_up, up_eq]
  have hX : XO S xs f5 z (layO N T L, U, 0, -1) Z T 0 (upd (upd c 7 (-1)) 6 (-1)) := by
    have hY4 : IY S xs f4 z (layO N T L) U Z T 0 (upd (upd c 7 (-1)) 6 (-1)) := IY_s hY1 ⟨by rw [n4 0 (by decide) (by decide) (by decide)], by rw [n4 0 (by decide) (by decide) (by decide)]⟩ (RI_c hY1.2.2.2.1 (n4 38 (by decide) (by decide) (by decide))) (fun a ha => n4 a (by omega) (by omega) (by omega)) (CX_s hY1.2.2.2.2.2.2.2.2 (n4 0 (by decide) (by decide) (by decide)) (n4 57 (by decide) (by decide) (by decide)))
    refine XO_of hY4 (fun a a1 a2 => n5 a a1) (S2_c (RI_2 hY4.2.2.2.1) ?_ ?_) ?_ ?_ ?_ (by decide) (by decide)
    · rw [ef5, up_eq]; simp (disch := decide) only [upd_ne]
    · rw [ef5, up_eq]; simp (disch := decide) only [upd_ne]
    · rw [ef5, up_eq]; simp (disch := decide) only [upd_ne, upd_eq]
    · rw [ef5, up_eq]; simp (disch := decide) only [upd_ne, upd_eq]; rfl
    · rw [ef5, up_eq]; simp (disch := decide) only [upd_ne, upd_eq]; rfl
  have hS : BS f5 f2 z (layO N T L) := by
    refine ⟨KH_lo j2 (fun a ha => by rw [n5 a (by omega), k5 a (by omega) (by omega)]), fun k hk => ?_, ?_, ?_⟩
    · rw [n5 31 (by decide), k2 k hk, j3 29 (by decide)]
    · rw [n5 30 (by decide), k3, j3 28 (by decide)]
    · rw [n5 30 (by decide), k4, j3 28 (by decide)]
  have hP : PT f5 34 72 400 cls := PT_c hpt (by rw [n5 34 (by decide), n4 34 (by decide) (by decide) (by decide), n2 34 (by decide)]) (by rw [n5 35 (by decide), n4 35 (by decide) (by decide) (by decide), n2 35 (by decide)]) (by rw [n5 36 (by decide), n4 36 (by decide) (by decide) (by decide), n2 36 (by decide)])
  have hlen := (pText_len _ _ _ _ _ hp).2
  have hW : WB (layO N T L, U, 0, -1) 0 := ⟨hY1.2.2.1.2.2.1, show (0 : Int) ≤ 0 by decide, show (0 : Int) ≤ 0 by decide, show (-1 : Int) ≤ -1 by decide, show (-1 : Int) ≤ 100000 by decide⟩
  obtain ⟨A, B⟩ := x_run (f0 := f2) (N0 := layO N T L) (U0 := U) (d := d) hY1.2.2.2.2.1 hY1.2.2.2.2.2.1 hlen (fun i hi => pText_all ordC_QO _ _ _ _ _ hp _ (getD_mem hi)) (by omega) cls 0 (layO N T L, U, 0, -1) f5 0 (fun j hj => by rw [Nat.zero_add]) (by omega) hX hW (by omega) hP hS
  have n25 : ∀ a, 58 ≤ a ∧ a < 86 → f5 a = f a := fun a ha => by rw [n5 a (by omega), n4 a (by omega) (by omega) (by omega), n2 a (by omega), n1 a (by omega) (by omega) (by omega) (by omega) (by omega)]
  have stepQ : EC (d + 1) mX_orders [.ref 0] (mkM f z) = Ev (d + 1) mX_orders 77 [(0, .ref 0), (2, .int (wI 0))] [] (mkM f5 z) := by
    rw [ef2] at j1
    rw [q_X_orders]
    simp -dsimp (disch := omega) only [↓c_0 hz, r_0_0 hz, r_0_1 hz, r_0_2 hz, v_0_3 hz, w_0_3 hz, p_0_3 hz, r_0_4 hz, r_0_5 hz, r_0_6 hz, g_0_7 hz, p_0_7 hz, r_0_8 hz, r_0_9 hz, r_0_10 hz, r_0_11 hz, r_0_12 hz, g_0_13 hz, p_0_13 hz, g_0_14 hz, p_0_14 hz, g_0_15 hz, p_0_15 hz, g_0_16 hz, p_0_16 hz, g_0_17 hz, p_0_17 hz, g_0_18 hz, p_0_18 hz, r_0_19 hz, ↓c_1 hz, g_1_0 hz, p_1_0 hz, r_1_1 hz, g_1_2 hz, p_1_2 hz, r_1_3 hz, r_1_4 hz, r_1_5 hz, r_1_6 hz, r_1_7 hz, r_1_8 hz, r_1_9 hz, g_1_10 hz, p_1_10 hz, r_1_11 hz, r_1_12 hz, r_1_13 hz, g_1_14 hz, p_1_14 hz, r_1_15 hz, g_1_16 hz, p_1_16 hz, l_2 hz, s_2 hz, n_2 hz, l_3 hz, s_3 hz, n_3 hz, l_4 hz, s_4 hz, n_4 hz, l_5 hz, s_5 hz, n_5 hz, l_6 hz, s_6 hz, n_6 hz, l_7 hz, s_7 hz, n_7 hz, l_8 hz, s_8 hz, n_8 hz, l_9 hz, s_9 hz, n_9 hz, l_10 hz, s_10 hz, n_10 hz, l_11 hz, s_11 hz, n_11 hz, l_12 hz, s_12 hz, n_12 hz, l_13 hz, ↓c_14 hz, g_14_0 hz, p_14_0 hz, r_14_1 hz, g_14_2 hz, p_14_2 hz, r_14_3 hz, r_14_4 hz, r_14_5 hz, r_14_6 hz, r_14_7 hz, r_14_8 hz, r_14_9 hz, g_14_10 hz, p_14_10 hz, r_14_11 hz, r_14_12 hz, r_14_13 hz, g_14_14 hz, p_14_14 hz, r_14_15 hz, g_14_16 hz, p_14_16 hz, l_15 hz, s_15 hz, n_15 hz, l_16 hz, s_16 hz, n_16 hz, l_17 hz, s_17 hz, n_17 hz, l_18 hz, s_18 hz, n_18 hz, l_19 hz, s_19 hz, n_19 hz, l_20 hz, s_20 hz, n_20 hz, l_21 hz, s_21 hz, n_21 hz, l_22 hz, s_22 hz, n_22 hz, l_23 hz, s_23 hz, n_23 hz, l_24 hz, s_24 hz, n_24 hz, l_25 hz, s_25 hz, n_25 hz, l_26 hz, l_27 hz, ↓c_28 hz, r_28_0 hz, g_28_1 hz, p_28_1 hz, g_28_2 hz, p_28_2 hz, l_29 hz, s_29 hz, n_29 hz, ↓c_30 hz, r_30_0 hz, g_30_1 hz, p_30_1 hz, g_30_2 hz, p_30_2 hz, l_31 hz, s_31 hz, n_31 hz, l_32 hz, s_32 hz, n_32 hz, ↓c_33 hz, r_33_0 hz, v_33_1 hz, w_33_1 hz, p_33_1 hz, g_33_2 hz, p_33_2 hz, g_33_3 hz, p_33_3 hz, g_33_4 hz, p_33_4 hz, g_33_5 hz, p_33_5 hz, g_33_6 hz, p_33_6 hz, g_33_7 hz, p_33_7 hz, g_33_8 hz, p_33_8 hz, g_33_9 hz, p_33_9 hz, ↓c_34 hz, g_34_0 hz, p_34_0 hz, g_34_1 hz, p_34_1 hz, r_34_2 hz, r_34_3 hz, l_35 hz, s_35 hz, n_35 hz, l_36 hz, s_36 hz, n_36 hz, ↓c_38 hz, r_38_0 hz, v_38_1 hz, w_38_1 hz, p_38_1 hz, g_38_2 hz, p_38_2 hz, g_38_3 hz, p_38_3 hz, g_38_4 hz, p_38_4 hz, g_38_5 hz, p_38_5 hz, l_39 hz, s_39 hz, n_39 hz, ↓c_40 hz, r_40_0 hz, r_40_1 hz, r_40_2 hz, r_40_3 hz, g_40_4 hz, p_40_4 hz, l_41 hz, s_41 hz, n_41 hz, l_42 hz, s_42 hz, n_42 hz, l_43 hz, s_43 hz, n_43 hz, l_44 hz, s_44 hz, n_44 hz, ↓c_45 hz, r_45_0 hz, r_45_1 hz, r_45_2 hz, r_45_3 hz, r_45_4 hz, g_45_5 hz, p_45_5 hz, l_46 hz, s_46 hz, n_46 hz, l_47 hz, s_47 hz, n_47 hz, l_48 hz, s_48 hz, n_48 hz, l_49 hz, s_49 hz, n_49 hz, l_50 hz, s_50 hz, n_50 hz, ↓c_51 hz, r_51_0 hz, r_51_1 hz, r_51_2 hz, r_51_3 hz, r_51_4 hz, g_51_5 hz, p_51_5 hz, g_51_6 hz, p_51_6 hz, l_52 hz, s_52 hz, n_52 hz, l_53 hz, s_53 hz, n_53 hz, l_54 hz, s_54 hz, n_54 hz, l_55 hz, s_55 hz, n_55 hz, l_56 hz, s_56 hz, n_56 hz, l_57 hz, s_57 hz, n_57 hz, hO_s, hI_s, hL_s, hQ_s, hQ_n, hR_s, hV_s, hN_n, hN_s, cond_true, lI_0, lI_1, sI_0, sI_1, lL_0, lL_1, ↓reduceIte, not_true_eq_false, not_false_eq_true, Nat.reduceEqDiff, Nat.reduceAdd, Nat.reduceMul, Nat.reduceSub, Nat.reduceLeDiff, Nat.reduceLT, li_2, li_3, li_4, li_5, li_6, li_7, li_8, li_9, li_10, li_11, li_12, li_13, li_14, li_15, li_16, li_17, li_18, li_19, li_20, li_21, li_22, li_23, li_24, li_25, li_26, li_27, li_28, li_29, li_30, li_31, li_32, li_33, li_34, li_35, li_36, li_37, li_38, li_39, li_40, li_41, li_42, li_43, li_44, li_45, li_46, li_47, li_48, li_49, li_50, li_51, li_52, li_53, li_54, li_55, li_56, li_57, li_58, li_59, li_60, li_61, li_62, li_63, li_64, li_65, li_66, li_67, li_68, li_69, li_70, li_71, li_72, li_73, li_74, li_75, li_76, li_77, li_78, li_79, li_80, li_81, li_82, li_83, li_84, li_85, li_86, li_87, li_88, li_89, li_90, li_91, li_92, li_93, li_94, li_95, li_96, li_97, li_98, li_99, li_100, li_101, li_102, li_103, li_104, li_105, li_106, li_107, li_108, li_109, li_110, li_111, li_112, li_113, li_114, li_115, li_116, li_117, li_118, li_119, li_120, li_121, li_122, li_255, li_400, li_608, li_998, li_999, li_1000, li_1024, li_1103, li_2400, li_2911, li_4095, li_4096, li_5711, li_9999, li_12345, li_1000000, li_1000003, li_252645135, li_858993459, li_1431655765, wI_add, wI_mul, wI_add1, wI_1add, i0, up_up, up_eq, upd_eq, i1, j1, k1, m1]
    rfl
  rw [stepQ]
  refine ⟨fun W' e => ?_, fun n e => ?_⟩
  · obtain ⟨f', y1, y2, y3, y4⟩ := A W' e
    exact ⟨f', y1, y2, y3, fun a ha => by rw [y4 a ha, n25 a ha]⟩
  · obtain ⟨f', y1, y2, y3, y4⟩ := B n e
    refine ⟨f', y1, y2, CQ.tr ⟨?_, ?_, ?_⟩ y3, fun a ha => by rw [y4 a ha, n25 a ha]⟩
    · rw [n5 0 (by decide), n4 0 (by decide) (by decide) (by decide), e2]; simp (disch := decide) only [upd_ne]
    · rw [n5 0 (by decide), n4 0 (by decide) (by decide) (by decide), e2]; simp (disch := decide) only [upd_ne]
    · rw [n5 54 (by decide), n4 54 (by decide) (by decide) (by decide), n2 54 (by decide), n1 54 (by decide) (by decide) (by decide) (by decide) (by decide)]
end
