/-! ===== ORDERS: both sides ===== -/
section
variable {z : Mem} {S : Nat} {xs : Nat → Int32} {f f' F : Nat → Nat → Int32} {N N' N0 : Nat → Nat} {U U' U0 : US} {Z : Nat → Option (Nat → Nat)} {T : Nat → Nat} {L : Nat} {c c' : Nat → Int32} {W : WS} {cls : List CL} {d : Nat}
theorem m_ord_bad (hz : Sh z) (h : IM f N U Z T L c) (hL : L ≤ 400) (hT : ∀ k, T k < 256) {e : Nat} (hp : pText (cdT T L) (pOrdC (cdT T L) (vlT T L)) (nT T L) 12 0 0 0 = .inl e) (hd : 48 ≤ d) : ∃ f', EC d mM_orders [.ref 58] (mkM f z) = some (some (.int (-6)), mkM f' z) ∧ IM f' N U Z T 0 (refC (upd (upd c 7 (-1)) 6 (wI (plB T L e))) 6) ∧ QM f f' := by
  obtain ⟨d, rfl⟩ : ∃ e, d = e + 1 := ⟨d - 1, by omega⟩
  obtain ⟨f1, ef1⟩ : ∃ f1, f1 = up f 58 (upd (f 58) 43 (-1)) := ⟨_, rfl⟩
  have n1 : ∀ a, a ≠ 58 → f1 a = f a := fun a ha => by rw [ef1, up_ne _ _ _ ha]
  have k1 : ∀ k, k ≠ 43 → f1 58 k = f 58 k := fun k hk => by rw [ef1, up_eq, upd_ne _ _ _ hk]
  obtain ⟨w, f2, i1, i2⟩ := m_readsAs_ord (f := f1) hz hL hT (by unfold WRD; rw [n1 64 (by decide)]; exact h.2.2.1) (fun k hk => by rw [n1 65 (by decide)]; exact h.2.2.2.2.1.2 k hk) (by rw [k1 13 (by decide)]; exact h.2.2.2.2.1.1) (d := d) (by omega)
  rw [hp] at i2
  obtain ⟨⟨r1, r2⟩, r3, r4, r5, r6, r7⟩ := i2
  subst r6
  have n2 : ∀ a, a < 58 ∨ 86 ≤ a ∨ (58 < a ∧ a < 67) ∨ (69 < a ∧ a < 86) → f2 a = f a := fun a ha => by rw [r1 a (by omega) (by omega) (by omega) (by omega), n1 a (by omega)]
  have k2 : ∀ k, k = 0 ∨ k = 6 ∨ k = 24 ∨ k = 31 ∨ k = 53 ∨ k = 54 → f2 58 k = f 58 k := fun k hk => by rw [r2 k (by omega) (by omega) (by omega) (by omega) (by omega) (by omega) (by omega) (by omega) (by omega), k1 k (by omega)]
  have hM : IM f2 N U Z T 0 (upd (upd c 7 (-1)) 6 (wI (plB T L e))) := by
    refine IM_t h ⟨MK_60 h.1.1 (n2 60 (by omega)), h.1.2.1, h.1.2.2.1, by rw [k2 24 (by omega)]; exact h.1.2.2.2⟩ (k2 _ (by omega)) (n2 _ (by omega)) (n2 _ (by omega)) (n2 _ (by omega)) (n2 _ (by omega)) (k2 _ (by omega)) (k2 _ (by omega)) (n2 _ (by omega)) (n2 _ (by omega)) (n2 _ (by omega)) r3 ?_
    have hx := h.2.2.2.2.2
    have e43 : f2 58 43 = -1 := by rw [r2 43 (by omega) (by omega) (by omega) (by omega) (by omega) (by omega) (by omega) (by omega) (by omega), ef1, up_eq, upd_eq]
    unfold CM at *
    obtain ⟨x0, x1, x2, x3, x4, x5, x6, x7, x8⟩ := hx
    rw [e43, r7, n2 59 (by omega), k2 0 (by omega), k2 6 (by omega)]
    simp (disch := decide) only [upd_ne, upd_eq, x0, x1, x2, x3, x4, x5, x6, x7, x8, and_self]
  obtain ⟨f', j1, j2, j3⟩ := m_refuses hz hM (e := 6) (by omega) (d := d) (by omega)
  refine ⟨f', ?_, j2, fun a ha => by rw [j3 a ha, n2 a (by omega)]⟩
  rw [ef1] at i1
  rw [bz_ff] at i1
  rw [q_M_orders]
  simp -dsimp (disch := omega) only [↓c_58 hz, g_58_0 hz, p_58_0 hz, r_58_1 hz, r_58_2 hz, r_58_3 hz, r_58_4 hz, r_58_5 hz, g_58_6 hz, p_58_6 hz, r_58_7 hz, g_58_8 hz, p_58_8 hz, g_58_9 hz, p_58_9 hz, g_58_10 hz, p_58_10 hz, r_58_11 hz, r_58_12 hz, g_58_13 hz, p_58_13 hz, g_58_14 hz, p_58_14 hz, r_58_15 hz, r_58_16 hz, r_58_17 hz, g_58_18 hz, p_58_18 hz, g_58_19 hz, p_58_19 hz, g_58_20 hz, p_58_20 hz, g_58_21 hz, p_58_21 hz, g_58_22 hz, p_58_22 hz, g_58_23 hz, p_58_23 hz, g_58_24 hz, p_58_24 hz, g_58_25 hz, p_58_25 hz, r_58_26 hz, g_58_27 hz, p_58_27 hz, g_58_28 hz, p_58_28 hz, r_58_29 hz, r_58_30 hz, g_58_31 hz, p_58_31 hz, r_58_32 hz, r_58_33 hz, r_58_34 hz, r_58_35 hz, r_58_36 hz, r_58_37 hz, g_58_38 hz, p_58_38 hz, r_58_39 hz, r_58_40 hz, r_58_41 hz, g_58_42 hz, p_58_42 hz, g_58_43 hz, p_58_43 hz, g_58_44 hz, p_58_44 hz, g_58_45 hz, p_58_45 hz, g_58_46 hz, p_58_46 hz, g_58_47 hz, p_58_47 hz, g_58_48 hz, p_58_48 hz, r_58_49 hz, r_58_50 hz, r_58_51 hz, r_58_52 hz, g_58_53 hz, p_58_53 hz, g_58_54 hz, p_58_54 hz, g_58_55 hz, p_58_55 hz, l_59 hz, s_59 hz, n_59 hz, l_60 hz, s_60 hz, n_60 hz, l_61 hz, s_61 hz, n_61 hz, l_62 hz, s_62 hz, n_62 hz, l_63 hz, s_63 hz, n_63 hz, l_64 hz, s_64 hz, n_64 hz, l_65 hz, s_65 hz, n_65 hz, l_66 hz, s_66 hz, n_66 hz, l_67 hz, s_67 hz, n_67 hz, l_68 hz, s_68 hz, n_68 hz, l_69 hz, s_69 hz, n_69 hz, l_70 hz, s_70 hz, n_70 hz, l_71 hz, s_71 hz, n_71 hz, l_72 hz, s_72 hz, n_72 hz, l_73 hz, s_73 hz, n_73 hz, l_74 hz, s_74 hz, n_74 hz, l_75 hz, s_75 hz, n_75 hz, l_76 hz, s_76 hz, n_76 hz, l_77 hz, s_77 hz, n_77 hz, l_78 hz, s_78 hz, n_78 hz, l_79 hz, s_79 hz, n_79 hz, l_80 hz, s_80 hz, n_80 hz, l_81 hz, s_81 hz, n_81 hz, l_82 hz, s_82 hz, l_83 hz, s_83 hz, n_83 hz, l_84 hz, s_84 hz, n_84 hz, l_85 hz, s_85 hz, n_85 hz, hO_s, hI_s, hL_s, hQ_s, hQ_n, hR_s, hV_s, hN_n, hN_s, cond_true, lI_0, lI_1, sI_0, sI_1, lL_0, lL_1, ↓reduceIte, not_true_eq_false, not_false_eq_true, Nat.reduceEqDiff, Nat.reduceAdd, Nat.reduceMul, Nat.reduceSub, Nat.reduceLeDiff, Nat.reduceLT, li_2, li_3, li_4, li_5, li_6, li_7, li_8, li_9, li_10, li_11, li_12, li_13, li_14, li_15, li_16, li_17, li_18, li_19, li_20, li_21, li_22, li_23, li_24, li_25, li_26, li_27, li_28, li_29, li_30, li_31, li_32, li_33, li_34, li_35, li_36, li_37, li_38, li_39, li_40, li_41, li_42, li_43, li_44, li_45, li_46, li_47, li_48, li_49, li_50, li_51, li_52, li_53, li_54, li_55, li_56, li_57, li_58, li_59, li_60, li_61, li_62, li_63, li_64, li_65, li_66, li_67, li_68, li_69, li_70, li_71, li_72, li_73, li_74, li_75, li_76, li_77, li_78, li_79, li_80, li_81, li_82, li_83, li_84, li_85, li_86, li_87, li_88, li_89, li_90, li_91, li_92, li_93, li_94, li_95, li_96, li_97, li_98, li_99, li_100, li_101, li_102, li_103, li_104, li_105, li_106, li_107, li_108, li_109, li_110, li_111, li_112, li_113, li_114, li_115, li_116, li_117, li_118, li_119, li_120, li_121, li_122, li_255, li_400, li_608, li_998, li_999, li_1000, li_1024, li_1103, li_2400, li_2911, li_4095, li_4096, li_5711, li_9999, li_12345, li_1000000, li_1000003, li_252645135, li_858993459, li_1431655765, wI_add, wI_mul, wI_add1, wI_1add, i1, j1]
theorem m_ord_ok (hz : Sh z) (h : IM f N U Z T L c) (hL : L ≤ 400) (hT : ∀ k, T k < 256) (hp : pText (cdT T L) (pOrdC (cdT T L) (vlT T L)) (nT T L) 12 0 0 0 = .inr cls) (hd : 60 ≤ d) :
    (∀ W', oRun 0 cls (layO N T L, U, 0, -1) = .inr W' → ∃ f', EC d mM_orders [.ref 58] (mkM f z) = some (some (.int (jI W'.2.2.1)), mkM f' z) ∧ IM f' W'.1 W'.2.1 Z T 0 (okC (upd (upd c 7 (-1)) 6 (-1))) ∧ QM f f') ∧
    (∀ k, oRun 0 cls (layO N T L, U, 0, -1) = .inl k → ∃ f', EC d mM_orders [.ref 58] (mkM f z) = some (some (.int (-3)), mkM f' z) ∧ IM f' (layO N T L) U Z T 0 (refC (upd (upd (upd c 7 (-1)) 6 (-1)) 7 (wI k)) 3) ∧ QM f f') := by
  obtain ⟨d, rfl⟩ : ∃ e, d = e + 1 := ⟨d - 1, by omega⟩
  have e1 : ((1 : Int32) = 0) = False := eq_false (by decide)
  have hnL := nT_le (T := T) (L := L)
  have hv := h.1.2.1
  have hr6 := layO_R6 (N := N) (T := T) (L := L) hL
  have hB6 := layO_B (L := L) hv hL hT
  have hv6 := R6_VK hr6 hv hB6
  have h102 := hv.2.2.2.2.1
  have hl6 : LL (layO N T L) := fun i hi => by
    rw [hr6 102 (by omega)] at hi
    obtain ⟨cls', b6⟩ := h.1.2.2.1 i hi
    exact ⟨cls', R6_LT hr6 (by omega) b6⟩
  obtain ⟨f1, ef1⟩ : ∃ f1, f1 = up f 58 (upd (f 58) 43 (-1)) := ⟨_, rfl⟩
  have n1 : ∀ a, a ≠ 58 → f1 a = f a := fun a ha => by rw [ef1, up_ne _ _ _ ha]
  have k1 : ∀ k, k ≠ 43 → f1 58 k = f 58 k := fun k hk => by rw [ef1, up_eq, upd_ne _ _ _ hk]
  obtain ⟨w, f2, i1, i2⟩ := m_readsAs_ord (f := f1) hz hL hT (by unfold WRD; rw [n1 64 (by decide)]; exact h.2.2.1) (fun k hk => by rw [n1 65 (by decide)]; exact h.2.2.2.2.1.2 k hk) (by rw [k1 13 (by decide)]; exact h.2.2.2.2.1.1) (d := d) (by omega)
  rw [hp] at i2
  obtain ⟨⟨r1, r2⟩, r3, r4, r5, r6, r7⟩ := i2
  subst r6
  have n2 : ∀ a, a < 58 ∨ 86 ≤ a ∨ (58 < a ∧ a < 67) ∨ (69 < a ∧ a < 86) → f2 a = f a := fun a ha => by rw [r1 a (by omega) (by omega) (by omega) (by omega), n1 a (by omega)]
  have k2 : ∀ k, k = 0 ∨ k = 6 ∨ k = 24 ∨ k = 31 ∨ k = 53 ∨ k = 54 → f2 58 k = f 58 k := fun k hk => by rw [r2 k (by omega) (by omega) (by omega) (by omega) (by omega) (by omega) (by omega) (by omega) (by omega), k1 k (by omega)]
  have e43 : f2 58 43 = -1 := by rw [r2 43 (by omega) (by omega) (by omega) (by omega) (by omega) (by omega) (by omega) (by omega) (by omega), ef1, up_eq, upd_eq]
  have m2 : MK f2 N := MK_60 h.1.1 (n2 60 (by omega))
  obtain ⟨g3, j1, -, j3⟩ := m_laysAside (f := f2) hz (k := 7) (by decide) (d := d) (by omega)
  obtain ⟨g4, l1, -, l3⟩ := orders_28 (F := up f2 63 g3) hz (d := d) 608 0 (up f2 63 g3 72) rfl
  rw [up_same] at l1
  obtain ⟨f4, ef4⟩ : ∃ f4, f4 = up (up f2 63 g3) 72 g4 := ⟨_, rfl⟩
  have n4 : ∀ a, a ≠ 63 → a ≠ 72 → f4 a = f2 a := fun a a1 a2 => by rw [ef4, up_ne _ _ _ a2, up_ne _ _ _ a1]
  obtain ⟨g5, o1, o2⟩ := m_lays (f := f4) (i := 6) (n := nT T L) (c := cdT T L) (v := vlT T L) hz (MK_60 m2 (n4 60 (by decide) (by decide))) (by decide) (by omega) (by rw [n4 58 (by decide) (by decide)]; exact r4) (fun t ht => by rw [n4 67 (by decide) (by decide), n4 68 (by decide) (by decide)]; exact ⟨(r5 t (by omega)).1, (r5 t (by omega)).2.1⟩) (d := d) (by omega)
  have o2' : MK (up f4 60 g5) (layO N T L) := o2
  obtain ⟨f6, ef6⟩ : ∃ f6, f6 = up (up f4 60 g5) 58 (upd (upd (upd (f2 58) 27 0) 28 (-1)) 44 (wI 2400)) := ⟨_, rfl⟩
  have n6 : ∀ a, a ≠ 58 → a ≠ 60 → a ≠ 63 → a ≠ 72 → f6 a = f2 a := fun a a1 a2 a3 a4 => by rw [ef6, up_ne _ _ _ a1, up_ne _ _ _ a2, n4 a a3 a4]
  have k6 : ∀ k, k ≠ 27 → k ≠ 28 → k ≠ 44 → f6 58 k = f2 58 k := fun k a1 a2 a3 => by rw [ef6, up_eq, upd_ne _ _ _ a3, upd_ne _ _ _ a2, upd_ne _ _ _ a1]
  have m6 : MK f6 (layO N T L) := MK_60 o2' (by rw [ef6, up_ne _ _ _ (by decide)])
  have hM : IM f6 (layO N T L) U Z T 0 (upd (upd c 7 (-1)) 6 (-1)) := by
    have n' : ∀ a, a < 58 ∨ 86 ≤ a ∨ a = 59 ∨ (60 < a ∧ a < 63) ∨ (63 < a ∧ a < 67) ∨ (69 < a ∧ a < 72) ∨ (72 < a ∧ a < 86) → f6 a = f a := fun a ha => by rw [n6 a (by omega) (by omega) (by omega) (by omega), n2 a (by omega)]
    have k' : ∀ k, k = 0 ∨ k = 6 ∨ k = 24 ∨ k = 31 ∨ k = 53 ∨ k = 54 → f6 58 k = f 58 k := fun k hk => by rw [k6 k (by omega) (by omega) (by omega), k2 k hk]
    refine IM_t h ⟨m6, hv6, hl6, by rw [k' 24 (by omega)]; exact h.1.2.2.2⟩ (k' _ (by omega)) (n' _ (by omega)) (n' _ (by omega)) (n' _ (by omega)) (n' _ (by omega)) (k' _ (by omega)) (k' _ (by omega)) (n' _ (by omega)) (n' _ (by omega)) (n' _ (by omega)) (by rw [k6 13 (by decide) (by decide) (by decide)]; exact r3) ?_
    have hx := h.2.2.2.2.2
    unfold CM at *
    obtain ⟨x0, x1, x2, x3, x4, x5, x6, x7, x8⟩ := hx
    rw [k6 43 (by decide) (by decide) (by decide), e43, k6 14 (by decide) (by decide) (by decide), r7, n' 59 (by omega), k' 0 (by omega), k' 6 (by omega)]
    simp (disch := decide) only [upd_ne, upd_eq, x0, x1, x2, x3, x4, x5, x6, x7, x8, and_self]
  have hR : RO f6 (layO N T L, U, 0, -1) Z T 0 (upd (upd c 7 (-1)) 6 (-1)) := ⟨hM, by rw [ef6, up_eq, upd_ne _ _ _ (by decide), upd_ne _ _ _ (by decide), upd_eq]; rfl, by rw [ef6, up_eq, upd_ne _ _ _ (by decide), upd_eq]; rfl⟩
  have hW : WB (layO N T L, U, 0, -1) 0 := ⟨hv6, show (0 : Int) ≤ 0 by decide, show (0 : Int) ≤ 0 by decide, show (-1 : Int) ≤ -1 by decide, show (-1 : Int) ≤ 100000 by decide⟩
  have lt1 : ∀ t, t < nT T L → layO N T L (111 + (2400 + t)) = cdT T L t := fun t ht => by
    unfold layO layN
    rw [if_neg (by omega), if_pos (by omega), show 111 + (2400 + t) - (111 + 400 * 6) = t by omega]
  have lt2 : ∀ t, t < nT T L → layO N T L (2911 + (2400 + t)) = vlT T L t := fun t ht => by
    unfold layO layN
    rw [if_neg (by omega), if_neg (by omega), if_pos (by omega), show 2911 + (2400 + t) - (2911 + 400 * 6) = t by omega]
  have hC : cdN (layO N T L) 2400 (nT T L) = cdT T L := cdN_T rfl lt1
  have hp' : pText (cdT T L) (pOrdC (cdT T L) (vlN (layO N T L) 2400)) (nT T L) 12 0 0 0 = .inr cls := by
    rw [pv_ord (V := vlN (layO N T L) 2400) (W := vlT T L) (fun t ht => ?_)]
    · exact hp
    · rcases Nat.lt_or_ge t (nT T L) with hh | hh
      · exact lt2 t hh
      · rw [cdT_end hh] at ht; cases ht
  have hlen := (pText_len _ _ _ _ _ hp).2
  have hS : MSV f6 (layO N T L) U := by
    have u := h.2.1
    refine ⟨fun i hi => ?_, u.1, fun i hi => ⟨fun k hk => ?_, ?_⟩⟩
    · rw [ef6, up_ne _ _ _ (by decide), up_ne _ _ _ (by decide), ef4, up_ne _ _ _ (by decide), up_eq, j3 i hi, m2.1 i (by omega) (by omega), hr6 i (by omega)]
    · have u1 := u.1
      rw [ef6, up_ne _ _ _ (by decide), up_ne _ _ _ (by decide), ef4, up_eq, l3 _ (by omega) (by omega), up_ne _ _ _ (by decide), n2 71 (by omega)]
      exact (u.2.2 i hi).1 k hk
    · have u1 := u.1
      rw [ef6, up_ne _ _ _ (by decide), up_ne _ _ _ (by decide), ef4, up_eq, l3 _ (by omega) (by omega), up_ne _ _ _ (by decide), n2 71 (by omega)]
      exact (u.2.2 i hi).2
  obtain ⟨P, Q⟩ := m_run (A := 2400) (n := nT T L) (C := cdT T L) (V := vlN (layO N T L) 2400) (N0 := layO N T L) (U0 := U) hz (by omega) (by decide) (by omega) hv6 hl6 (d := d) (by omega) 12 0 0 0 cls (layO N T L, U, 0, -1) f6 0 0 hp' hR hW (by omega) (by rw [ef6, up_eq, upd_eq]) ⟨hC, rfl⟩ hS (fun _ _ => rfl) (by omega)
  have e110 : up f4 60 g5 60 110 = wI (nT T L) := by
    rw [o2'.1 110 (by decide) (by decide)]
    congr 1
  have e31 : f4 58 31 = wI U.1 := by rw [n4 58 (by decide) (by decide), k2 31 (by omega)]; exact h.2.1.2.1
  have qf : QM f f6 := fun a ha => by rw [n6 a (by omega) (by omega) (by omega) (by omega), n2 a (by omega)]
  have stepQ : EC (d + 1) mM_orders [.ref 58] (mkM f z) = Ev (d + 1) mM_orders 96 [(0, .ref 58), (1, .int (wI U.1)), (2, .int (wI (2400 + nT T L))), (3, .int (wI 0))] [] (mkM f6 z) := by
    rw [ef1] at i1
    rw [bz_tt] at i1
    have s1 : EC (d + 1) mM_orders [.ref 58] (mkM f z) = Ev (d + 1) mM_orders 28 [(0, .ref 58), (1, .int (wI 608))] [] (mkM f4 z) := by
      rw [q_M_orders, ef4, ← l1]
      simp -dsimp (disch := omega) only [↓c_58 hz, g_58_0 hz, p_58_0 hz, r_58_1 hz, r_58_2 hz, r_58_3 hz, r_58_4 hz, r_58_5 hz, g_58_6 hz, p_58_6 hz, r_58_7 hz, g_58_8 hz, p_58_8 hz, g_58_9 hz, p_58_9 hz, g_58_10 hz, p_58_10 hz, r_58_11 hz, r_58_12 hz, g_58_13 hz, p_58_13 hz, g_58_14 hz, p_58_14 hz, r_58_15 hz, r_58_16 hz, r_58_17 hz, g_58_18 hz, p_58_18 hz, g_58_19 hz, p_58_19 hz, g_58_20 hz, p_58_20 hz, g_58_21 hz, p_58_21 hz, g_58_22 hz, p_58_22 hz, g_58_23 hz, p_58_23 hz, g_58_24 hz, p_58_24 hz, g_58_25 hz, p_58_25 hz, r_58_26 hz, g_58_27 hz, p_58_27 hz, g_58_28 hz, p_58_28 hz, r_58_29 hz, r_58_30 hz, g_58_31 hz, p_58_31 hz, r_58_32 hz, r_58_33 hz, r_58_34 hz, r_58_35 hz, r_58_36 hz, r_58_37 hz, g_58_38 hz, p_58_38 hz, r_58_39 hz, r_58_40 hz, r_58_41 hz, g_58_42 hz, p_58_42 hz, g_58_43 hz, p_58_43 hz, g_58_44 hz, p_58_44 hz, g_58_45 hz, p_58_45 hz, g_58_46 hz, p_58_46 hz, g_58_47 hz, p_58_47 hz, g_58_48 hz, p_58_48 hz, r_58_49 hz, r_58_50 hz, r_58_51 hz, r_58_52 hz, g_58_53 hz, p_58_53 hz, g_58_54 hz, p_58_54 hz, g_58_55 hz, p_58_55 hz, l_59 hz, s_59 hz, n_59 hz, l_60 hz, s_60 hz, n_60 hz, l_61 hz, s_61 hz, n_61 hz, l_62 hz, s_62 hz, n_62 hz, l_63 hz, s_63 hz, n_63 hz, l_64 hz, s_64 hz, n_64 hz, l_65 hz, s_65 hz, n_65 hz, l_66 hz, s_66 hz, n_66 hz, l_67 hz, s_67 hz, n_67 hz, l_68 hz, s_68 hz, n_68 hz, l_69 hz, s_69 hz, n_69 hz, l_70 hz, s_70 hz, n_70 hz, l_71 hz, s_71 hz, n_71 hz, l_72 hz, s_72 hz, n_72 hz, l_73 hz, s_73 hz, n_73 hz, l_74 hz, s_74 hz, n_74 hz, l_75 hz, s_75 hz, n_75 hz, l_76 hz, s_76 hz, n_76 hz, l_77 hz, s_77 hz, n_77 hz, l_78 hz, s_78 hz, n_78 hz, l_79 hz, s_79 hz, n_79 hz, l_80 hz, s_80 hz, n_80 hz, l_81 hz, s_81 hz, n_81 hz, l_82 hz, s_82 hz, l_83 hz, s_83 hz, n_83 hz, l_84 hz, s_84 hz, n_84 hz, l_85 hz, s_85 hz, n_85 hz, hO_s, hI_s, hL_s, hQ_s, hQ_n, hR_s, hV_s, hN_n, hN_s, cond_true, lI_0, lI_1, sI_0, sI_1, lL_0, lL_1, ↓reduceIte, not_true_eq_false, not_false_eq_true, Nat.reduceEqDiff, Nat.reduceAdd, Nat.reduceMul, Nat.reduceSub, Nat.reduceLeDiff, Nat.reduceLT, li_2, li_3, li_4, li_5, li_6, li_7, li_8, li_9, li_10, li_11, li_12, li_13, li_14, li_15, li_16, li_17, li_18, li_19, li_20, li_21, li_22, li_23, li_24, li_25, li_26, li_27, li_28, li_29, li_30, li_31, li_32, li_33, li_34, li_35, li_36, li_37, li_38, li_39, li_40, li_41, li_42, li_43, li_44, li_45, li_46, li_47, li_48, li_49, li_50, li_51, li_52, li_53, li_54, li_55, li_56, li_57, li_58, li_59, li_60, li_61, li_62, li_63, li_64, li_65, li_66, li_67, li_68, li_69, li_70, li_71, li_72, li_73, li_74, li_75, li_76, li_77, li_78, li_79, li_80, li_81, li_82, li_83, li_84, li_85, li_86, li_87, li_88, li_89, li_90, li_91, li_92, li_93, li_94, li_95, li_96, li_97, li_98, li_99, li_100, li_101, li_102, li_103, li_104, li_105, li_106, li_107, li_108, li_109, li_110, li_111, li_112, li_113, li_114, li_115, li_116, li_117, li_118, li_119, li_120, li_121, li_122, li_255, li_400, li_608, li_998, li_999, li_1000, li_1024, li_1103, li_2400, li_2911, li_4095, li_4096, li_5711, li_9999, li_12345, li_1000000, li_1000003, li_252645135, li_858993459, li_1431655765, wI_add, wI_mul, wI_add1, wI_1add, i1, e1, j1]
      rfl
    have e2 : up f4 60 g5 58 = f2 58 := by rw [up_ne _ _ _ (by decide), n4 58 (by decide) (by decide)]
    have g110 : g5 110 = wI (nT T L) := by rw [up_eq] at e110; exact e110
    rw [s1, q_M_orders_28, ef6]
    simp -dsimp (disch := omega) only [↓c_58 hz, g_58_0 hz, p_58_0 hz, r_58_1 hz, r_58_2 hz, r_58_3 hz, r_58_4 hz, r_58_5 hz, g_58_6 hz, p_58_6 hz, r_58_7 hz, g_58_8 hz, p_58_8 hz, g_58_9 hz, p_58_9 hz, g_58_10 hz, p_58_10 hz, r_58_11 hz, r_58_12 hz, g_58_13 hz, p_58_13 hz, g_58_14 hz, p_58_14 hz, r_58_15 hz, r_58_16 hz, r_58_17 hz, g_58_18 hz, p_58_18 hz, g_58_19 hz, p_58_19 hz, g_58_20 hz, p_58_20 hz, g_58_21 hz, p_58_21 hz, g_58_22 hz, p_58_22 hz, g_58_23 hz, p_58_23 hz, g_58_24 hz, p_58_24 hz, g_58_25 hz, p_58_25 hz, r_58_26 hz, g_58_27 hz, p_58_27 hz, g_58_28 hz, p_58_28 hz, r_58_29 hz, r_58_30 hz, g_58_31 hz, p_58_31 hz, r_58_32 hz, r_58_33 hz, r_58_34 hz, r_58_35 hz, r_58_36 hz, r_58_37 hz, g_58_38 hz, p_58_38 hz, r_58_39 hz, r_58_40 hz, r_58_41 hz, g_58_42 hz, p_58_42 hz, g_58_43 hz, p_58_43 hz, g_58_44 hz, p_58_44 hz, g_58_45 hz, p_58_45 hz, g_58_46 hz, p_58_46 hz, g_58_47 hz, p_58_47 hz, g_58_48 hz, p_58_48 hz, r_58_49 hz, r_58_50 hz, r_58_51 hz, r_58_52 hz, g_58_53 hz, p_58_53 hz, g_58_54 hz, p_58_54 hz, g_58_55 hz, p_58_55 hz, l_59 hz, s_59 hz, n_59 hz, l_60 hz, s_60 hz, n_60 hz, l_61 hz, s_61 hz, n_61 hz, l_62 hz, s_62 hz, n_62 hz, l_63 hz, s_63 hz, n_63 hz, l_64 hz, s_64 hz, n_64 hz, l_65 hz, s_65 hz, n_65 hz, l_66 hz, s_66 hz, n_66 hz, l_67 hz, s_67 hz, n_67 hz, l_68 hz, s_68 hz, n_68 hz, l_69 hz, s_69 hz, n_69 hz, l_70 hz, s_70 hz, n_70 hz, l_71 hz, s_71 hz, n_71 hz, l_72 hz, s_72 hz, n_72 hz, l_73 hz, s_73 hz, n_73 hz, l_74 hz, s_74 hz, n_74 hz, l_75 hz, s_75 hz, n_75 hz, l_76 hz, s_76 hz, n_76 hz, l_77 hz, s_77 hz, n_77 hz, l_78 hz, s_78 hz, n_78 hz, l_79 hz, s_79 hz, n_79 hz, l_80 hz, s_80 hz, n_80 hz, l_81 hz, s_81 hz, n_81 hz, l_82 hz, s_82 hz, l_83 hz, s_83 hz, n_83 hz, l_84 hz, s_84 hz, n_84 hz, l_85 hz, s_85 hz, n_85 hz, hO_s, hI_s, hL_s, hQ_s, hQ_n, hR_s, hV_s, hN_n, hN_s, cond_true, lI_0, lI_1, sI_0, sI_1, lL_0, lL_1, ↓reduceIte, not_true_eq_false, not_false_eq_true, Nat.reduceEqDiff, Nat.reduceAdd, Nat.reduceMul, Nat.reduceSub, Nat.reduceLeDiff, Nat.reduceLT, li_2, li_3, li_4, li_5, li_6, li_7, li_8, li_9, li_10, li_11, li_12, li_13, li_14, li_15, li_16, li_17, li_18, li_19, li_20, li_21, li_22, li_23, li_24, li_25, li_26, li_27, li_28, li_29, li_30, li_31, li_32, li_33, li_34, li_35, li_36, li_37, li_38, li_39, li_40, li_41, li_42, li_43, li_44, li_45, li_46, li_47, li_48, li_49, li_50, li_51, li_52, li_53, li_54, li_55, li_56, li_57, li_58, li_59, li_60, li_61, li_62, li_63, li_64, li_65, li_66, li_67, li_68, li_69, li_70, li_71, li_72, li_73, li_74, li_75, li_76, li_77, li_78, li_79, li_80, li_81, li_82, li_83, li_84, li_85, li_86, li_87, li_88, li_89, li_90, li_91, li_92, li_93, li_94, li_95, li_96, li_97, li_98, li_99, li_100, li_101, li_102, li_103, li_104, li_105, li_106, li_107, li_108, li_109, li_110, li_111, li_112, li_113, li_114, li_115, li_116, li_117, li_118, li_119, li_120, li_121, li_122, li_255, li_400, li_608, li_998, li_999, li_1000, li_1024, li_1103, li_2400, li_2911, li_4095, li_4096, li_5711, li_9999, li_12345, li_1000000, li_1000003, li_252645135, li_858993459, li_1431655765, wI_add, wI_mul, wI_add1, wI_1add, wI_le, e31, o1, e2, up_ne, up_eq, up_up, upd_eq, g110]
    rfl
  rw [stepQ]
  refine ⟨fun W' e => ?_, fun k e => ?_⟩
  · obtain ⟨f', y1, y2, y3⟩ := P W' e
    exact ⟨f', y1, y2, qf.tr y3⟩
  · obtain ⟨f', y1, y2, y3⟩ := Q k e
    exact ⟨f', y1, y2, qf.tr y3⟩
theorem s_orders (h : IY S xs f z N U Z T L c) (hM : IM f N U Z T L c) (hcr : CR N f) (hd : 100 ≤ d) : STQ S xs d mX_orders mM_orders [] f z := by
  have hz := h.1
  have hv := h.2.2.1.2.2.1
  obtain ⟨t1, t2, t3, t4⟩ := h.2.2.2.2.2.2.2.1
  cases hp : pText (cdT T L) (pOrdC (cdT T L) (vlT T L)) (nT T L) 12 0 0 0 with
  | inl e =>
    obtain ⟨f1, i1, i2, i3, i4⟩ := x_ord_bad h hp (d := d) (by omega)
    obtain ⟨f', j1, j2, j3⟩ := m_ord_bad hz (IM_QX hM i4) t2 t3 hp (d := d) (by omega)
    exact ⟨-6, f1, f', z, N, U, Z, T, 0, _, i1, j1, IY_QM i2 j3, j2, CR_KC hcr (Or.inr ⟨rfl, CQ_QM i3 j3⟩), Nat.le_add_right _ _, Nat.le_add_right _ _⟩
  | inr cls =>
    obtain ⟨P, Q⟩ := x_ord_ok h hp (d := d) (by omega)
    cases hr : oRun 0 cls (layO N T L, U, 0, -1) with
    | inl k =>
      obtain ⟨f1, i1, i2, i3, i4⟩ := Q k hr
      obtain ⟨f', j1, j2, j3⟩ := (m_ord_ok hz (IM_QX hM i4) t2 t3 hp (d := d) (by omega)).2 k hr
      exact ⟨-3, f1, f', z, layO N T L, U, Z, T, 0, _, i1, j1, IY_QM i2 j3, j2, R6_CR (layO_R6 t2) hv hcr (CQ_QM i3 j3), Nat.le_add_right _ _, Nat.le_add_right _ _⟩
    | inr W' =>
      obtain ⟨f1, i1, i2, i3, i4⟩ := P W' hr
      obtain ⟨f', j1, j2, j3⟩ := (m_ord_ok hz (IM_QX hM i4) t2 t3 hp (d := d) (by omega)).1 W' hr
      exact ⟨jI W'.2.2.1, f1, f', z, W'.1, W'.2.1, Z, T, 0, _, i1, j1, IY_QM i2 j3, j2, Or.inl (by rw [j3 0 (by omega)]; exact i3), Nat.le_add_right _ _, Nat.le_add_right _ _⟩
end
