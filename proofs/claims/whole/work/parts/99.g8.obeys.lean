/-! ===== ORDERS: the reference obeys an order ===== -/
def smI (v : Int32) : Int32 := if v < 0 then -1 else if v ≤ 1000000 then v else -1
theorem lgc_neg {a b : Int} (h1 : -9223372036854775808 ≤ a) (h2 : a < 9223372036854775808) (h3 : -9223372036854775808 ≤ b) (h4 : b < 9223372036854775808) : (lg_cmp (kI a) (kI b) < 0) = (a < b) := by
  have h := lgc_ge h1 h2 h3 h4
  apply propext
  rw [← Int32.not_le, h]
  omega
theorem t_M_small {d : Nat} (hd : 1 ≤ d) (v : Int32) (σ : Mem) : EC d mM_small [.long v.toInt64] σ = some (some (.int (smI v)), σ) := by
  obtain ⟨d, rfl⟩ : ∃ e, d = e + 1 := ⟨d - 1, by omega⟩
  obtain ⟨x, rfl, h1, h2⟩ : ∃ x : Int, v = jI x ∧ -2147483648 ≤ x ∧ x < 2147483648 := ⟨v.toInt, (Int32.ofInt_toInt v).symm, Int32.le_toInt v, Int32.toInt_lt v⟩
  rw [j2k h1 h2, q_M_small, kl_0, show (1000000 : Int64) = kI 1000000 from rfl]
  unfold smI
  rw [show (0 : Int32) = jI 0 from rfl, show (1000000 : Int32) = jI 1000000 from rfl]
  simp only [jI_lt h1 h2 (show (-2147483648 : Int) ≤ 0 by decide) (show (0 : Int) < 2147483648 by decide), jI_le h1 h2 (show (-2147483648 : Int) ≤ 1000000 by decide) (show (1000000 : Int) < 2147483648 by decide)]
  have q1 := lgc_neg (a := x) (b := 0) (by omega) (by omega) (by decide) (by decide)
  have q2 := lgc_le (a := x) (b := 1000000) (by omega) (by omega) (by decide) (by decide)
  rw [show (jI 0 : Int32) = 0 from rfl]
  simp only [q1, q2, k2j]
  by_cases e1 : x < 0
  · rw [if_pos e1, if_pos e1]
  · rw [if_neg e1, if_neg e1]
    by_cases e2 : x ≤ 1000000
    · rw [if_pos e2, if_pos e2]
    · rw [if_neg e2, if_neg e2]
theorem sm_cases {a : Int} (h1 : -1000000000 ≤ a) (h2 : a ≤ 1000000000) : smI (jI a) = jI a ∨ (smI (jI a) = -1 ∧ (∀ m, m ≤ 10 → ¬ inb (jI a) m = true) ∧ (jI a < 1 ∨ ¬ jI a ≤ 998)) := by
  have e0 : (jI a < 0) = (a < 0) := jI_lt (b := 0) (by omega) (by omega) (by decide) (by decide)
  have e1 : (jI a ≤ 1000000) = (a ≤ 1000000) := jI_le (b := 1000000) (by omega) (by omega) (by decide) (by decide)
  have e2 : (jI a < 1) = (a < 1) := jI_lt (b := 1) (by omega) (by omega) (by decide) (by decide)
  have e3 : (jI a ≤ 998) = (a ≤ 998) := jI_le (b := 998) (by omega) (by omega) (by decide) (by decide)
  unfold smI
  simp only [e0, e1, e2, e3]
  by_cases c1 : a < 0
  · refine Or.inr ⟨by rw [if_pos c1], fun m hm h => ?_, Or.inl (by omega)⟩
    rw [inb_def, jI_toInt (by omega) (by omega)] at h
    omega
  · by_cases c2 : a ≤ 1000000
    · exact Or.inl (by rw [if_neg c1, if_pos c2])
    · refine Or.inr ⟨by rw [if_neg c1, if_neg c2], fun m hm h => ?_, Or.inr (by omega)⟩
      rw [inb_def, jI_toInt (by omega) (by omega)] at h
      omega
theorem inb_m1 (m : Nat) : ¬ inb (-1) m = true := by
  intro h
  rw [inb_def] at h
  have : (-1 : Int32).toInt = -1 := by decide
  omega
theorem doD_sm {N : Nat → Nat} (hv : VK N) {k : Nat} {a b : Int} (h1 : -1000000000 ≤ a) (h2 : a ≤ 1000000000) (h3 : -1000000000 ≤ b) (h4 : b ≤ 1000000000) : doD N k (smI (jI a)) (smI (jI b)) = doD N k (jI a) (jI b) := by
  have h99 := hv.2.1
  have h100 := hv.2.2.1
  unfold doD
  rcases sm_cases h1 h2 with ea | ⟨ea, na, -⟩
  · rw [ea]
    rcases sm_cases h3 h4 with eb | ⟨eb, nb, pb⟩
    · rw [eb]
    · rw [eb]
      split
      · rw [dGive_2 (fun h => inb_m1 _ h.2), dGive_2 (fun h => nb _ (by omega) h.2)]
      · split
        · rfl
        · split
          · rw [dShave_1 pb, dShave_1 (Or.inl (by decide))]
          · rfl
  · rw [ea]
    split
    · rw [dGive_2 (fun h => inb_m1 _ h.1), dGive_2 (fun h => na _ (by omega) h.1)]
    · split
      · rw [dCall_2 (inb_m1 _), dCall_2 (na _ (by omega))]
      · split
        · rcases sm_cases h3 h4 with eb | ⟨eb, nb, pb⟩
          · rw [eb]
            by_cases hp : jI b < 1 ∨ ¬ jI b ≤ 998
            · rw [dShave_1 hp, dShave_1 hp]
            · rw [dShave_2 hp (inb_m1 _), dShave_2 hp (na _ (by omega))]
          · rw [eb, dShave_1 pb, dShave_1 (Or.inl (by decide))]
        · rfl
section
variable {z : Mem} {f : Nat → Nat → Int32} {N : Nat → Nat} {U : US}
/-- what the latest call told, behind a deed -/
def ltI (k : Nat) (x : Int32) (r : DR) : Int32 := match r with
  | .inl _ => x
  | .inr q => if k = 1 then wI q.1 else x
def MOb (f f' : Nat → Nat → Int32) : Prop := (∀ a, a ≠ 58 → a ≠ 60 → a ≠ 70 → a ≠ 71 → f' a = f a) ∧ ∀ k, k < 22 ∨ k = 26 ∨ k = 27 ∨ k = 29 ∨ k = 30 ∨ 31 < k → f' 58 k = f 58 k
theorem MG_MOb {f f' : Nat → Nat → Int32} (h : MG f f') : MOb f f' := ⟨h.1, fun k hk => h.2 k (by omega) (by omega) (by omega) (by omega) (by omega)⟩
theorem m_obeys (hz : Sh z) (hm : MH f N) (hu : UM f U) {k : Nat} (hk : k ≤ 3) (h46 : f 58 46 = wI (kC k)) {d : Nat} (hd : 48 ≤ d) : ∃ f', EC d mM_obeys [.ref 58] (mkM f z) = some (some (.int (rsI (doD N k (smI (f 82 0)) (smI (f 82 1))))), mkM f' z) ∧ MH f' (nxN N (doD N k (smI (f 82 0)) (smI (f 82 1)))) ∧ UM f' (nxU U N k (doD N k (smI (f 82 0)) (smI (f 82 1)))) ∧ MOb f f' ∧ f' 58 28 = ltI k (f 58 28) (doD N k (smI (f 82 0)) (smI (f 82 1))) := by
  obtain ⟨d, rfl⟩ : ∃ e, d = e + 1 := ⟨d - 1, by omega⟩
  have hB := hm.2.1.1
  have s1 := t_M_small (d := d) (by omega) (f 82 0) (mkM f z)
  have s2 := t_M_small (d := d) (by omega) (f 82 1) (mkM f z)
  have l0 := l_82 hz f (k := 0) (by decide)
  have l1 := l_82 hz f (k := 1) (by decide)
  rw [show (wI 0 : Int32) = 0 from rfl] at l0
  rw [show (wI 1 : Int32) = 1 from rfl] at l1
  generalize smI (f 82 0) = a at s1 ⊢
  generalize smI (f 82 1) = p at s2 ⊢
  rw [q_M_obeys]
  rcases (show k = 0 ∨ k = 1 ∨ k = 2 ∨ k = 3 by omega) with rfl | rfl | rfl | rfl
  · obtain ⟨f', i1, i2, i3, i4⟩ := m_givesKept hz hm hu a p (d := d) (by omega)
    have e46 : f 58 46 = wI 20 := h46
    refine ⟨f', ?_, i2, i3, MG_MOb i4, ?_⟩
    · show _ = some (some (Value.int (rsI (dGive N a p))), _)
      simp -dsimp (disch := first | omega | exact hB _) only [↓c_58 hz, g_58_0 hz, p_58_0 hz, r_58_1 hz, r_58_2 hz, r_58_3 hz, r_58_4 hz, r_58_5 hz, g_58_6 hz, p_58_6 hz, r_58_7 hz, g_58_8 hz, p_58_8 hz, g_58_9 hz, p_58_9 hz, g_58_10 hz, p_58_10 hz, r_58_11 hz, r_58_12 hz, g_58_13 hz, p_58_13 hz, g_58_14 hz, p_58_14 hz, r_58_15 hz, r_58_16 hz, r_58_17 hz, g_58_18 hz, p_58_18 hz, g_58_19 hz, p_58_19 hz, g_58_20 hz, p_58_20 hz, g_58_21 hz, p_58_21 hz, g_58_22 hz, p_58_22 hz, g_58_23 hz, p_58_23 hz, g_58_24 hz, p_58_24 hz, g_58_25 hz, p_58_25 hz, r_58_26 hz, g_58_27 hz, p_58_27 hz, g_58_28 hz, p_58_28 hz, r_58_29 hz, r_58_30 hz, g_58_31 hz, p_58_31 hz, r_58_32 hz, r_58_33 hz, r_58_34 hz, r_58_35 hz, r_58_36 hz, r_58_37 hz, g_58_38 hz, p_58_38 hz, r_58_39 hz, r_58_40 hz, r_58_41 hz, g_58_42 hz, p_58_42 hz, g_58_43 hz, p_58_43 hz, g_58_44 hz, p_58_44 hz, g_58_45 hz, p_58_45 hz, g_58_46 hz, p_58_46 hz, g_58_47 hz, p_58_47 hz, g_58_48 hz, p_58_48 hz, r_58_49 hz, r_58_50 hz, r_58_51 hz, r_58_52 hz, g_58_53 hz, p_58_53 hz, g_58_54 hz, p_58_54 hz, g_58_55 hz, p_58_55 hz, l_59 hz, s_59 hz, n_59 hz, l_60 hz, s_60 hz, n_60 hz, l_61 hz, s_61 hz, n_61 hz, l_62 hz, s_62 hz, n_62 hz, l_63 hz, s_63 hz, n_63 hz, l_64 hz, s_64 hz, n_64 hz, l_65 hz, s_65 hz, n_65 hz, l_66 hz, s_66 hz, n_66 hz, l_67 hz, s_67 hz, n_67 hz, l_68 hz, s_68 hz, n_68 hz, l_69 hz, s_69 hz, n_69 hz, l_70 hz, s_70 hz, n_70 hz, l_71 hz, s_71 hz, n_71 hz, l_72 hz, s_72 hz, n_72 hz, l_73 hz, s_73 hz, n_73 hz, l_74 hz, s_74 hz, n_74 hz, l_75 hz, s_75 hz, n_75 hz, l_76 hz, s_76 hz, n_76 hz, l_77 hz, s_77 hz, n_77 hz, l_78 hz, s_78 hz, n_78 hz, l_79 hz, s_79 hz, n_79 hz, l_80 hz, s_80 hz, n_80 hz, l_81 hz, s_81 hz, n_81 hz, l_82 hz, s_82 hz, l_83 hz, s_83 hz, n_83 hz, l_84 hz, s_84 hz, n_84 hz, l_85 hz, s_85 hz, n_85 hz, hO_s, hI_s, hL_s, hQ_s, hQ_n, hR_s, hV_s, hN_n, hN_s, cond_true, lI_0, lI_1, sI_0, sI_1, lL_0, lL_1, ↓reduceIte, not_true_eq_false, not_false_eq_true, Nat.reduceEqDiff, Nat.reduceAdd, Nat.reduceMul, Nat.reduceSub, Nat.reduceLeDiff, Nat.reduceLT, li_2, li_3, li_4, li_5, li_6, li_7, li_8, li_9, li_10, li_11, li_12, li_13, li_14, li_15, li_16, li_17, li_18, li_19, li_20, li_21, li_22, li_23, li_24, li_25, li_26, li_27, li_28, li_29, li_30, li_31, li_32, li_33, li_34, li_35, li_36, li_37, li_38, li_39, li_40, li_41, li_42, li_43, li_44, li_45, li_46, li_47, li_48, li_49, li_50, li_51, li_52, li_53, li_54, li_55, li_56, li_57, li_58, li_59, li_60, li_61, li_62, li_63, li_64, li_65, li_66, li_67, li_68, li_69, li_70, li_71, li_72, li_73, li_74, li_75, li_76, li_77, li_78, li_79, li_80, li_81, li_82, li_83, li_84, li_85, li_86, li_87, li_88, li_89, li_90, li_91, li_92, li_93, li_94, li_95, li_96, li_97, li_98, li_99, li_100, li_101, li_102, li_103, li_104, li_105, li_106, li_107, li_108, li_109, li_110, li_111, li_112, li_113, li_114, li_115, li_116, li_117, li_118, li_119, li_120, li_121, li_122, li_255, li_400, li_608, li_998, li_999, li_1000, li_1024, li_1103, li_2400, li_2911, li_4095, li_4096, li_5711, li_9999, li_12345, li_1000000, li_1000003, li_252645135, li_858993459, li_1431655765, wI_add, wI_mul, wI_add1, wI_1add, l0, l1, s1, s2, e46, wI_eq, i1]
    · rw [i4.2 28 (by decide) (by decide) (by decide) (by decide) (by decide)]
      show _ = ltI 0 _ (dGive N a p)
      cases dGive N a p <;> rfl
  · obtain ⟨f', i1, i2, i3, i4⟩ := m_callsKept hz hm hu a (d := d) (by omega)
    have e46 : f 58 46 = wI 21 := h46
    have e28 := i4.2 28 (by decide) (by decide) (by decide) (by decide) (by decide)
    show ∃ f', _ = some (some (Value.int (rsI (dCall N a))), _) ∧ MH f' (nxN N (dCall N a)) ∧ UM f' (nxU U N 1 (dCall N a)) ∧ MOb f f' ∧ f' 58 28 = ltI 1 (f 58 28) (dCall N a)
    have hD : doD N 1 a p = dCall N a := rfl
    cases hr : dCall N a with
    | inl e =>
      rw [hr] at i1 i2 i3
      have hn : (0 ≤ rsI (.inl e)) = False := by rcases doD_inl (hD.trans hr) with rfl | rfl | rfl <;> exact eq_false (by decide)
      refine ⟨f', ?_, i2, i3, MG_MOb i4, e28⟩
      have us : up f' 58 (upd (f' 58) 28 (f' 58 28)) = f' := by
        have : upd (f' 58) 28 (f' 58 28) = f' 58 := by
          funext j
          unfold upd
          split
          · rename_i h; rw [h]
          · rfl
        rw [this, up_same]
      simp -dsimp (disch := first | omega | exact hB _) only [↓c_58 hz, g_58_0 hz, p_58_0 hz, r_58_1 hz, r_58_2 hz, r_58_3 hz, r_58_4 hz, r_58_5 hz, g_58_6 hz, p_58_6 hz, r_58_7 hz, g_58_8 hz, p_58_8 hz, g_58_9 hz, p_58_9 hz, g_58_10 hz, p_58_10 hz, r_58_11 hz, r_58_12 hz, g_58_13 hz, p_58_13 hz, g_58_14 hz, p_58_14 hz, r_58_15 hz, r_58_16 hz, r_58_17 hz, g_58_18 hz, p_58_18 hz, g_58_19 hz, p_58_19 hz, g_58_20 hz, p_58_20 hz, g_58_21 hz, p_58_21 hz, g_58_22 hz, p_58_22 hz, g_58_23 hz, p_58_23 hz, g_58_24 hz, p_58_24 hz, g_58_25 hz, p_58_25 hz, r_58_26 hz, g_58_27 hz, p_58_27 hz, g_58_28 hz, p_58_28 hz, r_58_29 hz, r_58_30 hz, g_58_31 hz, p_58_31 hz, r_58_32 hz, r_58_33 hz, r_58_34 hz, r_58_35 hz, r_58_36 hz, r_58_37 hz, g_58_38 hz, p_58_38 hz, r_58_39 hz, r_58_40 hz, r_58_41 hz, g_58_42 hz, p_58_42 hz, g_58_43 hz, p_58_43 hz, g_58_44 hz, p_58_44 hz, g_58_45 hz, p_58_45 hz, g_58_46 hz, p_58_46 hz, g_58_47 hz, p_58_47 hz, g_58_48 hz, p_58_48 hz, r_58_49 hz, r_58_50 hz, r_58_51 hz, r_58_52 hz, g_58_53 hz, p_58_53 hz, g_58_54 hz, p_58_54 hz, g_58_55 hz, p_58_55 hz, l_59 hz, s_59 hz, n_59 hz, l_60 hz, s_60 hz, n_60 hz, l_61 hz, s_61 hz, n_61 hz, l_62 hz, s_62 hz, n_62 hz, l_63 hz, s_63 hz, n_63 hz, l_64 hz, s_64 hz, n_64 hz, l_65 hz, s_65 hz, n_65 hz, l_66 hz, s_66 hz, n_66 hz, l_67 hz, s_67 hz, n_67 hz, l_68 hz, s_68 hz, n_68 hz, l_69 hz, s_69 hz, n_69 hz, l_70 hz, s_70 hz, n_70 hz, l_71 hz, s_71 hz, n_71 hz, l_72 hz, s_72 hz, n_72 hz, l_73 hz, s_73 hz, n_73 hz, l_74 hz, s_74 hz, n_74 hz, l_75 hz, s_75 hz, n_75 hz, l_76 hz, s_76 hz, n_76 hz, l_77 hz, s_77 hz, n_77 hz, l_78 hz, s_78 hz, n_78 hz, l_79 hz, s_79 hz, n_79 hz, l_80 hz, s_80 hz, n_80 hz, l_81 hz, s_81 hz, n_81 hz, l_82 hz, s_82 hz, l_83 hz, s_83 hz, n_83 hz, l_84 hz, s_84 hz, n_84 hz, l_85 hz, s_85 hz, n_85 hz, hO_s, hI_s, hL_s, hQ_s, hQ_n, hR_s, hV_s, hN_n, hN_s, cond_true, lI_0, lI_1, sI_0, sI_1, lL_0, lL_1, ↓reduceIte, not_true_eq_false, not_false_eq_true, Nat.reduceEqDiff, Nat.reduceAdd, Nat.reduceMul, Nat.reduceSub, Nat.reduceLeDiff, Nat.reduceLT, li_2, li_3, li_4, li_5, li_6, li_7, li_8, li_9, li_10, li_11, li_12, li_13, li_14, li_15, li_16, li_17, li_18, li_19, li_20, li_21, li_22, li_23, li_24, li_25, li_26, li_27, li_28, li_29, li_30, li_31, li_32, li_33, li_34, li_35, li_36, li_37, li_38, li_39, li_40, li_41, li_42, li_43, li_44, li_45, li_46, li_47, li_48, li_49, li_50, li_51, li_52, li_53, li_54, li_55, li_56, li_57, li_58, li_59, li_60, li_61, li_62, li_63, li_64, li_65, li_66, li_67, li_68, li_69, li_70, li_71, li_72, li_73, li_74, li_75, li_76, li_77, li_78, li_79, li_80, li_81, li_82, li_83, li_84, li_85, li_86, li_87, li_88, li_89, li_90, li_91, li_92, li_93, li_94, li_95, li_96, li_97, li_98, li_99, li_100, li_101, li_102, li_103, li_104, li_105, li_106, li_107, li_108, li_109, li_110, li_111, li_112, li_113, li_114, li_115, li_116, li_117, li_118, li_119, li_120, li_121, li_122, li_255, li_400, li_608, li_998, li_999, li_1000, li_1024, li_1103, li_2400, li_2911, li_4095, li_4096, li_5711, li_9999, li_12345, li_1000000, li_1000003, li_252645135, li_858993459, li_1431655765, wI_add, wI_mul, wI_add1, wI_1add, l0, l1, s1, s2, e46, wI_eq, i1, hn, us]
    | inr r =>
      obtain ⟨v, X⟩ := r
      rw [hr] at i1 i2 i3
      have hv := (doD_inr hm.2.1 (hD.trans hr)).1
      have hn : (0 ≤ rsI (.inr (v, X))) = True := wI_0le (by omega)
      refine ⟨up f' 58 (upd (f' 58) 28 (rsI (.inr (v, X)))), ?_, ⟨MK_up i2.1 (by decide) _, i2.2.1, i2.2.2.1, ?_⟩, UM_c i3 ?_ (up_ne _ _ _ (by decide)), ⟨fun a a1 a2 a3 a4 => by rw [up_ne _ _ _ a1]; exact i4.1 a a1 a2 a3 a4, fun k hk => by rw [up_eq, upd_ne _ _ _ (by omega)]; exact (MG_MOb i4).2 k hk⟩, ?_⟩
      · simp -dsimp (disch := first | omega | exact hB _) only [↓c_58 hz, g_58_0 hz, p_58_0 hz, r_58_1 hz, r_58_2 hz, r_58_3 hz, r_58_4 hz, r_58_5 hz, g_58_6 hz, p_58_6 hz, r_58_7 hz, g_58_8 hz, p_58_8 hz, g_58_9 hz, p_58_9 hz, g_58_10 hz, p_58_10 hz, r_58_11 hz, r_58_12 hz, g_58_13 hz, p_58_13 hz, g_58_14 hz, p_58_14 hz, r_58_15 hz, r_58_16 hz, r_58_17 hz, g_58_18 hz, p_58_18 hz, g_58_19 hz, p_58_19 hz, g_58_20 hz, p_58_20 hz, g_58_21 hz, p_58_21 hz, g_58_22 hz, p_58_22 hz, g_58_23 hz, p_58_23 hz, g_58_24 hz, p_58_24 hz, g_58_25 hz, p_58_25 hz, r_58_26 hz, g_58_27 hz, p_58_27 hz, g_58_28 hz, p_58_28 hz, r_58_29 hz, r_58_30 hz, g_58_31 hz, p_58_31 hz, r_58_32 hz, r_58_33 hz, r_58_34 hz, r_58_35 hz, r_58_36 hz, r_58_37 hz, g_58_38 hz, p_58_38 hz, r_58_39 hz, r_58_40 hz, r_58_41 hz, g_58_42 hz, p_58_42 hz, g_58_43 hz, p_58_43 hz, g_58_44 hz, p_58_44 hz, g_58_45 hz, p_58_45 hz, g_58_46 hz, p_58_46 hz, g_58_47 hz, p_58_47 hz, g_58_48 hz, p_58_48 hz, r_58_49 hz, r_58_50 hz, r_58_51 hz, r_58_52 hz, g_58_53 hz, p_58_53 hz, g_58_54 hz, p_58_54 hz, g_58_55 hz, p_58_55 hz, l_59 hz, s_59 hz, n_59 hz, l_60 hz, s_60 hz, n_60 hz, l_61 hz, s_61 hz, n_61 hz, l_62 hz, s_62 hz, n_62 hz, l_63 hz, s_63 hz, n_63 hz, l_64 hz, s_64 hz, n_64 hz, l_65 hz, s_65 hz, n_65 hz, l_66 hz, s_66 hz, n_66 hz, l_67 hz, s_67 hz, n_67 hz, l_68 hz, s_68 hz, n_68 hz, l_69 hz, s_69 hz, n_69 hz, l_70 hz, s_70 hz, n_70 hz, l_71 hz, s_71 hz, n_71 hz, l_72 hz, s_72 hz, n_72 hz, l_73 hz, s_73 hz, n_73 hz, l_74 hz, s_74 hz, n_74 hz, l_75 hz, s_75 hz, n_75 hz, l_76 hz, s_76 hz, n_76 hz, l_77 hz, s_77 hz, n_77 hz, l_78 hz, s_78 hz, n_78 hz, l_79 hz, s_79 hz, n_79 hz, l_80 hz, s_80 hz, n_80 hz, l_81 hz, s_81 hz, n_81 hz, l_82 hz, s_82 hz, l_83 hz, s_83 hz, n_83 hz, l_84 hz, s_84 hz, n_84 hz, l_85 hz, s_85 hz, n_85 hz, hO_s, hI_s, hL_s, hQ_s, hQ_n, hR_s, hV_s, hN_n, hN_s, cond_true, lI_0, lI_1, sI_0, sI_1, lL_0, lL_1, ↓reduceIte, not_true_eq_false, not_false_eq_true, Nat.reduceEqDiff, Nat.reduceAdd, Nat.reduceMul, Nat.reduceSub, Nat.reduceLeDiff, Nat.reduceLT, li_2, li_3, li_4, li_5, li_6, li_7, li_8, li_9, li_10, li_11, li_12, li_13, li_14, li_15, li_16, li_17, li_18, li_19, li_20, li_21, li_22, li_23, li_24, li_25, li_26, li_27, li_28, li_29, li_30, li_31, li_32, li_33, li_34, li_35, li_36, li_37, li_38, li_39, li_40, li_41, li_42, li_43, li_44, li_45, li_46, li_47, li_48, li_49, li_50, li_51, li_52, li_53, li_54, li_55, li_56, li_57, li_58, li_59, li_60, li_61, li_62, li_63, li_64, li_65, li_66, li_67, li_68, li_69, li_70, li_71, li_72, li_73, li_74, li_75, li_76, li_77, li_78, li_79, li_80, li_81, li_82, li_83, li_84, li_85, li_86, li_87, li_88, li_89, li_90, li_91, li_92, li_93, li_94, li_95, li_96, li_97, li_98, li_99, li_100, li_101, li_102, li_103, li_104, li_105, li_106, li_107, li_108, li_109, li_110, li_111, li_112, li_113, li_114, li_115, li_116, li_117, li_118, li_119, li_120, li_121, li_122, li_255, li_400, li_608, li_998, li_999, li_1000, li_1024, li_1103, li_2400, li_2911, li_4095, li_4096, li_5711, li_9999, li_12345, li_1000000, li_1000003, li_252645135, li_858993459, li_1431655765, wI_add, wI_mul, wI_add1, wI_1add, l0, l1, s1, s2, e46, wI_eq, i1, hn]
      · rw [up_eq, upd_ne _ _ _ (by decide)]; exact i2.2.2.2
      · rw [up_eq, upd_ne _ _ _ (by decide)]
      · rw [up_eq, upd_eq]; rfl
  · obtain ⟨f', i1, i2, i3, i4⟩ := m_shavesKept hz hm hu a p (d := d) (by omega)
    have e46 : f 58 46 = wI 22 := h46
    refine ⟨f', ?_, i2, i3, MG_MOb i4, ?_⟩
    · show _ = some (some (Value.int (rsI (dShave N a p))), _)
      simp -dsimp (disch := first | omega | exact hB _) only [↓c_58 hz, g_58_0 hz, p_58_0 hz, r_58_1 hz, r_58_2 hz, r_58_3 hz, r_58_4 hz, r_58_5 hz, g_58_6 hz, p_58_6 hz, r_58_7 hz, g_58_8 hz, p_58_8 hz, g_58_9 hz, p_58_9 hz, g_58_10 hz, p_58_10 hz, r_58_11 hz, r_58_12 hz, g_58_13 hz, p_58_13 hz, g_58_14 hz, p_58_14 hz, r_58_15 hz, r_58_16 hz, r_58_17 hz, g_58_18 hz, p_58_18 hz, g_58_19 hz, p_58_19 hz, g_58_20 hz, p_58_20 hz, g_58_21 hz, p_58_21 hz, g_58_22 hz, p_58_22 hz, g_58_23 hz, p_58_23 hz, g_58_24 hz, p_58_24 hz, g_58_25 hz, p_58_25 hz, r_58_26 hz, g_58_27 hz, p_58_27 hz, g_58_28 hz, p_58_28 hz, r_58_29 hz, r_58_30 hz, g_58_31 hz, p_58_31 hz, r_58_32 hz, r_58_33 hz, r_58_34 hz, r_58_35 hz, r_58_36 hz, r_58_37 hz, g_58_38 hz, p_58_38 hz, r_58_39 hz, r_58_40 hz, r_58_41 hz, g_58_42 hz, p_58_42 hz, g_58_43 hz, p_58_43 hz, g_58_44 hz, p_58_44 hz, g_58_45 hz, p_58_45 hz, g_58_46 hz, p_58_46 hz, g_58_47 hz, p_58_47 hz, g_58_48 hz, p_58_48 hz, r_58_49 hz, r_58_50 hz, r_58_51 hz, r_58_52 hz, g_58_53 hz, p_58_53 hz, g_58_54 hz, p_58_54 hz, g_58_55 hz, p_58_55 hz, l_59 hz, s_59 hz, n_59 hz, l_60 hz, s_60 hz, n_60 hz, l_61 hz, s_61 hz, n_61 hz, l_62 hz, s_62 hz, n_62 hz, l_63 hz, s_63 hz, n_63 hz, l_64 hz, s_64 hz, n_64 hz, l_65 hz, s_65 hz, n_65 hz, l_66 hz, s_66 hz, n_66 hz, l_67 hz, s_67 hz, n_67 hz, l_68 hz, s_68 hz, n_68 hz, l_69 hz, s_69 hz, n_69 hz, l_70 hz, s_70 hz, n_70 hz, l_71 hz, s_71 hz, n_71 hz, l_72 hz, s_72 hz, n_72 hz, l_73 hz, s_73 hz, n_73 hz, l_74 hz, s_74 hz, n_74 hz, l_75 hz, s_75 hz, n_75 hz, l_76 hz, s_76 hz, n_76 hz, l_77 hz, s_77 hz, n_77 hz, l_78 hz, s_78 hz, n_78 hz, l_79 hz, s_79 hz, n_79 hz, l_80 hz, s_80 hz, n_80 hz, l_81 hz, s_81 hz, n_81 hz, l_82 hz, s_82 hz, l_83 hz, s_83 hz, n_83 hz, l_84 hz, s_84 hz, n_84 hz, l_85 hz, s_85 hz, n_85 hz, hO_s, hI_s, hL_s, hQ_s, hQ_n, hR_s, hV_s, hN_n, hN_s, cond_true, lI_0, lI_1, sI_0, sI_1, lL_0, lL_1, ↓reduceIte, not_true_eq_false, not_false_eq_true, Nat.reduceEqDiff, Nat.reduceAdd, Nat.reduceMul, Nat.reduceSub, Nat.reduceLeDiff, Nat.reduceLT, li_2, li_3, li_4, li_5, li_6, li_7, li_8, li_9, li_10, li_11, li_12, li_13, li_14, li_15, li_16, li_17, li_18, li_19, li_20, li_21, li_22, li_23, li_24, li_25, li_26, li_27, li_28, li_29, li_30, li_31, li_32, li_33, li_34, li_35, li_36, li_37, li_38, li_39, li_40, li_41, li_42, li_43, li_44, li_45, li_46, li_47, li_48, li_49, li_50, li_51, li_52, li_53, li_54, li_55, li_56, li_57, li_58, li_59, li_60, li_61, li_62, li_63, li_64, li_65, li_66, li_67, li_68, li_69, li_70, li_71, li_72, li_73, li_74, li_75, li_76, li_77, li_78, li_79, li_80, li_81, li_82, li_83, li_84, li_85, li_86, li_87, li_88, li_89, li_90, li_91, li_92, li_93, li_94, li_95, li_96, li_97, li_98, li_99, li_100, li_101, li_102, li_103, li_104, li_105, li_106, li_107, li_108, li_109, li_110, li_111, li_112, li_113, li_114, li_115, li_116, li_117, li_118, li_119, li_120, li_121, li_122, li_255, li_400, li_608, li_998, li_999, li_1000, li_1024, li_1103, li_2400, li_2911, li_4095, li_4096, li_5711, li_9999, li_12345, li_1000000, li_1000003, li_252645135, li_858993459, li_1431655765, wI_add, wI_mul, wI_add1, wI_1add, l0, l1, s1, s2, e46, wI_eq, i1]
    · rw [i4.2 28 (by decide) (by decide) (by decide) (by decide) (by decide)]
      show _ = ltI 2 _ (dShave N a p)
      cases dShave N a p <;> rfl
  · obtain ⟨f', i1, i2, i3, i4⟩ := m_passesKept hz hm hu (d := d) (by omega)
    have e46 : f 58 46 = wI 24 := h46
    refine ⟨f', ?_, i2, i3, MG_MOb i4, ?_⟩
    · show _ = some (some (Value.int (rsI (dPass N))), _)
      simp -dsimp (disch := first | omega | exact hB _) only [↓c_58 hz, g_58_0 hz, p_58_0 hz, r_58_1 hz, r_58_2 hz, r_58_3 hz, r_58_4 hz, r_58_5 hz, g_58_6 hz, p_58_6 hz, r_58_7 hz, g_58_8 hz, p_58_8 hz, g_58_9 hz, p_58_9 hz, g_58_10 hz, p_58_10 hz, r_58_11 hz, r_58_12 hz, g_58_13 hz, p_58_13 hz, g_58_14 hz, p_58_14 hz, r_58_15 hz, r_58_16 hz, r_58_17 hz, g_58_18 hz, p_58_18 hz, g_58_19 hz, p_58_19 hz, g_58_20 hz, p_58_20 hz, g_58_21 hz, p_58_21 hz, g_58_22 hz, p_58_22 hz, g_58_23 hz, p_58_23 hz, g_58_24 hz, p_58_24 hz, g_58_25 hz, p_58_25 hz, r_58_26 hz, g_58_27 hz, p_58_27 hz, g_58_28 hz, p_58_28 hz, r_58_29 hz, r_58_30 hz, g_58_31 hz, p_58_31 hz, r_58_32 hz, r_58_33 hz, r_58_34 hz, r_58_35 hz, r_58_36 hz, r_58_37 hz, g_58_38 hz, p_58_38 hz, r_58_39 hz, r_58_40 hz, r_58_41 hz, g_58_42 hz, p_58_42 hz, g_58_43 hz, p_58_43 hz, g_58_44 hz, p_58_44 hz, g_58_45 hz, p_58_45 hz, g_58_46 hz, p_58_46 hz, g_58_47 hz, p_58_47 hz, g_58_48 hz, p_58_48 hz, r_58_49 hz, r_58_50 hz, r_58_51 hz, r_58_52 hz, g_58_53 hz, p_58_53 hz, g_58_54 hz, p_58_54 hz, g_58_55 hz, p_58_55 hz, l_59 hz, s_59 hz, n_59 hz, l_60 hz, s_60 hz, n_60 hz, l_61 hz, s_61 hz, n_61 hz, l_62 hz, s_62 hz, n_62 hz, l_63 hz, s_63 hz, n_63 hz, l_64 hz, s_64 hz, n_64 hz, l_65 hz, s_65 hz, n_65 hz, l_66 hz, s_66 hz, n_66 hz, l_67 hz, s_67 hz, n_67 hz, l_68 hz, s_68 hz, n_68 hz, l_69 hz, s_69 hz, n_69 hz, l_70 hz, s_70 hz, n_70 hz, l_71 hz, s_71 hz, n_71 hz, l_72 hz, s_72 hz, n_72 hz, l_73 hz, s_73 hz, n_73 hz, l_74 hz, s_74 hz, n_74 hz, l_75 hz, s_75 hz, n_75 hz, l_76 hz, s_76 hz, n_76 hz, l_77 hz, s_77 hz, n_77 hz, l_78 hz, s_78 hz, n_78 hz, l_79 hz, s_79 hz, n_79 hz, l_80 hz, s_80 hz, n_80 hz, l_81 hz, s_81 hz, n_81 hz, l_82 hz, s_82 hz, l_83 hz, s_83 hz, n_83 hz, l_84 hz, s_84 hz, n_84 hz, l_85 hz, s_85 hz, n_85 hz, hO_s, hI_s, hL_s, hQ_s, hQ_n, hR_s, hV_s, hN_n, hN_s, cond_true, lI_0, lI_1, sI_0, sI_1, lL_0, lL_1, ↓reduceIte, not_true_eq_false, not_false_eq_true, Nat.reduceEqDiff, Nat.reduceAdd, Nat.reduceMul, Nat.reduceSub, Nat.reduceLeDiff, Nat.reduceLT, li_2, li_3, li_4, li_5, li_6, li_7, li_8, li_9, li_10, li_11, li_12, li_13, li_14, li_15, li_16, li_17, li_18, li_19, li_20, li_21, li_22, li_23, li_24, li_25, li_26, li_27, li_28, li_29, li_30, li_31, li_32, li_33, li_34, li_35, li_36, li_37, li_38, li_39, li_40, li_41, li_42, li_43, li_44, li_45, li_46, li_47, li_48, li_49, li_50, li_51, li_52, li_53, li_54, li_55, li_56, li_57, li_58, li_59, li_60, li_61, li_62, li_63, li_64, li_65, li_66, li_67, li_68, li_69, li_70, li_71, li_72, li_73, li_74, li_75, li_76, li_77, li_78, li_79, li_80, li_81, li_82, li_83, li_84, li_85, li_86, li_87, li_88, li_89, li_90, li_91, li_92, li_93, li_94, li_95, li_96, li_97, li_98, li_99, li_100, li_101, li_102, li_103, li_104, li_105, li_106, li_107, li_108, li_109, li_110, li_111, li_112, li_113, li_114, li_115, li_116, li_117, li_118, li_119, li_120, li_121, li_122, li_255, li_400, li_608, li_998, li_999, li_1000, li_1024, li_1103, li_2400, li_2911, li_4095, li_4096, li_5711, li_9999, li_12345, li_1000000, li_1000003, li_252645135, li_858993459, li_1431655765, wI_add, wI_mul, wI_add1, wI_1add, l0, l1, s1, s2, e46, wI_eq, i1]
    · rw [i4.2 28 (by decide) (by decide) (by decide) (by decide) (by decide)]
      show _ = ltI 3 _ (dPass N)
      cases dPass N <;> rfl
end
