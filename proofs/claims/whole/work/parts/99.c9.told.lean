/-! ===== told ===== -/
/-- a SUM v can have been told, if f notches are worn away and s is left -/
def ct (v s f : Nat) : Prop := s / 100 ≤ v / 100 ∧ s / 10 % 10 ≤ v / 10 % 10 ∧ s % 10 ≤ v % 10 ∧ (v / 100 - s / 100) + (v / 10 % 10 - s / 10 % 10) + (v % 10 - s % 10) ≤ f
theorem ct_em (v s f : Nat) : ct v s f ∨ ¬ ct v s f := Classical.em _
def nAb : Nat → Nat → Nat → Nat → Option Nat
  | 0, n, _, _ => some n
  | m + 1, n, a, b => if a = 0 ∧ b = 0 then some n else if a % 10 < b % 10 then none else nAb m (n + (a % 10 - b % 10)) (a / 10) (b / 10)
theorem nAb_z {m n a b : Nat} (h : a = 0 ∧ b = 0) : nAb (m + 1) n a b = some n := if_pos h
theorem nAb_n {m n a b : Nat} (h : ¬ (a = 0 ∧ b = 0)) (h2 : a % 10 < b % 10) : nAb (m + 1) n a b = none := by
  rw [nAb, if_neg h, if_pos h2]
theorem nAb_s {m n a b : Nat} (h : ¬ (a = 0 ∧ b = 0)) (h2 : ¬ a % 10 < b % 10) : nAb (m + 1) n a b = nAb m (n + (a % 10 - b % 10)) (a / 10) (b / 10) := by
  rw [nAb, if_neg h, if_neg h2]
theorem nAb_ct {v s f : Nat} (hv : v ≤ 999) (hs : s ≤ 999) : (∃ k, nAb 3 0 v s = some k ∧ k ≤ f ∧ k < 100) ↔ ct v s f := by
  have key : ∀ k, nAb 3 0 v s = some k ↔ (s / 100 ≤ v / 100 ∧ s / 10 % 10 ≤ v / 10 % 10 ∧ s % 10 ≤ v % 10) ∧ k = (v / 100 - s / 100) + (v / 10 % 10 - s / 10 % 10) + (v % 10 - s % 10) := by
    intro k
    by_cases z0 : v = 0 ∧ s = 0
    · rw [nAb_z z0, Option.some.injEq]
      omega
    · by_cases d0 : v % 10 < s % 10
      · rw [nAb_n z0 d0]
        constructor
        · intro h; cases h
        · omega
      · rw [nAb_s z0 d0]
        by_cases z1 : v / 10 = 0 ∧ s / 10 = 0
        · rw [nAb_z z1, Option.some.injEq]
          omega
        · by_cases d1 : v / 10 % 10 < s / 10 % 10
          · rw [nAb_n z1 d1]
            constructor
            · intro h; cases h
            · omega
          · rw [nAb_s z1 d1]
            by_cases z2 : v / 10 / 10 = 0 ∧ s / 10 / 10 = 0
            · rw [nAb_z z2, Option.some.injEq]
              omega
            · by_cases d2 : v / 10 / 10 % 10 < s / 10 / 10 % 10
              · rw [nAb_n z2 d2]
                constructor
                · intro h; cases h
                · omega
              · rw [nAb_s z2 d2]
                show some _ = some _ ↔ _
                rw [Option.some.injEq]
                have a1 : v / 10 / 10 % 10 = v / 100 := by omega
                have a2 : s / 10 / 10 % 10 = s / 100 := by omega
                rw [a1, a2] at d2 ⊢
                omega
  unfold ct
  constructor
  · rintro ⟨k, h1, h2, h3⟩
    have := (key k).mp h1
    omega
  · intro h
    exact ⟨_, (key _).mpr ⟨⟨h.1, h.2.1, h.2.2.1⟩, rfl⟩, by omega, by omega⟩
section
variable {z : Mem} {S : Nat} {xs : Nat → Int32} {f f' : Nat → Nat → Int32} {N N' M : Nat → Nat} {U : US} {Z : Nat → Option (Nat → Nat)} {T : Nat → Nat} {L : Nat} {c : Nat → Int32} {d : Nat}
theorem t_canHaveTold {v s g : Nat} (hv : v ≤ 999) (hs : s ≤ 999) (hg : g ≤ 27) {d : Nat} (hd : 1 ≤ d) (σ : Mem) : (ct v s g → EC d mHalves_canHaveTold [.int (wI v), .int (wI s), .int (wI g)] σ = some (some (.int 1), σ)) ∧ (¬ ct v s g → EC d mHalves_canHaveTold [.int (wI v), .int (wI s), .int (wI g)] σ = some (some (.int 0), σ)) := by
  obtain ⟨d, rfl⟩ : ∃ e, d = e + 1 := ⟨d - 1, by omega⟩
  have d1 : wI v / wI 100 = wI (v / 100) := wI_div (by omega) (by decide)
  have d2 : wI s / wI 100 = wI (s / 100) := wI_div (by omega) (by decide)
  have d3 : wI v / wI 10 = wI (v / 10) := wI_div (by omega) (by decide)
  have d4 : wI s / wI 10 = wI (s / 10) := wI_div (by omega) (by decide)
  have d5 : wI (v / 10) / wI 10 = wI (v / 10 / 10) := wI_div (by omega) (by decide)
  have d6 : wI (s / 10) / wI 10 = wI (s / 10 / 10) := wI_div (by omega) (by decide)
  have r1 : wI v - wI (v / 10 * 10) = wI (v % 10) := by rw [wI_sub (by omega)]; congr 1; omega
  have r2 : wI s - wI (s / 10 * 10) = wI (s % 10) := by rw [wI_sub (by omega)]; congr 1; omega
  have r3 : wI (v / 10) - wI (v / 10 / 10 * 10) = wI (v / 10 % 10) := by rw [wI_sub (by omega)]; congr 1; omega
  have r4 : wI (s / 10) - wI (s / 10 / 10 * 10) = wI (s / 10 % 10) := by rw [wI_sub (by omega)]; congr 1; omega
  have q : ∀ a b : Nat, a < 1000 → b < 1000 → (wI a - wI b < 0) = (a < b) := fun a b ha hb => by
    rw [wI_jI a, wI_jI b, jI_sub, jl_0, jI_lt (by omega) (by omega) (by omega) (by omega)]
    apply propext; omega
  have z100 : ((wI 100 : Int32) = 0) = False := eq_false (by decide)
  have z10 : ((wI 10 : Int32) = 0) = False := eq_false (by decide)
  rw [q_Halves_canHaveTold]
  unfold ct
  constructor
  · intro h
    have n4 : (wI g < wI (v / 100) - wI (s / 100) + (wI (v / 10 % 10) - wI (s / 10 % 10)) + (wI (v % 10) - wI (s % 10))) = False := by
      rw [wI_sub h.1, wI_sub h.2.1, wI_sub h.2.2.1, wI_add, wI_add, wI_lt (by omega) (by omega)]
      exact eq_false (by omega)
    simp -dsimp (disch := omega) only [hO_s, hI_s, hL_s, hQ_s, hQ_n, hR_s, hV_s, hN_n, hN_s, cond_true, lI_0, lI_1, sI_0, sI_1, lL_0, lL_1, ↓reduceIte, not_true_eq_false, not_false_eq_true, Nat.reduceEqDiff, Nat.reduceAdd, Nat.reduceMul, Nat.reduceSub, Nat.reduceLeDiff, Nat.reduceLT, li_2, li_3, li_4, li_5, li_6, li_7, li_8, li_9, li_10, li_11, li_12, li_13, li_14, li_15, li_16, li_17, li_18, li_19, li_20, li_21, li_22, li_23, li_24, li_25, li_26, li_27, li_28, li_29, li_30, li_31, li_32, li_33, li_34, li_35, li_36, li_37, li_38, li_39, li_40, li_41, li_42, li_43, li_44, li_45, li_46, li_47, li_48, li_49, li_50, li_51, li_52, li_53, li_54, li_55, li_56, li_57, li_58, li_59, li_60, li_61, li_62, li_63, li_64, li_65, li_66, li_67, li_68, li_69, li_70, li_71, li_72, li_73, li_74, li_75, li_76, li_77, li_78, li_79, li_80, li_81, li_82, li_83, li_84, li_85, li_86, li_87, li_88, li_89, li_90, li_91, li_92, li_93, li_94, li_95, li_96, li_97, li_98, li_99, li_100, li_101, li_102, li_103, li_104, li_105, li_106, li_107, li_108, li_109, li_110, li_111, li_112, li_113, li_114, li_115, li_116, li_117, li_118, li_119, li_120, li_121, li_122, li_255, li_400, li_608, li_998, li_999, li_1000, li_1024, li_1103, li_2400, li_2911, li_4095, li_4096, li_5711, li_9999, li_12345, li_1000000, li_1000003, li_252645135, li_858993459, li_1431655765, wI_mul, z100, z10, d1, d2, d3, d4, d5, d6, r1, r2, r3, r4, q, eq_false (show ¬ v / 100 < s / 100 by omega), eq_false (show ¬ v / 10 % 10 < s / 10 % 10 by omega), eq_false (show ¬ v % 10 < s % 10 by omega), n4]
  · intro h
    by_cases k1 : v / 100 < s / 100
    · simp -dsimp (disch := omega) only [hO_s, hI_s, hL_s, hQ_s, hQ_n, hR_s, hV_s, hN_n, hN_s, cond_true, lI_0, lI_1, sI_0, sI_1, lL_0, lL_1, ↓reduceIte, not_true_eq_false, not_false_eq_true, Nat.reduceEqDiff, Nat.reduceAdd, Nat.reduceMul, Nat.reduceSub, Nat.reduceLeDiff, Nat.reduceLT, li_2, li_3, li_4, li_5, li_6, li_7, li_8, li_9, li_10, li_11, li_12, li_13, li_14, li_15, li_16, li_17, li_18, li_19, li_20, li_21, li_22, li_23, li_24, li_25, li_26, li_27, li_28, li_29, li_30, li_31, li_32, li_33, li_34, li_35, li_36, li_37, li_38, li_39, li_40, li_41, li_42, li_43, li_44, li_45, li_46, li_47, li_48, li_49, li_50, li_51, li_52, li_53, li_54, li_55, li_56, li_57, li_58, li_59, li_60, li_61, li_62, li_63, li_64, li_65, li_66, li_67, li_68, li_69, li_70, li_71, li_72, li_73, li_74, li_75, li_76, li_77, li_78, li_79, li_80, li_81, li_82, li_83, li_84, li_85, li_86, li_87, li_88, li_89, li_90, li_91, li_92, li_93, li_94, li_95, li_96, li_97, li_98, li_99, li_100, li_101, li_102, li_103, li_104, li_105, li_106, li_107, li_108, li_109, li_110, li_111, li_112, li_113, li_114, li_115, li_116, li_117, li_118, li_119, li_120, li_121, li_122, li_255, li_400, li_608, li_998, li_999, li_1000, li_1024, li_1103, li_2400, li_2911, li_4095, li_4096, li_5711, li_9999, li_12345, li_1000000, li_1000003, li_252645135, li_858993459, li_1431655765, wI_mul, z100, z10, d1, d2, d3, d4, d5, d6, r1, r2, r3, r4, q, eq_true k1]
    · by_cases k2 : v / 10 % 10 < s / 10 % 10
      · simp -dsimp (disch := omega) only [hO_s, hI_s, hL_s, hQ_s, hQ_n, hR_s, hV_s, hN_n, hN_s, cond_true, lI_0, lI_1, sI_0, sI_1, lL_0, lL_1, ↓reduceIte, not_true_eq_false, not_false_eq_true, Nat.reduceEqDiff, Nat.reduceAdd, Nat.reduceMul, Nat.reduceSub, Nat.reduceLeDiff, Nat.reduceLT, li_2, li_3, li_4, li_5, li_6, li_7, li_8, li_9, li_10, li_11, li_12, li_13, li_14, li_15, li_16, li_17, li_18, li_19, li_20, li_21, li_22, li_23, li_24, li_25, li_26, li_27, li_28, li_29, li_30, li_31, li_32, li_33, li_34, li_35, li_36, li_37, li_38, li_39, li_40, li_41, li_42, li_43, li_44, li_45, li_46, li_47, li_48, li_49, li_50, li_51, li_52, li_53, li_54, li_55, li_56, li_57, li_58, li_59, li_60, li_61, li_62, li_63, li_64, li_65, li_66, li_67, li_68, li_69, li_70, li_71, li_72, li_73, li_74, li_75, li_76, li_77, li_78, li_79, li_80, li_81, li_82, li_83, li_84, li_85, li_86, li_87, li_88, li_89, li_90, li_91, li_92, li_93, li_94, li_95, li_96, li_97, li_98, li_99, li_100, li_101, li_102, li_103, li_104, li_105, li_106, li_107, li_108, li_109, li_110, li_111, li_112, li_113, li_114, li_115, li_116, li_117, li_118, li_119, li_120, li_121, li_122, li_255, li_400, li_608, li_998, li_999, li_1000, li_1024, li_1103, li_2400, li_2911, li_4095, li_4096, li_5711, li_9999, li_12345, li_1000000, li_1000003, li_252645135, li_858993459, li_1431655765, wI_mul, z100, z10, d1, d2, d3, d4, d5, d6, r1, r2, r3, r4, q, eq_false k1, eq_true k2]
      · by_cases k3 : v % 10 < s % 10
        · simp -dsimp (disch := omega) only [hO_s, hI_s, hL_s, hQ_s, hQ_n, hR_s, hV_s, hN_n, hN_s, cond_true, lI_0, lI_1, sI_0, sI_1, lL_0, lL_1, ↓reduceIte, not_true_eq_false, not_false_eq_true, Nat.reduceEqDiff, Nat.reduceAdd, Nat.reduceMul, Nat.reduceSub, Nat.reduceLeDiff, Nat.reduceLT, li_2, li_3, li_4, li_5, li_6, li_7, li_8, li_9, li_10, li_11, li_12, li_13, li_14, li_15, li_16, li_17, li_18, li_19, li_20, li_21, li_22, li_23, li_24, li_25, li_26, li_27, li_28, li_29, li_30, li_31, li_32, li_33, li_34, li_35, li_36, li_37, li_38, li_39, li_40, li_41, li_42, li_43, li_44, li_45, li_46, li_47, li_48, li_49, li_50, li_51, li_52, li_53, li_54, li_55, li_56, li_57, li_58, li_59, li_60, li_61, li_62, li_63, li_64, li_65, li_66, li_67, li_68, li_69, li_70, li_71, li_72, li_73, li_74, li_75, li_76, li_77, li_78, li_79, li_80, li_81, li_82, li_83, li_84, li_85, li_86, li_87, li_88, li_89, li_90, li_91, li_92, li_93, li_94, li_95, li_96, li_97, li_98, li_99, li_100, li_101, li_102, li_103, li_104, li_105, li_106, li_107, li_108, li_109, li_110, li_111, li_112, li_113, li_114, li_115, li_116, li_117, li_118, li_119, li_120, li_121, li_122, li_255, li_400, li_608, li_998, li_999, li_1000, li_1024, li_1103, li_2400, li_2911, li_4095, li_4096, li_5711, li_9999, li_12345, li_1000000, li_1000003, li_252645135, li_858993459, li_1431655765, wI_mul, z100, z10, d1, d2, d3, d4, d5, d6, r1, r2, r3, r4, q, eq_false k1, eq_false k2, eq_true k3]
        · have n4 : (wI g < wI (v / 100) - wI (s / 100) + (wI (v / 10 % 10) - wI (s / 10 % 10)) + (wI (v % 10) - wI (s % 10))) = True := by
            rw [wI_sub (by omega), wI_sub (by omega), wI_sub (by omega), wI_add, wI_add, wI_lt (by omega) (by omega)]
            exact eq_true (by omega)
          simp -dsimp (disch := omega) only [hO_s, hI_s, hL_s, hQ_s, hQ_n, hR_s, hV_s, hN_n, hN_s, cond_true, lI_0, lI_1, sI_0, sI_1, lL_0, lL_1, ↓reduceIte, not_true_eq_false, not_false_eq_true, Nat.reduceEqDiff, Nat.reduceAdd, Nat.reduceMul, Nat.reduceSub, Nat.reduceLeDiff, Nat.reduceLT, li_2, li_3, li_4, li_5, li_6, li_7, li_8, li_9, li_10, li_11, li_12, li_13, li_14, li_15, li_16, li_17, li_18, li_19, li_20, li_21, li_22, li_23, li_24, li_25, li_26, li_27, li_28, li_29, li_30, li_31, li_32, li_33, li_34, li_35, li_36, li_37, li_38, li_39, li_40, li_41, li_42, li_43, li_44, li_45, li_46, li_47, li_48, li_49, li_50, li_51, li_52, li_53, li_54, li_55, li_56, li_57, li_58, li_59, li_60, li_61, li_62, li_63, li_64, li_65, li_66, li_67, li_68, li_69, li_70, li_71, li_72, li_73, li_74, li_75, li_76, li_77, li_78, li_79, li_80, li_81, li_82, li_83, li_84, li_85, li_86, li_87, li_88, li_89, li_90, li_91, li_92, li_93, li_94, li_95, li_96, li_97, li_98, li_99, li_100, li_101, li_102, li_103, li_104, li_105, li_106, li_107, li_108, li_109, li_110, li_111, li_112, li_113, li_114, li_115, li_116, li_117, li_118, li_119, li_120, li_121, li_122, li_255, li_400, li_608, li_998, li_999, li_1000, li_1024, li_1103, li_2400, li_2911, li_4095, li_4096, li_5711, li_9999, li_12345, li_1000000, li_1000003, li_252645135, li_858993459, li_1431655765, wI_mul, z100, z10, d1, d2, d3, d4, d5, d6, r1, r2, r3, r4, q, eq_false k1, eq_false k2, eq_false k3, n4]
theorem notch_L {d : Nat} (σ : Mem) : ∀ (m n a b : Nat), a < 10 ^ m → b < 10 ^ m → m ≤ 3 → n + 9 * m ≤ 100 → Ev (d + 1) mM_notchesAbove 7 [(2, .int (wI n)), (3, .int (wI a)), (4, .int (wI b))] [] σ = some (some (.int (match nAb m n a b with | none => -1 | some k => wI k)), σ) := by
  have z10 : ((wI 10 : Int32) = 0) = False := eq_false (by decide)
  intro m
  induction m with
  | zero =>
    intro n a b ha hb hm hn
    obtain rfl : a = 0 := by omega
    obtain rfl : b = 0 := by omega
    rw [q_M_notchesAbove_7, if_neg (by decide), if_pos (by decide)]
    rfl
  | succ m ih =>
    intro n a b ha hb hm hn
    have hp : 10 ^ (m + 1) ≤ 1000 := Nat.le_trans (Nat.pow_le_pow_right (by decide) hm) (by decide)
    have ha2 : a / 10 < 10 ^ m := by rw [Nat.div_lt_iff_lt_mul (by decide), ← Nat.pow_succ]; exact ha
    have hb2 : b / 10 < 10 ^ m := by rw [Nat.div_lt_iff_lt_mul (by decide), ← Nat.pow_succ]; exact hb
    have d3 : wI a / wI 10 = wI (a / 10) := wI_div (by omega) (by decide)
    have d4 : wI b / wI 10 = wI (b / 10) := wI_div (by omega) (by decide)
    have r1 : wI a - wI (a / 10 * 10) = wI (a % 10) := by rw [wI_sub (by omega)]; congr 1; omega
    have r2 : wI b - wI (b / 10 * 10) = wI (b % 10) := by rw [wI_sub (by omega)]; congr 1; omega
    have go : ¬ a % 10 < b % 10 → Ev (d + 1) mM_notchesAbove 7 [(2, .int (wI n + (wI (a % 10) - wI (b % 10)))), (3, .int (wI (a / 10))), (4, .int (wI (b / 10)))] [] σ = some (some (.int (match nAb m (n + (a % 10 - b % 10)) (a / 10) (b / 10) with | none => -1 | some k => wI k)), σ) := fun h => by
      rw [wI_sub (by omega), wI_add]
      exact ih _ _ _ ha2 hb2 (by omega) (by omega)
    rw [q_M_notchesAbove_7]
    by_cases a0 : a = 0
    · by_cases b0 : b = 0
      · rw [nAb_z ⟨a0, b0⟩, a0, b0, if_neg (by decide), if_pos (by decide)]
      · have p1 : (0 < wI a) = False := by rw [wI_0lt (by omega)]; exact eq_false (by omega)
        have p2 : (wI b ≤ 0) = False := by rw [wI_le0 (by omega)]; exact eq_false b0
        by_cases h : a % 10 < b % 10
        · rw [nAb_n (by omega) h]
          simp -dsimp (disch := omega) only [hO_s, hI_s, hL_s, hQ_s, hQ_n, hR_s, hV_s, hN_n, hN_s, cond_true, lI_0, lI_1, sI_0, sI_1, lL_0, lL_1, ↓reduceIte, not_true_eq_false, not_false_eq_true, Nat.reduceEqDiff, Nat.reduceAdd, Nat.reduceMul, Nat.reduceSub, Nat.reduceLeDiff, Nat.reduceLT, li_2, li_3, li_4, li_5, li_6, li_7, li_8, li_9, li_10, li_11, li_12, li_13, li_14, li_15, li_16, li_17, li_18, li_19, li_20, li_21, li_22, li_23, li_24, li_25, li_26, li_27, li_28, li_29, li_30, li_31, li_32, li_33, li_34, li_35, li_36, li_37, li_38, li_39, li_40, li_41, li_42, li_43, li_44, li_45, li_46, li_47, li_48, li_49, li_50, li_51, li_52, li_53, li_54, li_55, li_56, li_57, li_58, li_59, li_60, li_61, li_62, li_63, li_64, li_65, li_66, li_67, li_68, li_69, li_70, li_71, li_72, li_73, li_74, li_75, li_76, li_77, li_78, li_79, li_80, li_81, li_82, li_83, li_84, li_85, li_86, li_87, li_88, li_89, li_90, li_91, li_92, li_93, li_94, li_95, li_96, li_97, li_98, li_99, li_100, li_101, li_102, li_103, li_104, li_105, li_106, li_107, li_108, li_109, li_110, li_111, li_112, li_113, li_114, li_115, li_116, li_117, li_118, li_119, li_120, li_121, li_122, li_255, li_400, li_608, li_998, li_999, li_1000, li_1024, li_1103, li_2400, li_2911, li_4095, li_4096, li_5711, li_9999, li_12345, li_1000000, li_1000003, li_252645135, li_858993459, li_1431655765, p1, p2, wI_mul, z10, d3, d4, r1, r2, wI_le, eq_false (show ¬ b % 10 ≤ a % 10 by omega)]
        · rw [nAb_s (by omega) h]
          have g := go h
          simp -dsimp (disch := omega) only [hO_s, hI_s, hL_s, hQ_s, hQ_n, hR_s, hV_s, hN_n, hN_s, cond_true, lI_0, lI_1, sI_0, sI_1, lL_0, lL_1, ↓reduceIte, not_true_eq_false, not_false_eq_true, Nat.reduceEqDiff, Nat.reduceAdd, Nat.reduceMul, Nat.reduceSub, Nat.reduceLeDiff, Nat.reduceLT, li_2, li_3, li_4, li_5, li_6, li_7, li_8, li_9, li_10, li_11, li_12, li_13, li_14, li_15, li_16, li_17, li_18, li_19, li_20, li_21, li_22, li_23, li_24, li_25, li_26, li_27, li_28, li_29, li_30, li_31, li_32, li_33, li_34, li_35, li_36, li_37, li_38, li_39, li_40, li_41, li_42, li_43, li_44, li_45, li_46, li_47, li_48, li_49, li_50, li_51, li_52, li_53, li_54, li_55, li_56, li_57, li_58, li_59, li_60, li_61, li_62, li_63, li_64, li_65, li_66, li_67, li_68, li_69, li_70, li_71, li_72, li_73, li_74, li_75, li_76, li_77, li_78, li_79, li_80, li_81, li_82, li_83, li_84, li_85, li_86, li_87, li_88, li_89, li_90, li_91, li_92, li_93, li_94, li_95, li_96, li_97, li_98, li_99, li_100, li_101, li_102, li_103, li_104, li_105, li_106, li_107, li_108, li_109, li_110, li_111, li_112, li_113, li_114, li_115, li_116, li_117, li_118, li_119, li_120, li_121, li_122, li_255, li_400, li_608, li_998, li_999, li_1000, li_1024, li_1103, li_2400, li_2911, li_4095, li_4096, li_5711, li_9999, li_12345, li_1000000, li_1000003, li_252645135, li_858993459, li_1431655765, p1, p2, wI_mul, z10, d3, d4, r1, r2, wI_le, eq_true (show b % 10 ≤ a % 10 by omega), g]
    · have p1 : (0 < wI a) = True := by rw [wI_0lt (by omega)]; exact eq_true (by omega)
      by_cases h : a % 10 < b % 10
      · rw [nAb_n (by omega) h]
        simp -dsimp (disch := omega) only [hO_s, hI_s, hL_s, hQ_s, hQ_n, hR_s, hV_s, hN_n, hN_s, cond_true, lI_0, lI_1, sI_0, sI_1, lL_0, lL_1, ↓reduceIte, not_true_eq_false, not_false_eq_true, Nat.reduceEqDiff, Nat.reduceAdd, Nat.reduceMul, Nat.reduceSub, Nat.reduceLeDiff, Nat.reduceLT, li_2, li_3, li_4, li_5, li_6, li_7, li_8, li_9, li_10, li_11, li_12, li_13, li_14, li_15, li_16, li_17, li_18, li_19, li_20, li_21, li_22, li_23, li_24, li_25, li_26, li_27, li_28, li_29, li_30, li_31, li_32, li_33, li_34, li_35, li_36, li_37, li_38, li_39, li_40, li_41, li_42, li_43, li_44, li_45, li_46, li_47, li_48, li_49, li_50, li_51, li_52, li_53, li_54, li_55, li_56, li_57, li_58, li_59, li_60, li_61, li_62, li_63, li_64, li_65, li_66, li_67, li_68, li_69, li_70, li_71, li_72, li_73, li_74, li_75, li_76, li_77, li_78, li_79, li_80, li_81, li_82, li_83, li_84, li_85, li_86, li_87, li_88, li_89, li_90, li_91, li_92, li_93, li_94, li_95, li_96, li_97, li_98, li_99, li_100, li_101, li_102, li_103, li_104, li_105, li_106, li_107, li_108, li_109, li_110, li_111, li_112, li_113, li_114, li_115, li_116, li_117, li_118, li_119, li_120, li_121, li_122, li_255, li_400, li_608, li_998, li_999, li_1000, li_1024, li_1103, li_2400, li_2911, li_4095, li_4096, li_5711, li_9999, li_12345, li_1000000, li_1000003, li_252645135, li_858993459, li_1431655765, p1, wI_mul, z10, d3, d4, r1, r2, wI_le, eq_false (show ¬ b % 10 ≤ a % 10 by omega)]
      · rw [nAb_s (by omega) h]
        have g := go h
        simp -dsimp (disch := omega) only [hO_s, hI_s, hL_s, hQ_s, hQ_n, hR_s, hV_s, hN_n, hN_s, cond_true, lI_0, lI_1, sI_0, sI_1, lL_0, lL_1, ↓reduceIte, not_true_eq_false, not_false_eq_true, Nat.reduceEqDiff, Nat.reduceAdd, Nat.reduceMul, Nat.reduceSub, Nat.reduceLeDiff, Nat.reduceLT, li_2, li_3, li_4, li_5, li_6, li_7, li_8, li_9, li_10, li_11, li_12, li_13, li_14, li_15, li_16, li_17, li_18, li_19, li_20, li_21, li_22, li_23, li_24, li_25, li_26, li_27, li_28, li_29, li_30, li_31, li_32, li_33, li_34, li_35, li_36, li_37, li_38, li_39, li_40, li_41, li_42, li_43, li_44, li_45, li_46, li_47, li_48, li_49, li_50, li_51, li_52, li_53, li_54, li_55, li_56, li_57, li_58, li_59, li_60, li_61, li_62, li_63, li_64, li_65, li_66, li_67, li_68, li_69, li_70, li_71, li_72, li_73, li_74, li_75, li_76, li_77, li_78, li_79, li_80, li_81, li_82, li_83, li_84, li_85, li_86, li_87, li_88, li_89, li_90, li_91, li_92, li_93, li_94, li_95, li_96, li_97, li_98, li_99, li_100, li_101, li_102, li_103, li_104, li_105, li_106, li_107, li_108, li_109, li_110, li_111, li_112, li_113, li_114, li_115, li_116, li_117, li_118, li_119, li_120, li_121, li_122, li_255, li_400, li_608, li_998, li_999, li_1000, li_1024, li_1103, li_2400, li_2911, li_4095, li_4096, li_5711, li_9999, li_12345, li_1000000, li_1000003, li_252645135, li_858993459, li_1431655765, p1, wI_mul, z10, d3, d4, r1, r2, wI_le, eq_true (show b % 10 ≤ a % 10 by omega), g]
theorem t_notch {v s : Nat} (hv : v ≤ 999) (hs : s ≤ 999) {d : Nat} (hd : 1 ≤ d) (σ : Mem) : EC d mM_notchesAbove [.int (wI v), .int (wI s)] σ = some (some (.int (match nAb 3 0 v s with | none => -1 | some k => wI k)), σ) := by
  obtain ⟨d, rfl⟩ : ∃ e, d = e + 1 := ⟨d - 1, by omega⟩
  rw [q_M_notchesAbove]
  exact notch_L σ 3 0 v s (by omega) (by omega) (by decide) (by decide)
/-- how many, and the last, from v on -/
noncomputable def toA (s g : Nat) : Nat → Nat → Nat → Nat → Nat × Nat := by
  classical
  exact fun m => Nat.rec (motive := fun _ => Nat → Nat → Nat → Nat × Nat) (fun _ a b => (a, b)) (fun _ rec v a b => if ct v s g then rec (v + 1) (a + 1) v else rec (v + 1) a b) m
theorem toA_t {s g m v a b : Nat} (h : ct v s g) : toA s g (m + 1) v a b = toA s g m (v + 1) (a + 1) v := by
  unfold toA; exact if_pos h
theorem toA_f {s g m v a b : Nat} (h : ¬ ct v s g) : toA s g (m + 1) v a b = toA s g m (v + 1) a b := by
  unfold toA; exact if_neg h
/-- the last is the greatest -/
theorem toA_last {s g : Nat} : ∀ (m v a b : Nat), (∃ w, v ≤ w ∧ w < v + m ∧ ct w s g ∧ (toA s g m v a b).2 = w ∧ ∀ u, w < u → u < v + m → ¬ ct u s g) ∨ ((toA s g m v a b).2 = b ∧ ∀ u, v ≤ u → u < v + m → ¬ ct u s g) := by
  intro m
  induction m with
  | zero => intro v a b; exact Or.inr ⟨rfl, fun u h1 h2 => by omega⟩
  | succ m ih =>
    intro v a b
    rcases ct_em v s g with h | h
    · rw [toA_t h]
      rcases ih (v + 1) (a + 1) v with ⟨w, w1, w2, w3, w4, w5⟩ | ⟨w1, w2⟩
      · exact Or.inl ⟨w, by omega, by omega, w3, w4, fun u h1 h2 => w5 u h1 (by omega)⟩
      · exact Or.inl ⟨v, Nat.le_refl _, by omega, h, w1, fun u h1 h2 => w2 u (by omega) (by omega)⟩
    · rw [toA_f h]
      rcases ih (v + 1) a b with ⟨w, w1, w2, w3, w4, w5⟩ | ⟨w1, w2⟩
      · exact Or.inl ⟨w, by omega, by omega, w3, w4, fun u h1 h2 => w5 u h1 (by omega)⟩
      · refine Or.inr ⟨w1, fun u h1 h2 => ?_⟩
        by_cases e : u = v
        · rw [e]; exact h
        · exact w2 u (by omega) (by omega)
theorem ct_self (s g : Nat) : ct s s g := ⟨Nat.le_refl _, Nat.le_refl _, Nat.le_refl _, by omega⟩
theorem toldC_L {s g : Nat} (hs : s ≤ 999) (hg : g ≤ 27) {d : Nat} (hd : 1 ≤ d) (σ : Mem) : ∀ (m v a b : Nat), v + m = 1000 → s ≤ v → a ≤ v → Ev (d + 1) mHalves_toldCount 5 [(1, .int (wI s)), (2, .int (wI g)), (3, .int (wI a)), (4, .int (wI v))] [] σ = some (some (.int (wI (toA s g m v a b).1)), σ) := by
  intro m
  induction m with
  | zero =>
    intro v a b hm hv ha
    rw [q_Halves_toldCount_5, if_pos (by rw [show (999 : Int32) = wI 999 from rfl, wI_lt (by decide) (by omega)]; omega)]
    rfl
  | succ m ih =>
    intro v a b hm hv ha
    have ⟨c1, c0⟩ := t_canHaveTold (v := v) (s := s) (g := g) (by omega) hs hg hd σ
    have n9 : ¬ (999 : Int32) < wI v := by rw [show (999 : Int32) = wI 999 from rfl, wI_lt (by decide) (by omega)]; omega
    rw [q_Halves_toldCount_5, if_neg n9]
    rcases ct_em v s g with h | h
    · rw [toA_t h, c1 h]
      rw [hI_s, if_neg (by decide), wI_add1, wI_add1, ih (v + 1) (a + 1) v (by omega) (by omega) (by omega)]
    · rw [toA_f h, c0 h]
      rw [hI_s, if_pos rfl, wI_add1, ih (v + 1) a b (by omega) (by omega) (by omega)]
theorem toldM_L {s g : Nat} (hs : s ≤ 999) (hg : g ≤ 27) {d : Nat} (hd : 1 ≤ d) (σ : Mem) : ∀ (m v : Nat), v = s + m → v ≤ 999 → (∀ u, v < u → u ≤ 999 → ¬ ct u s g) → ∃ w, Ev (d + 1) mHalves_toldMost 4 [(1, .int (wI s)), (2, .int (wI g)), (3, .int (wI v))] [] σ = some (some (.int (wI w)), σ) ∧ s ≤ w ∧ w ≤ 999 ∧ ct w s g ∧ ∀ u, w < u → u ≤ 999 → ¬ ct u s g := by
  intro m
  induction m with
  | zero =>
    intro v hv h9 hu
    refine ⟨s, ?_, Nat.le_refl _, hs, ct_self s g, fun u h1 h2 => hu u (by omega) h2⟩
    rw [q_Halves_toldMost_4, if_pos (by rw [wI_le (by omega) (by omega)]; omega)]
  | succ m ih =>
    intro v hv h9 hu
    have ⟨c1, c0⟩ := t_canHaveTold (v := v) (s := s) (g := g) (by omega) hs hg hd σ
    have n9 : ¬ wI v ≤ wI s := by rw [wI_le (by omega) (by omega)]; omega
    rcases ct_em v s g with h | h
    · refine ⟨v, ?_, by omega, h9, h, hu⟩
      rw [q_Halves_toldMost_4, if_neg n9, c1 h]
      rw [hI_s, if_neg (by decide)]
    · obtain ⟨w, i1, i2, i3, i4, i5⟩ := ih (v - 1) (by omega) (by omega) (fun u h1 h2 => by
        by_cases e : u = v
        · rw [e]; exact h
        · exact hu u (by omega) h2)
      refine ⟨w, ?_, i2, i3, i4, i5⟩
      rw [q_Halves_toldMost_4, if_neg n9, c0 h]
      rw [hI_s, if_pos rfl, show wI v + -1 = wI v - 1 from (Int32.sub_eq_add_neg _ _).symm, wI_sub1 (by omega)]
      exact i1
theorem told_50 {s g : Nat} (hs : s ≤ 999) (hg : g ≤ 27) {d : Nat} (hd : 1 ≤ d) (σ : Mem) (x3 : Int32) : ∀ (m v a b : Nat), v + m = 1000 → s ≤ v → a ≤ v → b ≤ 999 → Ev (d + 1) mM_told 50 [(2, .int (wI g)), (3, .int x3), (4, .int (wI s)), (5, .int (wI a)), (6, .int (wI b)), (7, .int (wI v))] [] σ = if x3 = 0 then some (some (.int (wI (toA s g m v a b).1)), σ) else some (some (.int (wI (toA s g m v a b).2)), σ) := by
  intro m
  induction m with
  | zero =>
    intro v a b hm hv ha hb
    rw [q_M_told_50, if_pos (by rw [show (999 : Int32) = wI 999 from rfl, wI_lt (by decide) (by omega)]; omega)]
    rfl
  | succ m ih =>
    intro v a b hm hv ha hb
    have i1 := t_notch (v := v) (s := s) (by omega) hs hd σ
    have n9 : ¬ (999 : Int32) < wI v := by rw [show (999 : Int32) = wI 999 from rfl, wI_lt (by decide) (by omega)]; omega
    have hc := nAb_ct (v := v) (s := s) (f := g) (by omega) hs
    have hb2 := nAb_ct (v := v) (s := s) (f := 99) (by omega) hs
    rw [q_M_told_50, if_neg n9, i1]
    cases hk : nAb 3 0 v s with
    | none =>
      rw [toA_f (fun h => by obtain ⟨k, k1, k2⟩ := hc.mpr h; rw [hk] at k1; cases k1)]
      rw [hI_s, if_pos rfl, wI_add1, ih (v + 1) a b (by omega) (by omega) (by omega) hb]
    | some k =>
      have hk100 : k < 100 := by
        have : ct v s k ∨ ¬ ct v s k := ct_em v s k
        have hx := nAb_ct (v := v) (s := s) (f := 1000) (by omega) hs
        have hct : ct v s 1000 := by
          rcases ct_em v s 1000 with h | h
          · exact h
          · exfalso
            have key := nAb_ct (v := v) (s := s) (f := k) (by omega) hs
            by_cases hk2 : k < 100
            · exact h (hx.mp ⟨k, hk, by omega, hk2⟩)
            · unfold nAb at hk
              unfold ct at h
              split at hk
              · cases hk; omega
              · split at hk
                · cases hk
                · unfold nAb at hk
                  split at hk
                  · cases hk; omega
                  · split at hk
                    · cases hk
                    · unfold nAb at hk
                      split at hk
                      · cases hk; omega
                      · split at hk
                        · cases hk
                        · unfold nAb at hk
                          cases hk; omega
        obtain ⟨k', k1, k2, k3⟩ := hx.mpr hct
        rw [hk] at k1
        cases k1
        exact k3
      have n1 : ¬ wI k = -1 := by rw [wI_eqm (by omega)]; exact fun h => h
      rw [hI_s]
      show (if wI k = -1 then _ else if wI k ≤ wI g then _ else _) = _
      rw [if_neg n1]
      by_cases h : k ≤ g
      · rw [if_pos (by rw [wI_le (by omega) (by omega)]; exact h), toA_t (hc.mp ⟨k, hk, h, hk100⟩), wI_add1, wI_add1, ih (v + 1) (a + 1) v (by omega) (by omega) (by omega) (by omega)]
      · rw [if_neg (by rw [wI_le (by omega) (by omega)]; exact h), toA_f (fun hh => by obtain ⟨k', k1, k2, k3⟩ := hc.mpr hh; rw [hk] at k1; cases k1; exact h k2), wI_add1, ih (v + 1) a b (by omega) (by omega) (by omega) hb]
end
