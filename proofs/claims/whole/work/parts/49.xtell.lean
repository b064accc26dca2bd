/-! ===== the program: what a STICK pays, how it is worn, from whom it is barred ===== -/
theorem pText_all {C : Nat → Nat} {cl : Nat → Nat → Nat → Nat ⊕ CL} {n : Nat} {P : CL → Prop} (h : ∀ c t l q, cl c t l = .inr q → P q) : ∀ (m c t l : Nat) (cls : List CL), pText C cl n m c t l = .inr cls → ∀ q ∈ cls, P q := by
  intro m
  induction m with
  | zero => intro c t l cls h1; cases h1
  | succ m ih =>
    intro c t l cls h1
    rw [pText] at h1
    cases e1 : cl c t l with
    | inl e => rw [e1] at h1; cases h1
    | inr q1 =>
      rw [e1] at h1
      dsimp only at h1
      split at h1
      · cases h1
        intro q hq
        cases hq with
        | head => exact h _ _ _ _ e1
        | tail _ hq => cases hq
      · split at h1
        · cases e2 : pText C cl n m (c + q1.2.2.2.1.length) (q1.1 + 1) q1.2.1 with
          | inl e => rw [e2] at h1; cases h1
          | inr qs =>
            rw [e2] at h1
            cases h1
            intro q hq
            cases hq with
            | head => exact h _ _ _ _ e1
            | tail _ hq => exact ih _ _ _ _ e2 q hq
        · cases h1
theorem pText_len {C : Nat → Nat} {cl : Nat → Nat → Nat → Nat ⊕ CL} {n : Nat} : ∀ (m c t l : Nat) (cls : List CL), pText C cl n m c t l = .inr cls → 1 ≤ cls.length ∧ cls.length ≤ m := by
  intro m
  induction m with
  | zero => intro c t l cls h1; cases h1
  | succ m ih =>
    intro c t l cls h1
    rw [pText] at h1
    cases e1 : cl c t l with
    | inl e => rw [e1] at h1; cases h1
    | inr q1 =>
      rw [e1] at h1
      dsimp only at h1
      split at h1
      · cases h1
        simp
      · split at h1
        · cases e2 : pText C cl n m (c + q1.2.2.2.1.length) (q1.1 + 1) q1.2.1 with
          | inl e => rw [e2] at h1; cases h1
          | inr qs =>
            rw [e2] at h1
            cases h1
            have := ih _ _ _ _ e2
            simp only [List.length_cons]; omega
        · cases h1
def lwP (q : CL) : Prop := q.2.2.1.getD 3 0 = q.2.2.1.getD 4 0 ∧ q.2.2.1.getD 0 0 ≤ 6 ∧ 4 ≤ q.2.2.1.getD 0 0 ∧ (q.2.2.1.getD 0 0 = 6 → q.2.2.2.2.1 = one1)
theorem lw_lawC {C V : Nat → Nat} (c t l : Nat) (q : CL) (h : pLawC C V c t l = .inr q) : lwP q := by
  unfold pLawC at h
  split at h
  · cases e1 : pIf false C V c (t + 1) l with
    | inl e => rw [e1] at h; cases h
    | inr r =>
      rw [e1] at h
      cases h
      exact ⟨rfl, Nat.le_refl _, show 4 ≤ 6 by decide, fun _ => rfl⟩
  · split at h
    · rename_i h12
      cases e1 : pSum false C V 8 c (t + 1) l with
      | inl e => rw [e1] at h; cases h
      | inr q1 =>
        rw [e1] at h
        dsimp only at h
        cases e2 : pIf false C V (c + q1.2.2.1.length) q1.1 q1.2.1 with
        | inl e => rw [e2] at h; cases h
        | inr r =>
          rw [e2] at h
          cases h
          refine ⟨rfl, ?_, ?_, ?_⟩
          · show 3 + C t ≤ 6; omega
          · show 4 ≤ 3 + C t; omega
          · intro h
            have h' : 3 + C t = 6 := h
            omega
    · cases h
theorem getD_mem {cls : List CL} {i : Nat} (h : i < cls.length) : cls.getD i dCL ∈ cls := by
  rw [List.getD_eq_getElem?_getD, List.getElem?_eq_getElem h]
  exact List.getElem_mem h
/-- TEXT i of what is kept is a LAW with these CLAUSES -/
def LT (N : Nat → Nat) (i : Nat) (cls : List CL) : Prop := N (104 + i) ≤ 400 ∧ pText (cdN N (400 * i) (N (104 + i))) (pLawC (cdN N (400 * i) (N (104 + i))) (vlN N (400 * i))) (N (104 + i)) 12 0 0 0 = .inr cls
theorem LT_lw {N : Nat → Nat} {i : Nat} {cls : List CL} (h : LT N i cls) {j : Nat} (hj : j < cls.length) : lwP (cls.getD j dCL) := pText_all lw_lawC _ _ _ _ _ h.2 _ (getD_mem hj)
/-- the law in force of the chest at b -/
def LA (f : Nat → Nat → Int32) (z : Mem) (b : Nat) (N : Nat → Nat) (cls : List CL) : Prop := (N 103 = 0 ∧ cls = []) ∨ ∃ i q hl sl, N 103 = i + 1 ∧ i < 6 ∧ f (b + 12) i = wI q ∧ 86 ≤ q ∧ q < 2147480000 ∧ Pg z q hl sl ∧ PT f q hl sl cls ∧ LT N i cls
theorem LA_up {f : Nat → Nat → Int32} {z : Mem} {b : Nat} {N : Nat → Nat} {cls : List CL} (h : LA f z b N cls) {a : Nat} (ha : a < 86) (hab : a ≠ b + 12) (g : Nat → Int32) : LA (up f a g) z b N cls := by
  rcases h with h | ⟨i, q, hl, sl, h1, h2, h3, h4, h5, h6, h7, h8⟩
  · exact Or.inl h
  · refine Or.inr ⟨i, q, hl, sl, h1, h2, ?_, h4, h5, h6, PT_up h7 (by omega) g, h8⟩
    rw [up_ne _ _ _ (by omega)]
    exact h3
/-- the STICK that is asked of, and to whom: within bounds -/
def S2 (f : Nat → Nat → Int32) : Prop := ∃ (s : Nat) (to : Int), s < 10 ∧ f 38 2 = wI s ∧ f 38 3 = jI to ∧ -1000000000 ≤ to ∧ to ≤ 1000000000
/-- what asking changes: the rules' own rows -/
def RF (b : Nat) (f f' : Nat → Nat → Int32) : Prop := (∀ a, a ≠ 38 → a ≠ 39 → f' a = f a) ∧ f' 38 4 = f 38 4 ∧ f' 38 5 = f 38 5 ∧ S2 f' ∧ (f' 38 1 = f 38 1 ∨ f' 38 1 = wI b)
def B9 (x : Int) : Prop := -1000000000 ≤ x ∧ x ≤ 1000000000
theorem ite_B9 {p : Prop} [Decidable p] {x y : Int} (h1 : p → B9 x) (h2 : ¬ p → B9 y) : B9 (if p then x else y) := by
  by_cases h : p
  · rw [if_pos h]; exact h1 h
  · rw [if_neg h]; exact h2 h
section
variable {z : Mem} {f : Nat → Nat → Int32} {N : Nat → Nat} {b : Nat} {dn lt : Int} {cls : List CL}
theorem t_lawInForce (hb : Ch z b) (hc : CK f b N) (hv : VK N) (hl : LA f z b N cls) {d : Nat} (hd : 1 ≤ d) : (N 103 = 0 ∧ cls = [] ∧ EC d mChest_lawInForce [.ref b] (mkM f z) = some (some .null, mkM f z)) ∨
    ∃ i q hl sl, N 103 = i + 1 ∧ i < 6 ∧ 86 ≤ q ∧ q < 2147480000 ∧ Pg z q hl sl ∧ PT f q hl sl cls ∧ LT N i cls ∧ EC d mChest_lawInForce [.ref b] (mkM f z) = some (some (.ref q), mkM f z) := by
  obtain ⟨d, rfl⟩ : ∃ e, d = e + 1 := ⟨d - 1, by omega⟩
  have hB := hv.1
  have h102 := hv.2.2.2.2.1
  have h103 := hv.2.2.2.2.2.1
  obtain ⟨c99, c100, c101, c102, c103, cpu, cow, cho, csu, cgr, cki, cdu, cpa, cfg, cfs, cda, cdm, cmo⟩ := hc
  rw [q_Chest_lawInForce]
  rcases hl with ⟨h1, h2⟩ | ⟨i, q, hl, sl, h1, h2, h3, h4, h5, h6, h7, h8⟩
  · refine Or.inl ⟨h1, h2, ?_⟩
    have e1 : (wI 0 - 1 < 0) = True := eq_true (by decide)
    simp -dsimp (disch := first | omega | exact hB _) only [↓c_C hb, g_C_0 hb, p_C_0 hb, r_C_1 hb, g_C_2 hb, p_C_2 hb, r_C_3 hb, r_C_4 hb, r_C_5 hb, r_C_6 hb, r_C_7 hb, r_C_8 hb, r_C_9 hb, g_C_10 hb, p_C_10 hb, r_C_11 hb, r_C_12 hb, r_C_13 hb, g_C_14 hb, p_C_14 hb, r_C_15 hb, g_C_16 hb, p_C_16 hb, l_C1 hb, s_C1 hb, n_C1 hb, l_C2 hb, s_C2 hb, n_C2 hb, l_C3 hb, s_C3 hb, n_C3 hb, l_C4 hb, s_C4 hb, n_C4 hb, l_C5 hb, s_C5 hb, n_C5 hb, l_C6 hb, s_C6 hb, n_C6 hb, l_C7 hb, s_C7 hb, n_C7 hb, l_C8 hb, s_C8 hb, n_C8 hb, l_C9 hb, s_C9 hb, n_C9 hb, l_C10 hb, s_C10 hb, n_C10 hb, l_C11 hb, s_C11 hb, n_C11 hb, l_C12 hb, hO_s, hI_s, hL_s, hQ_s, hQ_n, hR_s, hV_s, hN_n, hN_s, cond_true, lI_0, lI_1, sI_0, sI_1, lL_0, lL_1, ↓reduceIte, not_true_eq_false, not_false_eq_true, Nat.reduceEqDiff, Nat.reduceAdd, Nat.reduceMul, Nat.reduceSub, Nat.reduceLeDiff, Nat.reduceLT, li_2, li_3, li_4, li_5, li_6, li_7, li_8, li_9, li_10, li_11, li_12, li_13, li_14, li_15, li_16, li_17, li_18, li_19, li_20, li_21, li_22, li_23, li_24, li_25, li_26, li_27, li_28, li_29, li_30, li_31, li_32, li_33, li_34, li_35, li_36, li_37, li_38, li_39, li_40, li_41, li_42, li_43, li_44, li_45, li_46, li_47, li_48, li_49, li_50, li_51, li_52, li_53, li_54, li_55, li_56, li_57, li_58, li_59, li_60, li_61, li_62, li_63, li_64, li_65, li_66, li_67, li_68, li_69, li_70, li_71, li_72, li_73, li_74, li_75, li_76, li_77, li_78, li_79, li_80, li_81, li_82, li_83, li_84, li_85, li_86, li_87, li_88, li_89, li_90, li_91, li_92, li_93, li_94, li_95, li_96, li_97, li_98, li_99, li_100, li_101, li_102, li_103, li_104, li_105, li_106, li_107, li_108, li_109, li_110, li_111, li_112, li_113, li_114, li_115, li_116, li_117, li_118, li_119, li_120, li_121, li_122, li_255, li_400, li_608, li_998, li_999, li_1000, li_1024, li_1103, li_2400, li_2911, li_4095, li_4096, li_5711, li_9999, li_12345, li_1000000, li_1000003, li_252645135, li_858993459, li_1431655765, wI_add, wI_mul, wI_add1, wI_1add, c103, h1, e1]
  · refine Or.inr ⟨i, q, hl, sl, h1, h2, h4, h5, h6, h7, h8, ?_⟩
    have e1 : wI (i + 1) - 1 = wI i := by rw [wI_sub1 (by omega), Nat.add_sub_cancel]
    have e2 : ¬ N 102 ≤ i := by omega
    simp -dsimp (disch := first | omega | exact hB _) only [↓c_C hb, g_C_0 hb, p_C_0 hb, r_C_1 hb, g_C_2 hb, p_C_2 hb, r_C_3 hb, r_C_4 hb, r_C_5 hb, r_C_6 hb, r_C_7 hb, r_C_8 hb, r_C_9 hb, g_C_10 hb, p_C_10 hb, r_C_11 hb, r_C_12 hb, r_C_13 hb, g_C_14 hb, p_C_14 hb, r_C_15 hb, g_C_16 hb, p_C_16 hb, l_C1 hb, s_C1 hb, n_C1 hb, l_C2 hb, s_C2 hb, n_C2 hb, l_C3 hb, s_C3 hb, n_C3 hb, l_C4 hb, s_C4 hb, n_C4 hb, l_C5 hb, s_C5 hb, n_C5 hb, l_C6 hb, s_C6 hb, n_C6 hb, l_C7 hb, s_C7 hb, n_C7 hb, l_C8 hb, s_C8 hb, n_C8 hb, l_C9 hb, s_C9 hb, n_C9 hb, l_C10 hb, s_C10 hb, n_C10 hb, l_C11 hb, s_C11 hb, n_C11 hb, l_C12 hb, hO_s, hI_s, hL_s, hQ_s, hQ_n, hR_s, hV_s, hN_n, hN_s, cond_true, lI_0, lI_1, sI_0, sI_1, lL_0, lL_1, ↓reduceIte, not_true_eq_false, not_false_eq_true, Nat.reduceEqDiff, Nat.reduceAdd, Nat.reduceMul, Nat.reduceSub, Nat.reduceLeDiff, Nat.reduceLT, li_2, li_3, li_4, li_5, li_6, li_7, li_8, li_9, li_10, li_11, li_12, li_13, li_14, li_15, li_16, li_17, li_18, li_19, li_20, li_21, li_22, li_23, li_24, li_25, li_26, li_27, li_28, li_29, li_30, li_31, li_32, li_33, li_34, li_35, li_36, li_37, li_38, li_39, li_40, li_41, li_42, li_43, li_44, li_45, li_46, li_47, li_48, li_49, li_50, li_51, li_52, li_53, li_54, li_55, li_56, li_57, li_58, li_59, li_60, li_61, li_62, li_63, li_64, li_65, li_66, li_67, li_68, li_69, li_70, li_71, li_72, li_73, li_74, li_75, li_76, li_77, li_78, li_79, li_80, li_81, li_82, li_83, li_84, li_85, li_86, li_87, li_88, li_89, li_90, li_91, li_92, li_93, li_94, li_95, li_96, li_97, li_98, li_99, li_100, li_101, li_102, li_103, li_104, li_105, li_106, li_107, li_108, li_109, li_110, li_111, li_112, li_113, li_114, li_115, li_116, li_117, li_118, li_119, li_120, li_121, li_122, li_255, li_400, li_608, li_998, li_999, li_1000, li_1024, li_1103, li_2400, li_2911, li_4095, li_4096, li_5711, li_9999, li_12345, li_1000000, li_1000003, li_252645135, li_858993459, li_1431655765, wI_add, wI_mul, wI_add1, wI_1add, c103, h1, e1, wI_lt0, c102, wI_le, e2, h3, rfo_w]
theorem env_B {s : Nat} {to : Int} (hv : VK N) (hs : s < 10) (hto : -1000000000 ≤ to ∧ to ≤ 1000000000) (hdn : -1000000000 ≤ dn ∧ dn ≤ 1000000000) (hlt : -1000000000 ≤ lt ∧ lt ≤ 1000000000) : envB (xEnv N s to dn lt) := by
  obtain ⟨v0, v1, v2, v3, v4, v5, v6, v7, v8, v9, v10, v11, v12⟩ := hv
  intro g k
  have h1 := v10 s hs
  have h2 := v9 (N (37 + s)) (by omega)
  show B9 (xEnv N s to dn lt g k)
  unfold xEnv
  repeat' (apply ite_B9 <;> intro hh)
  all_goals unfold B9
  all_goals first
    | omega
    | (have h3 := v9 k (by omega); omega)
    | (have h3 := v10 k (by omega); omega)
theorem t_lastTold (hz : Sh z) (hb : Ch z b) (hc : CK f b N) (hv : VK N) (hl : LA f z b N cls) (h4 : f 38 4 = jI dn) (h5 : f 38 5 = jI lt) (hdn : -1000000000 ≤ dn ∧ dn ≤ 1000000000) (hlt : -1000000000 ≤ lt ∧ lt ≤ 1000000000) (h2 : S2 f)
    (hb0 : b ≠ 0) (hb1 : b < 2147480000) (hb39 : b + 12 < 38 ∨ 86 ≤ b) {s k : Nat} (hs : s < N 100) (hk : k ≤ 6) {wo : Int32} {d : Nat} (hd : 4 ≤ d) :
    ∃ f', EC d mRules_lastTold [.ref 38, .ref b, .int (wI s), .int (wI k), .int wo] (mkM f z) = some (some (.int (aII (lastI (xEnv N s (-1) dn lt) k cls cls.length) wo)), mkM f' z) ∧ RF b f f' := by
  obtain ⟨d, rfl⟩ : ∃ e, d = e + 1 := ⟨d - 1, by omega⟩
  have hB := hv.1
  have h100 := hv.2.2.1
  rw [q_Rules_lastTold]
  rcases t_lawInForce hb hc hv hl (d := d) (by omega) with ⟨e1, e2, e3⟩ | ⟨i, q, hl', sl, e1, e2, e3, e4, e5, e6, e7, e8⟩
  · refine ⟨f, ?_, fun a _ _ => rfl, rfl, rfl, h2, Or.inl rfl⟩
    subst e2
    simp -dsimp (disch := first | omega | exact hB _) only [↓c_C hb, g_C_0 hb, p_C_0 hb, r_C_1 hb, g_C_2 hb, p_C_2 hb, r_C_3 hb, r_C_4 hb, r_C_5 hb, r_C_6 hb, r_C_7 hb, r_C_8 hb, r_C_9 hb, g_C_10 hb, p_C_10 hb, r_C_11 hb, r_C_12 hb, r_C_13 hb, g_C_14 hb, p_C_14 hb, r_C_15 hb, g_C_16 hb, p_C_16 hb, l_C1 hb, s_C1 hb, n_C1 hb, l_C2 hb, s_C2 hb, n_C2 hb, l_C3 hb, s_C3 hb, n_C3 hb, l_C4 hb, s_C4 hb, n_C4 hb, l_C5 hb, s_C5 hb, n_C5 hb, l_C6 hb, s_C6 hb, n_C6 hb, l_C7 hb, s_C7 hb, n_C7 hb, l_C8 hb, s_C8 hb, n_C8 hb, l_C9 hb, s_C9 hb, n_C9 hb, l_C10 hb, s_C10 hb, n_C10 hb, l_C11 hb, s_C11 hb, n_C11 hb, l_C12 hb, hO_s, hI_s, hL_s, hQ_s, hQ_n, hR_s, hV_s, hN_n, hN_s, cond_true, lI_0, lI_1, sI_0, sI_1, lL_0, lL_1, ↓reduceIte, not_true_eq_false, not_false_eq_true, Nat.reduceEqDiff, Nat.reduceAdd, Nat.reduceMul, Nat.reduceSub, Nat.reduceLeDiff, Nat.reduceLT, li_2, li_3, li_4, li_5, li_6, li_7, li_8, li_9, li_10, li_11, li_12, li_13, li_14, li_15, li_16, li_17, li_18, li_19, li_20, li_21, li_22, li_23, li_24, li_25, li_26, li_27, li_28, li_29, li_30, li_31, li_32, li_33, li_34, li_35, li_36, li_37, li_38, li_39, li_40, li_41, li_42, li_43, li_44, li_45, li_46, li_47, li_48, li_49, li_50, li_51, li_52, li_53, li_54, li_55, li_56, li_57, li_58, li_59, li_60, li_61, li_62, li_63, li_64, li_65, li_66, li_67, li_68, li_69, li_70, li_71, li_72, li_73, li_74, li_75, li_76, li_77, li_78, li_79, li_80, li_81, li_82, li_83, li_84, li_85, li_86, li_87, li_88, li_89, li_90, li_91, li_92, li_93, li_94, li_95, li_96, li_97, li_98, li_99, li_100, li_101, li_102, li_103, li_104, li_105, li_106, li_107, li_108, li_109, li_110, li_111, li_112, li_113, li_114, li_115, li_116, li_117, li_118, li_119, li_120, li_121, li_122, li_255, li_400, li_608, li_998, li_999, li_1000, li_1024, li_1103, li_2400, li_2911, li_4095, li_4096, li_5711, li_9999, li_12345, li_1000000, li_1000003, li_252645135, li_858993459, li_1431655765, wI_add, wI_mul, wI_add1, wI_1add, e3]
    rfl
  · have hS := t_Chest_hasStick hb hc hv (d := d) (by omega) (wI s)
    rw [inb_wI (by omega)] at hS
    have hc' := CK_up hc (a := 38) (by omega) (upd (upd (upd (f 38) 1 (wI b)) 2 (wI s)) 3 (-1))
    have hp' := PT_up e6 (a := 38) (by omega) (upd (upd (upd (f 38) 1 (wI b)) 2 (wI s)) 3 (-1))
    have hr' : RK (up f 38 (upd (upd (upd (f 38) 1 (wI b)) 2 (wI s)) 3 (-1))) b s (-1) dn lt := by
      unfold RK
      rw [up_eq]
      refine ⟨?_, ?_, ?_, ?_, ?_⟩
      · rw [upd_ne _ _ _ (by decide), upd_ne _ _ _ (by decide), upd_eq]
      · rw [upd_ne _ _ _ (by decide), upd_eq]
      · rw [upd_eq]; rfl
      · rw [upd_ne _ _ _ (by decide), upd_ne _ _ _ (by decide), upd_ne _ _ _ (by decide), h4]
      · rw [upd_ne _ _ _ (by decide), upd_ne _ _ _ (by decide), upd_ne _ _ _ (by decide), h5]
    obtain ⟨g', i1⟩ := lastTold_L hz hb hc' hv hr' hb0 (by omega) (by omega) (by omega) e5 (by omega) (env_B hv (by omega) (by decide) hdn hlt) hp' (fun j hj => (LT_lw e7 hj).1) hk (wo := wo) (d := d) (by omega) cls.length (f 39) (Nat.le_refl _)
    have i0 : up (up f 38 (upd (upd (upd (f 38) 1 (wI b)) 2 (wI s)) 3 (-1))) 39 (f 39) = up f 38 (upd (upd (upd (f 38) 1 (wI b)) 2 (wI s)) 3 (-1)) := by
      have : (up f 38 (upd (upd (upd (f 38) 1 (wI b)) 2 (wI s)) 3 (-1))) 39 = f 39 := up_ne _ _ _ (by decide)
      rw [← this, up_same]
    rw [i0] at i1
    refine ⟨up (up f 38 (upd (upd (upd (f 38) 1 (wI b)) 2 (wI s)) 3 (-1))) 39 g', ?_, ?_⟩
    · have hcls := e6.1
      simp -dsimp (disch := omega) only [↓c_0 hz, r_0_0 hz, r_0_1 hz, r_0_2 hz, v_0_3 hz, w_0_3 hz, p_0_3 hz, r_0_4 hz, r_0_5 hz, r_0_6 hz, g_0_7 hz, p_0_7 hz, r_0_8 hz, r_0_9 hz, r_0_10 hz, r_0_11 hz, r_0_12 hz, g_0_13 hz, p_0_13 hz, g_0_14 hz, p_0_14 hz, g_0_15 hz, p_0_15 hz, g_0_16 hz, p_0_16 hz, g_0_17 hz, p_0_17 hz, g_0_18 hz, p_0_18 hz, r_0_19 hz, ↓c_1 hz, g_1_0 hz, p_1_0 hz, r_1_1 hz, g_1_2 hz, p_1_2 hz, r_1_3 hz, r_1_4 hz, r_1_5 hz, r_1_6 hz, r_1_7 hz, r_1_8 hz, r_1_9 hz, g_1_10 hz, p_1_10 hz, r_1_11 hz, r_1_12 hz, r_1_13 hz, g_1_14 hz, p_1_14 hz, r_1_15 hz, g_1_16 hz, p_1_16 hz, l_2 hz, s_2 hz, n_2 hz, l_3 hz, s_3 hz, n_3 hz, l_4 hz, s_4 hz, n_4 hz, l_5 hz, s_5 hz, n_5 hz, l_6 hz, s_6 hz, n_6 hz, l_7 hz, s_7 hz, n_7 hz, l_8 hz, s_8 hz, n_8 hz, l_9 hz, s_9 hz, n_9 hz, l_10 hz, s_10 hz, n_10 hz, l_11 hz, s_11 hz, n_11 hz, l_12 hz, s_12 hz, n_12 hz, l_13 hz, ↓c_14 hz, g_14_0 hz, p_14_0 hz, r_14_1 hz, g_14_2 hz, p_14_2 hz, r_14_3 hz, r_14_4 hz, r_14_5 hz, r_14_6 hz, r_14_7 hz, r_14_8 hz, r_14_9 hz, g_14_10 hz, p_14_10 hz, r_14_11 hz, r_14_12 hz, r_14_13 hz, g_14_14 hz, p_14_14 hz, r_14_15 hz, g_14_16 hz, p_14_16 hz, l_15 hz, s_15 hz, n_15 hz, l_16 hz, s_16 hz, n_16 hz, l_17 hz, s_17 hz, n_17 hz, l_18 hz, s_18 hz, n_18 hz, l_19 hz, s_19 hz, n_19 hz, l_20 hz, s_20 hz, n_20 hz, l_21 hz, s_21 hz, n_21 hz, l_22 hz, s_22 hz, n_22 hz, l_23 hz, s_23 hz, n_23 hz, l_24 hz, s_24 hz, n_24 hz, l_25 hz, s_25 hz, n_25 hz, l_26 hz, l_27 hz, ↓c_28 hz, r_28_0 hz, g_28_1 hz, p_28_1 hz, g_28_2 hz, p_28_2 hz, l_29 hz, s_29 hz, n_29 hz, ↓c_30 hz, r_30_0 hz, g_30_1 hz, p_30_1 hz, g_30_2 hz, p_30_2 hz, l_31 hz, s_31 hz, n_31 hz, l_32 hz, s_32 hz, n_32 hz, ↓c_33 hz, r_33_0 hz, v_33_1 hz, w_33_1 hz, p_33_1 hz, g_33_2 hz, p_33_2 hz, g_33_3 hz, p_33_3 hz, g_33_4 hz, p_33_4 hz, g_33_5 hz, p_33_5 hz, g_33_6 hz, p_33_6 hz, g_33_7 hz, p_33_7 hz, g_33_8 hz, p_33_8 hz, g_33_9 hz, p_33_9 hz, ↓c_34 hz, g_34_0 hz, p_34_0 hz, g_34_1 hz, p_34_1 hz, r_34_2 hz, r_34_3 hz, l_35 hz, s_35 hz, n_35 hz, l_36 hz, s_36 hz, n_36 hz, ↓c_38 hz, r_38_0 hz, v_38_1 hz, w_38_1 hz, p_38_1 hz, g_38_2 hz, p_38_2 hz, g_38_3 hz, p_38_3 hz, g_38_4 hz, p_38_4 hz, g_38_5 hz, p_38_5 hz, l_39 hz, s_39 hz, n_39 hz, ↓c_40 hz, r_40_0 hz, r_40_1 hz, r_40_2 hz, r_40_3 hz, g_40_4 hz, p_40_4 hz, l_41 hz, s_41 hz, n_41 hz, l_42 hz, s_42 hz, n_42 hz, l_43 hz, s_43 hz, n_43 hz, l_44 hz, s_44 hz, n_44 hz, ↓c_45 hz, r_45_0 hz, r_45_1 hz, r_45_2 hz, r_45_3 hz, r_45_4 hz, g_45_5 hz, p_45_5 hz, l_46 hz, s_46 hz, n_46 hz, l_47 hz, s_47 hz, n_47 hz, l_48 hz, s_48 hz, n_48 hz, l_49 hz, s_49 hz, n_49 hz, l_50 hz, s_50 hz, n_50 hz, ↓c_51 hz, r_51_0 hz, r_51_1 hz, r_51_2 hz, r_51_3 hz, r_51_4 hz, g_51_5 hz, p_51_5 hz, g_51_6 hz, p_51_6 hz, l_52 hz, s_52 hz, n_52 hz, l_53 hz, s_53 hz, n_53 hz, l_54 hz, s_54 hz, n_54 hz, l_55 hz, s_55 hz, n_55 hz, l_56 hz, s_56 hz, n_56 hz, l_57 hz, s_57 hz, n_57 hz, ↓c_C hb, g_C_0 hb, p_C_0 hb, r_C_1 hb, g_C_2 hb, p_C_2 hb, r_C_3 hb, r_C_4 hb, r_C_5 hb, r_C_6 hb, r_C_7 hb, r_C_8 hb, r_C_9 hb, g_C_10 hb, p_C_10 hb, r_C_11 hb, r_C_12 hb, r_C_13 hb, g_C_14 hb, p_C_14 hb, r_C_15 hb, g_C_16 hb, p_C_16 hb, l_C1 hb, s_C1 hb, n_C1 hb, l_C2 hb, s_C2 hb, n_C2 hb, l_C3 hb, s_C3 hb, n_C3 hb, l_C4 hb, s_C4 hb, n_C4 hb, l_C5 hb, s_C5 hb, n_C5 hb, l_C6 hb, s_C6 hb, n_C6 hb, l_C7 hb, s_C7 hb, n_C7 hb, l_C8 hb, s_C8 hb, n_C8 hb, l_C9 hb, s_C9 hb, n_C9 hb, l_C10 hb, s_C10 hb, n_C10 hb, l_C11 hb, s_C11 hb, n_C11 hb, l_C12 hb, hO_s, hI_s, hL_s, hQ_s, hQ_n, hR_s, hV_s, hN_n, hN_s, cond_true, lI_0, lI_1, sI_0, sI_1, lL_0, lL_1, ↓reduceIte, not_true_eq_false, not_false_eq_true, Nat.reduceEqDiff, Nat.reduceAdd, Nat.reduceMul, Nat.reduceSub, Nat.reduceLeDiff, Nat.reduceLT, li_2, li_3, li_4, li_5, li_6, li_7, li_8, li_9, li_10, li_11, li_12, li_13, li_14, li_15, li_16, li_17, li_18, li_19, li_20, li_21, li_22, li_23, li_24, li_25, li_26, li_27, li_28, li_29, li_30, li_31, li_32, li_33, li_34, li_35, li_36, li_37, li_38, li_39, li_40, li_41, li_42, li_43, li_44, li_45, li_46, li_47, li_48, li_49, li_50, li_51, li_52, li_53, li_54, li_55, li_56, li_57, li_58, li_59, li_60, li_61, li_62, li_63, li_64, li_65, li_66, li_67, li_68, li_69, li_70, li_71, li_72, li_73, li_74, li_75, li_76, li_77, li_78, li_79, li_80, li_81, li_82, li_83, li_84, li_85, li_86, li_87, li_88, li_89, li_90, li_91, li_92, li_93, li_94, li_95, li_96, li_97, li_98, li_99, li_100, li_101, li_102, li_103, li_104, li_105, li_106, li_107, li_108, li_109, li_110, li_111, li_112, li_113, li_114, li_115, li_116, li_117, li_118, li_119, li_120, li_121, li_122, li_255, li_400, li_608, li_998, li_999, li_1000, li_1024, li_1103, li_2400, li_2911, li_4095, li_4096, li_5711, li_9999, li_12345, li_1000000, li_1000003, li_252645135, li_858993459, li_1431655765, e8, hS, decide_eq_true hs, bz_T, show ((1 : Int32) = 0) = False from eq_false (by decide), up_eq, up_up, g_Q_0 e5, up_ne, hcls, i1]
    · refine ⟨fun a h1 h2 => ?_, ?_, ?_, ⟨s, -1, by omega, ?_, by rw [up_ne _ _ _ (by decide), up_eq, upd_eq]; rfl, by decide, by decide⟩, Or.inr ?_⟩
      · rw [up_ne _ _ _ h2, up_ne _ _ _ h1]
      · rw [up_ne _ _ _ (by decide), up_eq, upd_ne _ _ _ (by decide), upd_ne _ _ _ (by decide), upd_ne _ _ _ (by decide)]
      · rw [up_ne _ _ _ (by decide), up_eq, upd_ne _ _ _ (by decide), upd_ne _ _ _ (by decide), upd_ne _ _ _ (by decide)]
      · rw [up_ne _ _ _ (by decide), up_eq, upd_ne _ _ _ (by decide), upd_eq]
      · rw [up_ne _ _ _ (by decide), up_eq, upd_ne _ _ _ (by decide), upd_ne _ _ _ (by decide), upd_eq]
end
