/-! ===== the reference: the law in force is asked ===== -/
def clN (high : Nat) (v : Int) : Nat := if v < 0 then 0 else if (high : Int) < v then high else v.toNat
def accN (e : EnvT) (k high : Nat) (q : CL) (acc : Nat) : Nat := if q.2.2.1.getD 0 0 = k ∧ q.2.2.2.2.2.2 e = some true then (match q.2.2.2.2.1 e with | some v => clN high v | none => acc) else acc
def tellL (e : EnvT) (k high : Nat) : List CL → Nat → Nat
  | [], acc => acc
  | q :: qs, acc => tellL e k high qs (accN e k high q acc)
theorem lastI_cons {e : EnvT} {k : Nat} {q : CL} {qs : List CL} : ∀ m, lastI e k (q :: qs) (m + 1) = match lastI e k qs m with
    | some v => some v
    | none => if q.2.2.1.getD 0 0 = k ∧ q.2.2.2.2.2.2 e = some true then q.2.2.2.2.1 e else none := by
  intro m
  induction m with
  | zero =>
    show (if _ then _ else _) = _
    simp only [List.getD_cons_zero]
    show (if _ then _ else _) = (if _ then _ else _)
    split
    · cases q.2.2.2.2.1 e <;> rfl
    · rfl
  | succ m ih =>
    have h1 : lastI e k (q :: qs) (m + 1 + 1) = if (qs.getD m dCL).2.2.1.getD 0 0 = k ∧ (qs.getD m dCL).2.2.2.2.2.2 e = some true then (match (qs.getD m dCL).2.2.2.2.1 e with | some v => some v | none => lastI e k (q :: qs) (m + 1)) else lastI e k (q :: qs) (m + 1) := rfl
    have h2 : lastI e k qs (m + 1) = if (qs.getD m dCL).2.2.1.getD 0 0 = k ∧ (qs.getD m dCL).2.2.2.2.2.2 e = some true then (match (qs.getD m dCL).2.2.2.2.1 e with | some v => some v | none => lastI e k qs m) else lastI e k qs m := rfl
    rw [h1, h2, ih]
    by_cases h : (qs.getD m dCL).2.2.1.getD 0 0 = k ∧ (qs.getD m dCL).2.2.2.2.2.2 e = some true
    · rw [if_pos h, if_pos h]
      cases (qs.getD m dCL).2.2.2.2.1 e <;> rfl
    · rw [if_neg h, if_neg h]
theorem tell_eq {e : EnvT} {k high : Nat} : ∀ (cls : List CL) (acc : Nat), tellL e k high cls acc = tellN high acc (lastI e k cls cls.length)
  | [], acc => rfl
  | q :: qs, acc => by
    rw [tellL, tell_eq qs, List.length_cons, lastI_cons]
    cases lastI e k qs qs.length with
    | some v => rfl
    | none =>
      show accN e k high q acc = tellN high acc (if _ then _ else _)
      unfold accN
      split
      · cases q.2.2.2.2.1 e <;> rfl
      · rfl
theorem clN_le {high : Nat} {v : Int} : clN high v ≤ high := by
  unfold clN
  split
  · omega
  · split <;> omega
section
variable {z : Mem} {f : Nat → Nat → Int32} {N : Nat → Nat} {A n : Nat} {e : EnvT}
/-- "if" and its TEST, or nothing -/
theorem m_if (hz : Sh z) (hm : MK f N) (hv : VK N) (hg : f 58 23 = wI (A + n)) (hA : A + n ≤ 2800) {o : Bool} (hC : VCtx o f z e) (hn4 : n ≤ 400) {c t l : Nat} {r : _} (h : pIf o (cdN N A n) (vlN N A) c t l = .inr r) (ht : A + t < 3000) {d : Nat} (hd : 43 ≤ d) (K : Int32 → Mem → Option Rs) :
    ∃ w br' : Bool, (hI (EC d mM_passes0 [.ref 58, .int 4] (mkM (EE2 f (A + t) false) z)) fun i12 σ11 =>
      if i12 = 0 then K 1 σ11 else bif isC σ11 9 58 then hI (EC d mM_testOf [.ref 58, .int 1] σ11) fun i14 σ13 => if i14 = 0 then K 0 σ13 else K 1 σ13 else none) = K (bz (w = true)) (mkM (EE2 f (A + r.1) br') z) ∧ ((w = true ∧ br' = false) ↔ r.2.2.2 e = some true) := by
  have hB := hv.1
  have e1 : ((1 : Int32) = 0) = False := eq_false (by decide)
  unfold pIf at h
  by_cases h4 : cdN N A n t = 4
  · rw [if_pos h4] at h
    have htn := cdN_lt (show cdN N A n t ≠ 0 by omega)
    obtain ⟨w, i1, o1⟩ := t_M_testOf hz hm hv hg hA hC hn4 8 d (by omega) c (t + 1) l r true false h (by omega)
    refine ⟨w, brk true false (r.2.2.2 e), ?_, ?_⟩
    · rw [bz_tt] at i1
      simp -dsimp (disch := first | omega | exact hB _) only [↓c_58 hz, g_58_0 hz, p_58_0 hz, r_58_1 hz, r_58_2 hz, r_58_3 hz, r_58_4 hz, r_58_5 hz, g_58_6 hz, p_58_6 hz, r_58_7 hz, g_58_8 hz, p_58_8 hz, g_58_9 hz, p_58_9 hz, g_58_10 hz, p_58_10 hz, r_58_11 hz, r_58_12 hz, g_58_13 hz, p_58_13 hz, g_58_14 hz, p_58_14 hz, r_58_15 hz, r_58_16 hz, r_58_17 hz, g_58_18 hz, p_58_18 hz, g_58_19 hz, p_58_19 hz, g_58_20 hz, p_58_20 hz, g_58_21 hz, p_58_21 hz, g_58_22 hz, p_58_22 hz, g_58_23 hz, p_58_23 hz, g_58_24 hz, p_58_24 hz, g_58_25 hz, p_58_25 hz, r_58_26 hz, g_58_27 hz, p_58_27 hz, g_58_28 hz, p_58_28 hz, r_58_29 hz, r_58_30 hz, g_58_31 hz, p_58_31 hz, r_58_32 hz, r_58_33 hz, r_58_34 hz, r_58_35 hz, r_58_36 hz, r_58_37 hz, g_58_38 hz, p_58_38 hz, r_58_39 hz, r_58_40 hz, r_58_41 hz, g_58_42 hz, p_58_42 hz, g_58_43 hz, p_58_43 hz, g_58_44 hz, p_58_44 hz, g_58_45 hz, p_58_45 hz, g_58_46 hz, p_58_46 hz, g_58_47 hz, p_58_47 hz, g_58_48 hz, p_58_48 hz, r_58_49 hz, r_58_50 hz, r_58_51 hz, r_58_52 hz, g_58_53 hz, p_58_53 hz, g_58_54 hz, p_58_54 hz, g_58_55 hz, p_58_55 hz, l_59 hz, s_59 hz, n_59 hz, l_60 hz, s_60 hz, n_60 hz, l_61 hz, s_61 hz, n_61 hz, l_62 hz, s_62 hz, n_62 hz, l_63 hz, s_63 hz, n_63 hz, l_64 hz, s_64 hz, n_64 hz, l_65 hz, s_65 hz, n_65 hz, l_66 hz, s_66 hz, n_66 hz, l_67 hz, s_67 hz, n_67 hz, l_68 hz, s_68 hz, n_68 hz, l_69 hz, s_69 hz, n_69 hz, l_70 hz, s_70 hz, n_70 hz, l_71 hz, s_71 hz, n_71 hz, l_72 hz, s_72 hz, n_72 hz, l_73 hz, s_73 hz, n_73 hz, l_74 hz, s_74 hz, n_74 hz, l_75 hz, s_75 hz, n_75 hz, l_76 hz, s_76 hz, n_76 hz, l_77 hz, s_77 hz, n_77 hz, l_78 hz, s_78 hz, n_78 hz, l_79 hz, s_79 hz, n_79 hz, l_80 hz, s_80 hz, n_80 hz, l_81 hz, s_81 hz, n_81 hz, l_82 hz, s_82 hz, l_83 hz, s_83 hz, n_83 hz, l_84 hz, s_84 hz, n_84 hz, l_85 hz, s_85 hz, n_85 hz, hO_s, hI_s, hL_s, hQ_s, hQ_n, hR_s, hV_s, hN_n, hN_s, cond_true, lI_0, lI_1, sI_0, sI_1, lL_0, lL_1, ↓reduceIte, not_true_eq_false, not_false_eq_true, Nat.reduceEqDiff, Nat.reduceAdd, Nat.reduceMul, Nat.reduceSub, Nat.reduceLeDiff, Nat.reduceLT, li_2, li_3, li_4, li_5, li_6, li_7, li_8, li_9, li_10, li_11, li_12, li_13, li_14, li_15, li_16, li_17, li_18, li_19, li_20, li_21, li_22, li_23, li_24, li_25, li_26, li_27, li_28, li_29, li_30, li_31, li_32, li_33, li_34, li_35, li_36, li_37, li_38, li_39, li_40, li_41, li_42, li_43, li_44, li_45, li_46, li_47, li_48, li_49, li_50, li_51, li_52, li_53, li_54, li_55, li_56, li_57, li_58, li_59, li_60, li_61, li_62, li_63, li_64, li_65, li_66, li_67, li_68, li_69, li_70, li_71, li_72, li_73, li_74, li_75, li_76, li_77, li_78, li_79, li_80, li_81, li_82, li_83, li_84, li_85, li_86, li_87, li_88, li_89, li_90, li_91, li_92, li_93, li_94, li_95, li_96, li_97, li_98, li_99, li_100, li_101, li_102, li_103, li_104, li_105, li_106, li_107, li_108, li_109, li_110, li_111, li_112, li_113, li_114, li_115, li_116, li_117, li_118, li_119, li_120, li_121, li_122, li_255, li_400, li_608, li_998, li_999, li_1000, li_1024, li_1103, li_2400, li_2911, li_4095, li_4096, li_5711, li_9999, li_12345, li_1000000, li_1000003, li_252645135, li_858993459, li_1431655765, wI_add, wI_mul, wI_add1, wI_1add, t_M_passes0 hz hm hv hg hA, eq_true h4, bz_T, e1, i1]
      cases w
      · simp only [bz_ff, ↓reduceIte]
      · simp only [bz_tt, bz_T, e1, ↓reduceIte]
    · cases k : r.2.2.2 e with
      | none => simp [brk_n]
      | some v =>
        have := o1 rfl rfl v k
        subst this
        simp [brk_s]
  · rw [if_neg h4] at h
    cases h
    refine ⟨true, false, ?_, ?_⟩
    · simp -dsimp (disch := first | omega | exact hB _) only [↓c_58 hz, g_58_0 hz, p_58_0 hz, r_58_1 hz, r_58_2 hz, r_58_3 hz, r_58_4 hz, r_58_5 hz, g_58_6 hz, p_58_6 hz, r_58_7 hz, g_58_8 hz, p_58_8 hz, g_58_9 hz, p_58_9 hz, g_58_10 hz, p_58_10 hz, r_58_11 hz, r_58_12 hz, g_58_13 hz, p_58_13 hz, g_58_14 hz, p_58_14 hz, r_58_15 hz, r_58_16 hz, r_58_17 hz, g_58_18 hz, p_58_18 hz, g_58_19 hz, p_58_19 hz, g_58_20 hz, p_58_20 hz, g_58_21 hz, p_58_21 hz, g_58_22 hz, p_58_22 hz, g_58_23 hz, p_58_23 hz, g_58_24 hz, p_58_24 hz, g_58_25 hz, p_58_25 hz, r_58_26 hz, g_58_27 hz, p_58_27 hz, g_58_28 hz, p_58_28 hz, r_58_29 hz, r_58_30 hz, g_58_31 hz, p_58_31 hz, r_58_32 hz, r_58_33 hz, r_58_34 hz, r_58_35 hz, r_58_36 hz, r_58_37 hz, g_58_38 hz, p_58_38 hz, r_58_39 hz, r_58_40 hz, r_58_41 hz, g_58_42 hz, p_58_42 hz, g_58_43 hz, p_58_43 hz, g_58_44 hz, p_58_44 hz, g_58_45 hz, p_58_45 hz, g_58_46 hz, p_58_46 hz, g_58_47 hz, p_58_47 hz, g_58_48 hz, p_58_48 hz, r_58_49 hz, r_58_50 hz, r_58_51 hz, r_58_52 hz, g_58_53 hz, p_58_53 hz, g_58_54 hz, p_58_54 hz, g_58_55 hz, p_58_55 hz, l_59 hz, s_59 hz, n_59 hz, l_60 hz, s_60 hz, n_60 hz, l_61 hz, s_61 hz, n_61 hz, l_62 hz, s_62 hz, n_62 hz, l_63 hz, s_63 hz, n_63 hz, l_64 hz, s_64 hz, n_64 hz, l_65 hz, s_65 hz, n_65 hz, l_66 hz, s_66 hz, n_66 hz, l_67 hz, s_67 hz, n_67 hz, l_68 hz, s_68 hz, n_68 hz, l_69 hz, s_69 hz, n_69 hz, l_70 hz, s_70 hz, n_70 hz, l_71 hz, s_71 hz, n_71 hz, l_72 hz, s_72 hz, n_72 hz, l_73 hz, s_73 hz, n_73 hz, l_74 hz, s_74 hz, n_74 hz, l_75 hz, s_75 hz, n_75 hz, l_76 hz, s_76 hz, n_76 hz, l_77 hz, s_77 hz, n_77 hz, l_78 hz, s_78 hz, n_78 hz, l_79 hz, s_79 hz, n_79 hz, l_80 hz, s_80 hz, n_80 hz, l_81 hz, s_81 hz, n_81 hz, l_82 hz, s_82 hz, l_83 hz, s_83 hz, n_83 hz, l_84 hz, s_84 hz, n_84 hz, l_85 hz, s_85 hz, n_85 hz, hO_s, hI_s, hL_s, hQ_s, hQ_n, hR_s, hV_s, hN_n, hN_s, cond_true, lI_0, lI_1, sI_0, sI_1, lL_0, lL_1, ↓reduceIte, not_true_eq_false, not_false_eq_true, Nat.reduceEqDiff, Nat.reduceAdd, Nat.reduceMul, Nat.reduceSub, Nat.reduceLeDiff, Nat.reduceLT, li_2, li_3, li_4, li_5, li_6, li_7, li_8, li_9, li_10, li_11, li_12, li_13, li_14, li_15, li_16, li_17, li_18, li_19, li_20, li_21, li_22, li_23, li_24, li_25, li_26, li_27, li_28, li_29, li_30, li_31, li_32, li_33, li_34, li_35, li_36, li_37, li_38, li_39, li_40, li_41, li_42, li_43, li_44, li_45, li_46, li_47, li_48, li_49, li_50, li_51, li_52, li_53, li_54, li_55, li_56, li_57, li_58, li_59, li_60, li_61, li_62, li_63, li_64, li_65, li_66, li_67, li_68, li_69, li_70, li_71, li_72, li_73, li_74, li_75, li_76, li_77, li_78, li_79, li_80, li_81, li_82, li_83, li_84, li_85, li_86, li_87, li_88, li_89, li_90, li_91, li_92, li_93, li_94, li_95, li_96, li_97, li_98, li_99, li_100, li_101, li_102, li_103, li_104, li_105, li_106, li_107, li_108, li_109, li_110, li_111, li_112, li_113, li_114, li_115, li_116, li_117, li_118, li_119, li_120, li_121, li_122, li_255, li_400, li_608, li_998, li_999, li_1000, li_1024, li_1103, li_2400, li_2911, li_4095, li_4096, li_5711, li_9999, li_12345, li_1000000, li_1000003, li_252645135, li_858993459, li_1431655765, wI_add, wI_mul, wI_add1, wI_1add, t_M_passes0 hz hm hv hg hA, h4, bz_F, bz_T, eq_self]
    · exact ⟨fun _ => rfl, fun _ => ⟨rfl, rfl⟩⟩
theorem m_289 (hz : Sh z) {d a hd0 cd high acc : Nat} {w br sb : Bool} {v : Int} (h1 : hd0 < 100) (h2 : cd < 100) (h3 : high < 100000) (hv1 : -1000000000 ≤ v) (hv2 : v ≤ 1000000000) :
    Ev (d + 1) mM_tells 289 [(0, .ref 58), (1, .int (wI hd0)), (4, .int (wI high)), (6, .long (kI acc)), (8, .int (wI cd)), (9, .long (kI v)), (11, .int (bz (sb = true)))] [.int (bz (w = true))] (mkM (EE2 f a br) z) =
    Ev (d + 1) mM_tells 204 [(0, .ref 58), (1, .int (wI hd0)), (4, .int (wI high)), (6, .long (kI ((if cd = hd0 ∧ w = true ∧ br = false ∧ sb = false then clN high v else acc : Nat) : Int)))] [] (mkM (EE2 f (a + 1) br) z) := by
  have e1 : ((1 : Int32) = 0) = False := eq_false (by decide)
  have e2 : (wI high).toInt64 = kI high := by rw [wI_jI, j2k (by omega) (by omega)]
  rw [q_M_tells_289]
  by_cases k1 : cd = hd0
  · subst k1
    cases w with
    | false =>
      simp -dsimp (disch := omega) only [↓c_58 hz, g_58_0 hz, p_58_0 hz, r_58_1 hz, r_58_2 hz, r_58_3 hz, r_58_4 hz, r_58_5 hz, g_58_6 hz, p_58_6 hz, r_58_7 hz, g_58_8 hz, p_58_8 hz, g_58_9 hz, p_58_9 hz, g_58_10 hz, p_58_10 hz, r_58_11 hz, r_58_12 hz, g_58_13 hz, p_58_13 hz, g_58_14 hz, p_58_14 hz, r_58_15 hz, r_58_16 hz, r_58_17 hz, g_58_18 hz, p_58_18 hz, g_58_19 hz, p_58_19 hz, g_58_20 hz, p_58_20 hz, g_58_21 hz, p_58_21 hz, g_58_22 hz, p_58_22 hz, g_58_23 hz, p_58_23 hz, g_58_24 hz, p_58_24 hz, g_58_25 hz, p_58_25 hz, r_58_26 hz, g_58_27 hz, p_58_27 hz, g_58_28 hz, p_58_28 hz, r_58_29 hz, r_58_30 hz, g_58_31 hz, p_58_31 hz, r_58_32 hz, r_58_33 hz, r_58_34 hz, r_58_35 hz, r_58_36 hz, r_58_37 hz, g_58_38 hz, p_58_38 hz, r_58_39 hz, r_58_40 hz, r_58_41 hz, g_58_42 hz, p_58_42 hz, g_58_43 hz, p_58_43 hz, g_58_44 hz, p_58_44 hz, g_58_45 hz, p_58_45 hz, g_58_46 hz, p_58_46 hz, g_58_47 hz, p_58_47 hz, g_58_48 hz, p_58_48 hz, r_58_49 hz, r_58_50 hz, r_58_51 hz, r_58_52 hz, g_58_53 hz, p_58_53 hz, g_58_54 hz, p_58_54 hz, g_58_55 hz, p_58_55 hz, l_59 hz, s_59 hz, n_59 hz, l_60 hz, s_60 hz, n_60 hz, l_61 hz, s_61 hz, n_61 hz, l_62 hz, s_62 hz, n_62 hz, l_63 hz, s_63 hz, n_63 hz, l_64 hz, s_64 hz, n_64 hz, l_65 hz, s_65 hz, n_65 hz, l_66 hz, s_66 hz, n_66 hz, l_67 hz, s_67 hz, n_67 hz, l_68 hz, s_68 hz, n_68 hz, l_69 hz, s_69 hz, n_69 hz, l_70 hz, s_70 hz, n_70 hz, l_71 hz, s_71 hz, n_71 hz, l_72 hz, s_72 hz, n_72 hz, l_73 hz, s_73 hz, n_73 hz, l_74 hz, s_74 hz, n_74 hz, l_75 hz, s_75 hz, n_75 hz, l_76 hz, s_76 hz, n_76 hz, l_77 hz, s_77 hz, n_77 hz, l_78 hz, s_78 hz, n_78 hz, l_79 hz, s_79 hz, n_79 hz, l_80 hz, s_80 hz, n_80 hz, l_81 hz, s_81 hz, n_81 hz, l_82 hz, s_82 hz, l_83 hz, s_83 hz, n_83 hz, l_84 hz, s_84 hz, n_84 hz, l_85 hz, s_85 hz, n_85 hz, hO_s, hI_s, hL_s, hQ_s, hQ_n, hR_s, hV_s, hN_n, hN_s, cond_true, lI_0, lI_1, sI_0, sI_1, lL_0, lL_1, ↓reduceIte, not_true_eq_false, not_false_eq_true, Nat.reduceEqDiff, Nat.reduceAdd, Nat.reduceMul, Nat.reduceSub, Nat.reduceLeDiff, Nat.reduceLT, wI_add, wI_mul, wI_add1, wI_1add, bz_ff, eq_self, E_22, E_w22, Bool.false_eq_true, false_and, and_false, bz_F]
    | true =>
      cases br with
      | true =>
        simp -dsimp (disch := omega) only [↓c_58 hz, g_58_0 hz, p_58_0 hz, r_58_1 hz, r_58_2 hz, r_58_3 hz, r_58_4 hz, r_58_5 hz, g_58_6 hz, p_58_6 hz, r_58_7 hz, g_58_8 hz, p_58_8 hz, g_58_9 hz, p_58_9 hz, g_58_10 hz, p_58_10 hz, r_58_11 hz, r_58_12 hz, g_58_13 hz, p_58_13 hz, g_58_14 hz, p_58_14 hz, r_58_15 hz, r_58_16 hz, r_58_17 hz, g_58_18 hz, p_58_18 hz, g_58_19 hz, p_58_19 hz, g_58_20 hz, p_58_20 hz, g_58_21 hz, p_58_21 hz, g_58_22 hz, p_58_22 hz, g_58_23 hz, p_58_23 hz, g_58_24 hz, p_58_24 hz, g_58_25 hz, p_58_25 hz, r_58_26 hz, g_58_27 hz, p_58_27 hz, g_58_28 hz, p_58_28 hz, r_58_29 hz, r_58_30 hz, g_58_31 hz, p_58_31 hz, r_58_32 hz, r_58_33 hz, r_58_34 hz, r_58_35 hz, r_58_36 hz, r_58_37 hz, g_58_38 hz, p_58_38 hz, r_58_39 hz, r_58_40 hz, r_58_41 hz, g_58_42 hz, p_58_42 hz, g_58_43 hz, p_58_43 hz, g_58_44 hz, p_58_44 hz, g_58_45 hz, p_58_45 hz, g_58_46 hz, p_58_46 hz, g_58_47 hz, p_58_47 hz, g_58_48 hz, p_58_48 hz, r_58_49 hz, r_58_50 hz, r_58_51 hz, r_58_52 hz, g_58_53 hz, p_58_53 hz, g_58_54 hz, p_58_54 hz, g_58_55 hz, p_58_55 hz, l_59 hz, s_59 hz, n_59 hz, l_60 hz, s_60 hz, n_60 hz, l_61 hz, s_61 hz, n_61 hz, l_62 hz, s_62 hz, n_62 hz, l_63 hz, s_63 hz, n_63 hz, l_64 hz, s_64 hz, n_64 hz, l_65 hz, s_65 hz, n_65 hz, l_66 hz, s_66 hz, n_66 hz, l_67 hz, s_67 hz, n_67 hz, l_68 hz, s_68 hz, n_68 hz, l_69 hz, s_69 hz, n_69 hz, l_70 hz, s_70 hz, n_70 hz, l_71 hz, s_71 hz, n_71 hz, l_72 hz, s_72 hz, n_72 hz, l_73 hz, s_73 hz, n_73 hz, l_74 hz, s_74 hz, n_74 hz, l_75 hz, s_75 hz, n_75 hz, l_76 hz, s_76 hz, n_76 hz, l_77 hz, s_77 hz, n_77 hz, l_78 hz, s_78 hz, n_78 hz, l_79 hz, s_79 hz, n_79 hz, l_80 hz, s_80 hz, n_80 hz, l_81 hz, s_81 hz, n_81 hz, l_82 hz, s_82 hz, l_83 hz, s_83 hz, n_83 hz, l_84 hz, s_84 hz, n_84 hz, l_85 hz, s_85 hz, n_85 hz, hO_s, hI_s, hL_s, hQ_s, hQ_n, hR_s, hV_s, hN_n, hN_s, cond_true, lI_0, lI_1, sI_0, sI_1, lL_0, lL_1, ↓reduceIte, not_true_eq_false, not_false_eq_true, Nat.reduceEqDiff, Nat.reduceAdd, Nat.reduceMul, Nat.reduceSub, Nat.reduceLeDiff, Nat.reduceLT, wI_add, wI_mul, wI_add1, wI_1add, bz_tt, bz_T, e1, eq_self, E_22, E_24, E_w22, reduceCtorEq, false_and, and_false]
      | false =>
        cases sb with
        | true =>
          simp -dsimp (disch := omega) only [↓c_58 hz, g_58_0 hz, p_58_0 hz, r_58_1 hz, r_58_2 hz, r_58_3 hz, r_58_4 hz, r_58_5 hz, g_58_6 hz, p_58_6 hz, r_58_7 hz, g_58_8 hz, p_58_8 hz, g_58_9 hz, p_58_9 hz, g_58_10 hz, p_58_10 hz, r_58_11 hz, r_58_12 hz, g_58_13 hz, p_58_13 hz, g_58_14 hz, p_58_14 hz, r_58_15 hz, r_58_16 hz, r_58_17 hz, g_58_18 hz, p_58_18 hz, g_58_19 hz, p_58_19 hz, g_58_20 hz, p_58_20 hz, g_58_21 hz, p_58_21 hz, g_58_22 hz, p_58_22 hz, g_58_23 hz, p_58_23 hz, g_58_24 hz, p_58_24 hz, g_58_25 hz, p_58_25 hz, r_58_26 hz, g_58_27 hz, p_58_27 hz, g_58_28 hz, p_58_28 hz, r_58_29 hz, r_58_30 hz, g_58_31 hz, p_58_31 hz, r_58_32 hz, r_58_33 hz, r_58_34 hz, r_58_35 hz, r_58_36 hz, r_58_37 hz, g_58_38 hz, p_58_38 hz, r_58_39 hz, r_58_40 hz, r_58_41 hz, g_58_42 hz, p_58_42 hz, g_58_43 hz, p_58_43 hz, g_58_44 hz, p_58_44 hz, g_58_45 hz, p_58_45 hz, g_58_46 hz, p_58_46 hz, g_58_47 hz, p_58_47 hz, g_58_48 hz, p_58_48 hz, r_58_49 hz, r_58_50 hz, r_58_51 hz, r_58_52 hz, g_58_53 hz, p_58_53 hz, g_58_54 hz, p_58_54 hz, g_58_55 hz, p_58_55 hz, l_59 hz, s_59 hz, n_59 hz, l_60 hz, s_60 hz, n_60 hz, l_61 hz, s_61 hz, n_61 hz, l_62 hz, s_62 hz, n_62 hz, l_63 hz, s_63 hz, n_63 hz, l_64 hz, s_64 hz, n_64 hz, l_65 hz, s_65 hz, n_65 hz, l_66 hz, s_66 hz, n_66 hz, l_67 hz, s_67 hz, n_67 hz, l_68 hz, s_68 hz, n_68 hz, l_69 hz, s_69 hz, n_69 hz, l_70 hz, s_70 hz, n_70 hz, l_71 hz, s_71 hz, n_71 hz, l_72 hz, s_72 hz, n_72 hz, l_73 hz, s_73 hz, n_73 hz, l_74 hz, s_74 hz, n_74 hz, l_75 hz, s_75 hz, n_75 hz, l_76 hz, s_76 hz, n_76 hz, l_77 hz, s_77 hz, n_77 hz, l_78 hz, s_78 hz, n_78 hz, l_79 hz, s_79 hz, n_79 hz, l_80 hz, s_80 hz, n_80 hz, l_81 hz, s_81 hz, n_81 hz, l_82 hz, s_82 hz, l_83 hz, s_83 hz, n_83 hz, l_84 hz, s_84 hz, n_84 hz, l_85 hz, s_85 hz, n_85 hz, hO_s, hI_s, hL_s, hQ_s, hQ_n, hR_s, hV_s, hN_n, hN_s, cond_true, lI_0, lI_1, sI_0, sI_1, lL_0, lL_1, ↓reduceIte, not_true_eq_false, not_false_eq_true, Nat.reduceEqDiff, Nat.reduceAdd, Nat.reduceMul, Nat.reduceSub, Nat.reduceLeDiff, Nat.reduceLT, wI_add, wI_mul, wI_add1, wI_1add, bz_tt, bz_ff, bz_T, bz_F, e1, eq_self, E_22, E_24, E_w22, reduceCtorEq, false_and, and_false, Bool.false_eq_true]
        | false =>
          unfold clN
          by_cases k2 : v < 0
          · have k2' : ¬ (0 : Int) ≤ v := by omega
            simp -dsimp (disch := omega) only [↓c_58 hz, g_58_0 hz, p_58_0 hz, r_58_1 hz, r_58_2 hz, r_58_3 hz, r_58_4 hz, r_58_5 hz, g_58_6 hz, p_58_6 hz, r_58_7 hz, g_58_8 hz, p_58_8 hz, g_58_9 hz, p_58_9 hz, g_58_10 hz, p_58_10 hz, r_58_11 hz, r_58_12 hz, g_58_13 hz, p_58_13 hz, g_58_14 hz, p_58_14 hz, r_58_15 hz, r_58_16 hz, r_58_17 hz, g_58_18 hz, p_58_18 hz, g_58_19 hz, p_58_19 hz, g_58_20 hz, p_58_20 hz, g_58_21 hz, p_58_21 hz, g_58_22 hz, p_58_22 hz, g_58_23 hz, p_58_23 hz, g_58_24 hz, p_58_24 hz, g_58_25 hz, p_58_25 hz, r_58_26 hz, g_58_27 hz, p_58_27 hz, g_58_28 hz, p_58_28 hz, r_58_29 hz, r_58_30 hz, g_58_31 hz, p_58_31 hz, r_58_32 hz, r_58_33 hz, r_58_34 hz, r_58_35 hz, r_58_36 hz, r_58_37 hz, g_58_38 hz, p_58_38 hz, r_58_39 hz, r_58_40 hz, r_58_41 hz, g_58_42 hz, p_58_42 hz, g_58_43 hz, p_58_43 hz, g_58_44 hz, p_58_44 hz, g_58_45 hz, p_58_45 hz, g_58_46 hz, p_58_46 hz, g_58_47 hz, p_58_47 hz, g_58_48 hz, p_58_48 hz, r_58_49 hz, r_58_50 hz, r_58_51 hz, r_58_52 hz, g_58_53 hz, p_58_53 hz, g_58_54 hz, p_58_54 hz, g_58_55 hz, p_58_55 hz, l_59 hz, s_59 hz, n_59 hz, l_60 hz, s_60 hz, n_60 hz, l_61 hz, s_61 hz, n_61 hz, l_62 hz, s_62 hz, n_62 hz, l_63 hz, s_63 hz, n_63 hz, l_64 hz, s_64 hz, n_64 hz, l_65 hz, s_65 hz, n_65 hz, l_66 hz, s_66 hz, n_66 hz, l_67 hz, s_67 hz, n_67 hz, l_68 hz, s_68 hz, n_68 hz, l_69 hz, s_69 hz, n_69 hz, l_70 hz, s_70 hz, n_70 hz, l_71 hz, s_71 hz, n_71 hz, l_72 hz, s_72 hz, n_72 hz, l_73 hz, s_73 hz, n_73 hz, l_74 hz, s_74 hz, n_74 hz, l_75 hz, s_75 hz, n_75 hz, l_76 hz, s_76 hz, n_76 hz, l_77 hz, s_77 hz, n_77 hz, l_78 hz, s_78 hz, n_78 hz, l_79 hz, s_79 hz, n_79 hz, l_80 hz, s_80 hz, n_80 hz, l_81 hz, s_81 hz, n_81 hz, l_82 hz, s_82 hz, l_83 hz, s_83 hz, n_83 hz, l_84 hz, s_84 hz, n_84 hz, l_85 hz, s_85 hz, n_85 hz, hO_s, hI_s, hL_s, hQ_s, hQ_n, hR_s, hV_s, hN_n, hN_s, cond_true, lI_0, lI_1, sI_0, sI_1, lL_0, lL_1, ↓reduceIte, not_true_eq_false, not_false_eq_true, Nat.reduceEqDiff, Nat.reduceAdd, Nat.reduceMul, Nat.reduceSub, Nat.reduceLeDiff, Nat.reduceLT, wI_add, wI_mul, wI_add1, wI_1add, bz_tt, bz_ff, bz_T, bz_F, e1, eq_self, E_22, E_24, E_w22, and_true, true_and, Bool.false_eq_true, kl_0, lgc_ge, k2, k2', Int.natCast_zero, Int.ofNat_zero]
          · have k2' : (0 : Int) ≤ v := by omega
            by_cases k3 : (high : Int) < v
            · have k3' : ¬ v ≤ (high : Int) := by omega
              simp -dsimp (disch := omega) only [↓c_58 hz, g_58_0 hz, p_58_0 hz, r_58_1 hz, r_58_2 hz, r_58_3 hz, r_58_4 hz, r_58_5 hz, g_58_6 hz, p_58_6 hz, r_58_7 hz, g_58_8 hz, p_58_8 hz, g_58_9 hz, p_58_9 hz, g_58_10 hz, p_58_10 hz, r_58_11 hz, r_58_12 hz, g_58_13 hz, p_58_13 hz, g_58_14 hz, p_58_14 hz, r_58_15 hz, r_58_16 hz, r_58_17 hz, g_58_18 hz, p_58_18 hz, g_58_19 hz, p_58_19 hz, g_58_20 hz, p_58_20 hz, g_58_21 hz, p_58_21 hz, g_58_22 hz, p_58_22 hz, g_58_23 hz, p_58_23 hz, g_58_24 hz, p_58_24 hz, g_58_25 hz, p_58_25 hz, r_58_26 hz, g_58_27 hz, p_58_27 hz, g_58_28 hz, p_58_28 hz, r_58_29 hz, r_58_30 hz, g_58_31 hz, p_58_31 hz, r_58_32 hz, r_58_33 hz, r_58_34 hz, r_58_35 hz, r_58_36 hz, r_58_37 hz, g_58_38 hz, p_58_38 hz, r_58_39 hz, r_58_40 hz, r_58_41 hz, g_58_42 hz, p_58_42 hz, g_58_43 hz, p_58_43 hz, g_58_44 hz, p_58_44 hz, g_58_45 hz, p_58_45 hz, g_58_46 hz, p_58_46 hz, g_58_47 hz, p_58_47 hz, g_58_48 hz, p_58_48 hz, r_58_49 hz, r_58_50 hz, r_58_51 hz, r_58_52 hz, g_58_53 hz, p_58_53 hz, g_58_54 hz, p_58_54 hz, g_58_55 hz, p_58_55 hz, l_59 hz, s_59 hz, n_59 hz, l_60 hz, s_60 hz, n_60 hz, l_61 hz, s_61 hz, n_61 hz, l_62 hz, s_62 hz, n_62 hz, l_63 hz, s_63 hz, n_63 hz, l_64 hz, s_64 hz, n_64 hz, l_65 hz, s_65 hz, n_65 hz, l_66 hz, s_66 hz, n_66 hz, l_67 hz, s_67 hz, n_67 hz, l_68 hz, s_68 hz, n_68 hz, l_69 hz, s_69 hz, n_69 hz, l_70 hz, s_70 hz, n_70 hz, l_71 hz, s_71 hz, n_71 hz, l_72 hz, s_72 hz, n_72 hz, l_73 hz, s_73 hz, n_73 hz, l_74 hz, s_74 hz, n_74 hz, l_75 hz, s_75 hz, n_75 hz, l_76 hz, s_76 hz, n_76 hz, l_77 hz, s_77 hz, n_77 hz, l_78 hz, s_78 hz, n_78 hz, l_79 hz, s_79 hz, n_79 hz, l_80 hz, s_80 hz, n_80 hz, l_81 hz, s_81 hz, n_81 hz, l_82 hz, s_82 hz, l_83 hz, s_83 hz, n_83 hz, l_84 hz, s_84 hz, n_84 hz, l_85 hz, s_85 hz, n_85 hz, hO_s, hI_s, hL_s, hQ_s, hQ_n, hR_s, hV_s, hN_n, hN_s, cond_true, lI_0, lI_1, sI_0, sI_1, lL_0, lL_1, ↓reduceIte, not_true_eq_false, not_false_eq_true, Nat.reduceEqDiff, Nat.reduceAdd, Nat.reduceMul, Nat.reduceSub, Nat.reduceLeDiff, Nat.reduceLT, wI_add, wI_mul, wI_add1, wI_1add, bz_tt, bz_ff, bz_T, bz_F, e1, e2, eq_self, E_22, E_24, E_w22, and_true, true_and, Bool.false_eq_true, kl_0, lgc_ge, lgc_le, k2, k2', k3, k3']
            · have k3' : v ≤ (high : Int) := by omega
              have k4 : ((v.toNat : Nat) : Int) = v := by omega
              simp -dsimp (disch := omega) only [↓c_58 hz, g_58_0 hz, p_58_0 hz, r_58_1 hz, r_58_2 hz, r_58_3 hz, r_58_4 hz, r_58_5 hz, g_58_6 hz, p_58_6 hz, r_58_7 hz, g_58_8 hz, p_58_8 hz, g_58_9 hz, p_58_9 hz, g_58_10 hz, p_58_10 hz, r_58_11 hz, r_58_12 hz, g_58_13 hz, p_58_13 hz, g_58_14 hz, p_58_14 hz, r_58_15 hz, r_58_16 hz, r_58_17 hz, g_58_18 hz, p_58_18 hz, g_58_19 hz, p_58_19 hz, g_58_20 hz, p_58_20 hz, g_58_21 hz, p_58_21 hz, g_58_22 hz, p_58_22 hz, g_58_23 hz, p_58_23 hz, g_58_24 hz, p_58_24 hz, g_58_25 hz, p_58_25 hz, r_58_26 hz, g_58_27 hz, p_58_27 hz, g_58_28 hz, p_58_28 hz, r_58_29 hz, r_58_30 hz, g_58_31 hz, p_58_31 hz, r_58_32 hz, r_58_33 hz, r_58_34 hz, r_58_35 hz, r_58_36 hz, r_58_37 hz, g_58_38 hz, p_58_38 hz, r_58_39 hz, r_58_40 hz, r_58_41 hz, g_58_42 hz, p_58_42 hz, g_58_43 hz, p_58_43 hz, g_58_44 hz, p_58_44 hz, g_58_45 hz, p_58_45 hz, g_58_46 hz, p_58_46 hz, g_58_47 hz, p_58_47 hz, g_58_48 hz, p_58_48 hz, r_58_49 hz, r_58_50 hz, r_58_51 hz, r_58_52 hz, g_58_53 hz, p_58_53 hz, g_58_54 hz, p_58_54 hz, g_58_55 hz, p_58_55 hz, l_59 hz, s_59 hz, n_59 hz, l_60 hz, s_60 hz, n_60 hz, l_61 hz, s_61 hz, n_61 hz, l_62 hz, s_62 hz, n_62 hz, l_63 hz, s_63 hz, n_63 hz, l_64 hz, s_64 hz, n_64 hz, l_65 hz, s_65 hz, n_65 hz, l_66 hz, s_66 hz, n_66 hz, l_67 hz, s_67 hz, n_67 hz, l_68 hz, s_68 hz, n_68 hz, l_69 hz, s_69 hz, n_69 hz, l_70 hz, s_70 hz, n_70 hz, l_71 hz, s_71 hz, n_71 hz, l_72 hz, s_72 hz, n_72 hz, l_73 hz, s_73 hz, n_73 hz, l_74 hz, s_74 hz, n_74 hz, l_75 hz, s_75 hz, n_75 hz, l_76 hz, s_76 hz, n_76 hz, l_77 hz, s_77 hz, n_77 hz, l_78 hz, s_78 hz, n_78 hz, l_79 hz, s_79 hz, n_79 hz, l_80 hz, s_80 hz, n_80 hz, l_81 hz, s_81 hz, n_81 hz, l_82 hz, s_82 hz, l_83 hz, s_83 hz, n_83 hz, l_84 hz, s_84 hz, n_84 hz, l_85 hz, s_85 hz, n_85 hz, hO_s, hI_s, hL_s, hQ_s, hQ_n, hR_s, hV_s, hN_n, hN_s, cond_true, lI_0, lI_1, sI_0, sI_1, lL_0, lL_1, ↓reduceIte, not_true_eq_false, not_false_eq_true, Nat.reduceEqDiff, Nat.reduceAdd, Nat.reduceMul, Nat.reduceSub, Nat.reduceLeDiff, Nat.reduceLT, wI_add, wI_mul, wI_add1, wI_1add, bz_tt, bz_ff, bz_T, bz_F, e1, e2, eq_self, E_22, E_24, E_w22, and_true, true_and, Bool.false_eq_true, kl_0, lgc_ge, lgc_le, k2, k2', k3, k3', k4]
  · simp -dsimp (disch := omega) only [↓c_58 hz, g_58_0 hz, p_58_0 hz, r_58_1 hz, r_58_2 hz, r_58_3 hz, r_58_4 hz, r_58_5 hz, g_58_6 hz, p_58_6 hz, r_58_7 hz, g_58_8 hz, p_58_8 hz, g_58_9 hz, p_58_9 hz, g_58_10 hz, p_58_10 hz, r_58_11 hz, r_58_12 hz, g_58_13 hz, p_58_13 hz, g_58_14 hz, p_58_14 hz, r_58_15 hz, r_58_16 hz, r_58_17 hz, g_58_18 hz, p_58_18 hz, g_58_19 hz, p_58_19 hz, g_58_20 hz, p_58_20 hz, g_58_21 hz, p_58_21 hz, g_58_22 hz, p_58_22 hz, g_58_23 hz, p_58_23 hz, g_58_24 hz, p_58_24 hz, g_58_25 hz, p_58_25 hz, r_58_26 hz, g_58_27 hz, p_58_27 hz, g_58_28 hz, p_58_28 hz, r_58_29 hz, r_58_30 hz, g_58_31 hz, p_58_31 hz, r_58_32 hz, r_58_33 hz, r_58_34 hz, r_58_35 hz, r_58_36 hz, r_58_37 hz, g_58_38 hz, p_58_38 hz, r_58_39 hz, r_58_40 hz, r_58_41 hz, g_58_42 hz, p_58_42 hz, g_58_43 hz, p_58_43 hz, g_58_44 hz, p_58_44 hz, g_58_45 hz, p_58_45 hz, g_58_46 hz, p_58_46 hz, g_58_47 hz, p_58_47 hz, g_58_48 hz, p_58_48 hz, r_58_49 hz, r_58_50 hz, r_58_51 hz, r_58_52 hz, g_58_53 hz, p_58_53 hz, g_58_54 hz, p_58_54 hz, g_58_55 hz, p_58_55 hz, l_59 hz, s_59 hz, n_59 hz, l_60 hz, s_60 hz, n_60 hz, l_61 hz, s_61 hz, n_61 hz, l_62 hz, s_62 hz, n_62 hz, l_63 hz, s_63 hz, n_63 hz, l_64 hz, s_64 hz, n_64 hz, l_65 hz, s_65 hz, n_65 hz, l_66 hz, s_66 hz, n_66 hz, l_67 hz, s_67 hz, n_67 hz, l_68 hz, s_68 hz, n_68 hz, l_69 hz, s_69 hz, n_69 hz, l_70 hz, s_70 hz, n_70 hz, l_71 hz, s_71 hz, n_71 hz, l_72 hz, s_72 hz, n_72 hz, l_73 hz, s_73 hz, n_73 hz, l_74 hz, s_74 hz, n_74 hz, l_75 hz, s_75 hz, n_75 hz, l_76 hz, s_76 hz, n_76 hz, l_77 hz, s_77 hz, n_77 hz, l_78 hz, s_78 hz, n_78 hz, l_79 hz, s_79 hz, n_79 hz, l_80 hz, s_80 hz, n_80 hz, l_81 hz, s_81 hz, n_81 hz, l_82 hz, s_82 hz, l_83 hz, s_83 hz, n_83 hz, l_84 hz, s_84 hz, n_84 hz, l_85 hz, s_85 hz, n_85 hz, hO_s, hI_s, hL_s, hQ_s, hQ_n, hR_s, hV_s, hN_n, hN_s, cond_true, lI_0, lI_1, sI_0, sI_1, lL_0, lL_1, ↓reduceIte, not_true_eq_false, not_false_eq_true, Nat.reduceEqDiff, Nat.reduceAdd, Nat.reduceMul, Nat.reduceSub, Nat.reduceLeDiff, Nat.reduceLT, wI_add, wI_mul, wI_add1, wI_1add, wI_eq, k1, E_22, E_w22, false_and]
theorem tells_L (hz : Sh z) (hm : MK f N) (hv : VK N) (hg : f 58 23 = wI (A + n)) (hA : A + n ≤ 2800) (hC : VCtx false f z e) (hn4 : n ≤ 400) {hd0 high : Nat} (h1 : hd0 < 4) (h3 : high < 100000) {d : Nat} (hd : 43 ≤ d) :
    ∀ (m c t l : Nat) (cls : List CL) (acc : Nat) (br : Bool), pText (cdN N A n) (pLawC (cdN N A n) (vlN N A)) n m c t l = .inr cls → acc < 100000 → t < n →
    ∃ a' br', Ev (d + 1) mM_tells 204 [(0, .ref 58), (1, .int (wI hd0)), (4, .int (wI high)), (6, .long (kI acc))] [] (mkM (EE2 f (A + t) br) z) = some (some (.int (wI (tellL e (3 + hd0) high cls acc))), mkM (EE2 f a' br') z) := by
  have hB := hv.1
  have e1 : ((1 : Int32) = 0) = False := eq_false (by decide)
  have hstop : ∀ (a : Nat) (br : Bool) (acc : Nat), acc < 100000 → n < a → a < 100000 → Ev (d + 1) mM_tells 204 [(0, .ref 58), (1, .int (wI hd0)), (4, .int (wI high)), (6, .long (kI acc))] [] (mkM (EE2 f (A + a) br) z) = some (some (.int (wI acc)), mkM (EE2 f (A + a) br) z) := by
    intro a br acc ha h4 h5
    have h6 : A + n ≤ A + a := by omega
    rw [q_M_tells_204]
    simp -dsimp (disch := first | omega | exact hB _) only [↓c_58 hz, g_58_0 hz, p_58_0 hz, r_58_1 hz, r_58_2 hz, r_58_3 hz, r_58_4 hz, r_58_5 hz, g_58_6 hz, p_58_6 hz, r_58_7 hz, g_58_8 hz, p_58_8 hz, g_58_9 hz, p_58_9 hz, g_58_10 hz, p_58_10 hz, r_58_11 hz, r_58_12 hz, g_58_13 hz, p_58_13 hz, g_58_14 hz, p_58_14 hz, r_58_15 hz, r_58_16 hz, r_58_17 hz, g_58_18 hz, p_58_18 hz, g_58_19 hz, p_58_19 hz, g_58_20 hz, p_58_20 hz, g_58_21 hz, p_58_21 hz, g_58_22 hz, p_58_22 hz, g_58_23 hz, p_58_23 hz, g_58_24 hz, p_58_24 hz, g_58_25 hz, p_58_25 hz, r_58_26 hz, g_58_27 hz, p_58_27 hz, g_58_28 hz, p_58_28 hz, r_58_29 hz, r_58_30 hz, g_58_31 hz, p_58_31 hz, r_58_32 hz, r_58_33 hz, r_58_34 hz, r_58_35 hz, r_58_36 hz, r_58_37 hz, g_58_38 hz, p_58_38 hz, r_58_39 hz, r_58_40 hz, r_58_41 hz, g_58_42 hz, p_58_42 hz, g_58_43 hz, p_58_43 hz, g_58_44 hz, p_58_44 hz, g_58_45 hz, p_58_45 hz, g_58_46 hz, p_58_46 hz, g_58_47 hz, p_58_47 hz, g_58_48 hz, p_58_48 hz, r_58_49 hz, r_58_50 hz, r_58_51 hz, r_58_52 hz, g_58_53 hz, p_58_53 hz, g_58_54 hz, p_58_54 hz, g_58_55 hz, p_58_55 hz, l_59 hz, s_59 hz, n_59 hz, l_60 hz, s_60 hz, n_60 hz, l_61 hz, s_61 hz, n_61 hz, l_62 hz, s_62 hz, n_62 hz, l_63 hz, s_63 hz, n_63 hz, l_64 hz, s_64 hz, n_64 hz, l_65 hz, s_65 hz, n_65 hz, l_66 hz, s_66 hz, n_66 hz, l_67 hz, s_67 hz, n_67 hz, l_68 hz, s_68 hz, n_68 hz, l_69 hz, s_69 hz, n_69 hz, l_70 hz, s_70 hz, n_70 hz, l_71 hz, s_71 hz, n_71 hz, l_72 hz, s_72 hz, n_72 hz, l_73 hz, s_73 hz, n_73 hz, l_74 hz, s_74 hz, n_74 hz, l_75 hz, s_75 hz, n_75 hz, l_76 hz, s_76 hz, n_76 hz, l_77 hz, s_77 hz, n_77 hz, l_78 hz, s_78 hz, n_78 hz, l_79 hz, s_79 hz, n_79 hz, l_80 hz, s_80 hz, n_80 hz, l_81 hz, s_81 hz, n_81 hz, l_82 hz, s_82 hz, l_83 hz, s_83 hz, n_83 hz, l_84 hz, s_84 hz, n_84 hz, l_85 hz, s_85 hz, n_85 hz, hO_s, hI_s, hL_s, hQ_s, hQ_n, hR_s, hV_s, hN_n, hN_s, cond_true, lI_0, lI_1, sI_0, sI_1, lL_0, lL_1, ↓reduceIte, not_true_eq_false, not_false_eq_true, Nat.reduceEqDiff, Nat.reduceAdd, Nat.reduceMul, Nat.reduceSub, Nat.reduceLeDiff, Nat.reduceLT, li_2, li_3, li_4, li_5, li_6, li_7, li_8, li_9, li_10, li_11, li_12, li_13, li_14, li_15, li_16, li_17, li_18, li_19, li_20, li_21, li_22, li_23, li_24, li_25, li_26, li_27, li_28, li_29, li_30, li_31, li_32, li_33, li_34, li_35, li_36, li_37, li_38, li_39, li_40, li_41, li_42, li_43, li_44, li_45, li_46, li_47, li_48, li_49, li_50, li_51, li_52, li_53, li_54, li_55, li_56, li_57, li_58, li_59, li_60, li_61, li_62, li_63, li_64, li_65, li_66, li_67, li_68, li_69, li_70, li_71, li_72, li_73, li_74, li_75, li_76, li_77, li_78, li_79, li_80, li_81, li_82, li_83, li_84, li_85, li_86, li_87, li_88, li_89, li_90, li_91, li_92, li_93, li_94, li_95, li_96, li_97, li_98, li_99, li_100, li_101, li_102, li_103, li_104, li_105, li_106, li_107, li_108, li_109, li_110, li_111, li_112, li_113, li_114, li_115, li_116, li_117, li_118, li_119, li_120, li_121, li_122, li_255, li_400, li_608, li_998, li_999, li_1000, li_1024, li_1103, li_2400, li_2911, li_4095, li_4096, li_5711, li_9999, li_12345, li_1000000, li_1000003, li_252645135, li_858993459, li_1431655765, wI_add, wI_mul, wI_add1, wI_1add, E_22, E_k, hg, wI_le, h6, k2j]
    rw [wI_jI]
  intro m
  induction m with
  | zero => intro c t l cls acc br h; cases h
  | succ m ih =>
    intro c t l cls acc br h hacc htn
    have h6 : ¬ A + n ≤ A + t := by omega
    rw [pText] at h
    cases e2 : pLawC (cdN N A n) (vlN N A) c t l with
    | inl x => rw [e2] at h; cases h
    | inr q =>
      rw [e2] at h
      dsimp only at h
      obtain ⟨o1, o2, o3, o4⟩ := ok_lawC _ _ _ _ e2
      have hq1 : q.1 ≤ n := by
        rcases Nat.lt_or_ge n q.1 with h | h
        · exact absurd (show cdN N A n n = 0 by unfold cdN; rw [if_neg (by omega)]) (o4 n (by omega) h)
        · exact h
      have hacc2 : accN e (3 + hd0) high q acc < 100000 := by
        unfold accN
        split
        · split
          · have := clN_le (high := high) (v := by assumption); omega
          · exact hacc
        · exact hacc
      -- one CLAUSE
      have one : ∃ br', Ev (d + 1) mM_tells 204 [(0, .ref 58), (1, .int (wI hd0)), (4, .int (wI high)), (6, .long (kI acc))] [] (mkM (EE2 f (A + t) br) z) = Ev (d + 1) mM_tells 204 [(0, .ref 58), (1, .int (wI hd0)), (4, .int (wI high)), (6, .long (kI (accN e (3 + hd0) high q acc : Nat)))] [] (mkM (EE2 f (A + (q.1 + 1)) br') z) := by
        rw [q_M_tells_204]
        unfold pLawC at e2
        by_cases c3 : cdN N A n t = 3
        · rw [if_pos c3] at e2
          cases e3 : pIf false (cdN N A n) (vlN N A) c (t + 1) l with
          | inl x => rw [e3] at e2; cases e2
          | inr r =>
            rw [e3] at e2
            cases e2
            dsimp only at hq1 ⊢
            obtain ⟨w, br', i1, hw⟩ := m_if hz hm hv hg hA hC hn4 e3 (by omega) (d := d) hd (fun i σ => Ev (d + 1) mM_tells 289 [(0, .ref 58), (1, .int (wI hd0)), (4, .int (wI high)), (6, .long (kI acc)), (8, .int (wI 3)), (9, .long (kI 1)), (11, .int 0)] [.int i] σ)
            have i2 := m_289 hz (f := f) (d := d) (a := A + r.1) (hd0 := hd0) (cd := 3) (high := high) (acc := acc) (w := w) (br := br') (sb := false) (v := 1) (by omega) (by omega) h3 (by decide) (by decide)
            rw [bz_ff, show A + r.1 + 1 = A + (r.1 + 1) from rfl] at i2
            refine ⟨br', ?_⟩
            have e5 : accN e (3 + hd0) high (r.1, r.2.1, [6, 1, c, c, c, c + r.2.2.1.length], r.2.2.1, one1, one1, r.2.2.2) acc = if 3 = hd0 ∧ w = true ∧ br' = false ∧ false = false then clN high 1 else acc := by
              unfold accN one1
              dsimp only [List.getD_cons_zero]
              by_cases k : 3 = hd0 ∧ w = true ∧ br' = false
              · rw [if_pos ⟨show (6 : Nat) = 3 + hd0 by omega, hw.mp k.2⟩, if_pos ⟨k.1, k.2.1, k.2.2, rfl⟩]
              · rw [if_neg, if_neg]
                · intro h; exact k ⟨h.1, h.2.1, h.2.2.1⟩
                · intro h
                  have h9 : (6 : Nat) = 3 + hd0 := h.1
                  have := hw.mpr h.2
                  exact k ⟨by omega, this.1, this.2⟩
            rw [e5, ← i2]
            rw [← i1]
            simp -dsimp (disch := first | omega | exact hB _) only [↓c_58 hz, g_58_0 hz, p_58_0 hz, r_58_1 hz, r_58_2 hz, r_58_3 hz, r_58_4 hz, r_58_5 hz, g_58_6 hz, p_58_6 hz, r_58_7 hz, g_58_8 hz, p_58_8 hz, g_58_9 hz, p_58_9 hz, g_58_10 hz, p_58_10 hz, r_58_11 hz, r_58_12 hz, g_58_13 hz, p_58_13 hz, g_58_14 hz, p_58_14 hz, r_58_15 hz, r_58_16 hz, r_58_17 hz, g_58_18 hz, p_58_18 hz, g_58_19 hz, p_58_19 hz, g_58_20 hz, p_58_20 hz, g_58_21 hz, p_58_21 hz, g_58_22 hz, p_58_22 hz, g_58_23 hz, p_58_23 hz, g_58_24 hz, p_58_24 hz, g_58_25 hz, p_58_25 hz, r_58_26 hz, g_58_27 hz, p_58_27 hz, g_58_28 hz, p_58_28 hz, r_58_29 hz, r_58_30 hz, g_58_31 hz, p_58_31 hz, r_58_32 hz, r_58_33 hz, r_58_34 hz, r_58_35 hz, r_58_36 hz, r_58_37 hz, g_58_38 hz, p_58_38 hz, r_58_39 hz, r_58_40 hz, r_58_41 hz, g_58_42 hz, p_58_42 hz, g_58_43 hz, p_58_43 hz, g_58_44 hz, p_58_44 hz, g_58_45 hz, p_58_45 hz, g_58_46 hz, p_58_46 hz, g_58_47 hz, p_58_47 hz, g_58_48 hz, p_58_48 hz, r_58_49 hz, r_58_50 hz, r_58_51 hz, r_58_52 hz, g_58_53 hz, p_58_53 hz, g_58_54 hz, p_58_54 hz, g_58_55 hz, p_58_55 hz, l_59 hz, s_59 hz, n_59 hz, l_60 hz, s_60 hz, n_60 hz, l_61 hz, s_61 hz, n_61 hz, l_62 hz, s_62 hz, n_62 hz, l_63 hz, s_63 hz, n_63 hz, l_64 hz, s_64 hz, n_64 hz, l_65 hz, s_65 hz, n_65 hz, l_66 hz, s_66 hz, n_66 hz, l_67 hz, s_67 hz, n_67 hz, l_68 hz, s_68 hz, n_68 hz, l_69 hz, s_69 hz, n_69 hz, l_70 hz, s_70 hz, n_70 hz, l_71 hz, s_71 hz, n_71 hz, l_72 hz, s_72 hz, n_72 hz, l_73 hz, s_73 hz, n_73 hz, l_74 hz, s_74 hz, n_74 hz, l_75 hz, s_75 hz, n_75 hz, l_76 hz, s_76 hz, n_76 hz, l_77 hz, s_77 hz, n_77 hz, l_78 hz, s_78 hz, n_78 hz, l_79 hz, s_79 hz, n_79 hz, l_80 hz, s_80 hz, n_80 hz, l_81 hz, s_81 hz, n_81 hz, l_82 hz, s_82 hz, l_83 hz, s_83 hz, n_83 hz, l_84 hz, s_84 hz, n_84 hz, l_85 hz, s_85 hz, n_85 hz, hO_s, hI_s, hL_s, hQ_s, hQ_n, hR_s, hV_s, hN_n, hN_s, cond_true, lI_0, lI_1, sI_0, sI_1, lL_0, lL_1, ↓reduceIte, not_true_eq_false, not_false_eq_true, Nat.reduceEqDiff, Nat.reduceAdd, Nat.reduceMul, Nat.reduceSub, Nat.reduceLeDiff, Nat.reduceLT, li_2, li_3, li_4, li_5, li_6, li_7, li_8, li_9, li_10, li_11, li_12, li_13, li_14, li_15, li_16, li_17, li_18, li_19, li_20, li_21, li_22, li_23, li_24, li_25, li_26, li_27, li_28, li_29, li_30, li_31, li_32, li_33, li_34, li_35, li_36, li_37, li_38, li_39, li_40, li_41, li_42, li_43, li_44, li_45, li_46, li_47, li_48, li_49, li_50, li_51, li_52, li_53, li_54, li_55, li_56, li_57, li_58, li_59, li_60, li_61, li_62, li_63, li_64, li_65, li_66, li_67, li_68, li_69, li_70, li_71, li_72, li_73, li_74, li_75, li_76, li_77, li_78, li_79, li_80, li_81, li_82, li_83, li_84, li_85, li_86, li_87, li_88, li_89, li_90, li_91, li_92, li_93, li_94, li_95, li_96, li_97, li_98, li_99, li_100, li_101, li_102, li_103, li_104, li_105, li_106, li_107, li_108, li_109, li_110, li_111, li_112, li_113, li_114, li_115, li_116, li_117, li_118, li_119, li_120, li_121, li_122, li_255, li_400, li_608, li_998, li_999, li_1000, li_1024, li_1103, li_2400, li_2911, li_4095, li_4096, li_5711, li_9999, li_12345, li_1000000, li_1000003, li_252645135, li_858993459, li_1431655765, wI_add, wI_mul, wI_add1, wI_1add, E_22, E_k, hg, wI_le, h6, t_M_codeAt hz hm hv hg hA, c3, E_w24f, E_w22, Nat.add_assoc, wI_eq, E_24, bz_ff]
            rfl
        · rw [if_neg c3] at e2
          split at e2
          · rename_i c12
            cases e3 : pSum false (cdN N A n) (vlN N A) 8 c (t + 1) l with
            | inl x => rw [e3] at e2; cases e2
            | inr q1 =>
              rw [e3] at e2
              dsimp only at e2
              cases e4 : pIf false (cdN N A n) (vlN N A) (c + q1.2.2.1.length) q1.1 q1.2.1 with
              | inl x => rw [e4] at e2; cases e2
              | inr r =>
                rw [e4] at e2
                cases e2
                dsimp only at hq1 ⊢
                obtain ⟨r1, -⟩ := ok_if e4
                have b1 := res_b (lv := true) (br := false) (dB_sum 8 _ _ _ _ e3 e hC.1)
                have j1 := t_M_sumOf hz hm hv hg hA hC hn4 8 d (by omega) c (t + 1) l q1 true false e3 (by omega)
                rw [bz_tt] at j1
                obtain ⟨w, br', i1, hw⟩ := m_if hz hm hv hg hA hC hn4 e4 (by omega) (d := d) hd (fun i σ => Ev (d + 1) mM_tells 289 [(0, .ref 58), (1, .int (wI hd0)), (4, .int (wI high)), (6, .long (kI acc)), (8, .int (wI (cdN N A n t))), (9, .long (kI (res true false (q1.2.2.2 e)).1)), (11, .int (bz ((res true false (q1.2.2.2 e)).2 = true)))] [.int i] σ)
                have i2 := m_289 hz (f := f) (d := d) (a := A + r.1) (hd0 := hd0) (cd := cdN N A n t) (high := high) (acc := acc) (w := w) (br := br') (sb := (res true false (q1.2.2.2 e)).2) (v := (res true false (q1.2.2.2 e)).1) (by omega) (by omega) h3 b1.1 b1.2
                rw [show A + r.1 + 1 = A + (r.1 + 1) from rfl] at i2
                refine ⟨br', ?_⟩
                have e5 : accN e (3 + hd0) high (r.1, r.2.1, [3 + cdN N A n t, 1, c, c + q1.2.2.1.length, c + q1.2.2.1.length, c + q1.2.2.1.length + r.2.2.1.length], q1.2.2.1 ++ r.2.2.1, q1.2.2.2, one1, r.2.2.2) acc = if cdN N A n t = hd0 ∧ w = true ∧ br' = false ∧ (res true false (q1.2.2.2 e)).2 = false then clN high (res true false (q1.2.2.2 e)).1 else acc := by
                  unfold accN
                  dsimp only [List.getD_cons_zero]
                  by_cases k : cdN N A n t = hd0 ∧ w = true ∧ br' = false
                  · rw [if_pos ⟨show 3 + cdN N A n t = 3 + hd0 by omega, hw.mp k.2⟩]
                    cases k3 : q1.2.2.2 e with
                    | none => rw [if_neg]; intro h; exact absurd h.2.2.2 (by decide)
                    | some v => rw [if_pos ⟨k.1, k.2.1, k.2.2, rfl⟩]; rfl
                  · rw [if_neg, if_neg]
                    · intro h; exact k ⟨h.1, h.2.1, h.2.2.1⟩
                    · intro h
                      have h9 : 3 + cdN N A n t = 3 + hd0 := h.1
                      have := hw.mpr h.2
                      exact k ⟨by omega, this.1, this.2⟩
                rw [e5, ← i2]
                rw [← i1]
                simp -dsimp (disch := first | omega | exact hB _) only [↓c_58 hz, g_58_0 hz, p_58_0 hz, r_58_1 hz, r_58_2 hz, r_58_3 hz, r_58_4 hz, r_58_5 hz, g_58_6 hz, p_58_6 hz, r_58_7 hz, g_58_8 hz, p_58_8 hz, g_58_9 hz, p_58_9 hz, g_58_10 hz, p_58_10 hz, r_58_11 hz, r_58_12 hz, g_58_13 hz, p_58_13 hz, g_58_14 hz, p_58_14 hz, r_58_15 hz, r_58_16 hz, r_58_17 hz, g_58_18 hz, p_58_18 hz, g_58_19 hz, p_58_19 hz, g_58_20 hz, p_58_20 hz, g_58_21 hz, p_58_21 hz, g_58_22 hz, p_58_22 hz, g_58_23 hz, p_58_23 hz, g_58_24 hz, p_58_24 hz, g_58_25 hz, p_58_25 hz, r_58_26 hz, g_58_27 hz, p_58_27 hz, g_58_28 hz, p_58_28 hz, r_58_29 hz, r_58_30 hz, g_58_31 hz, p_58_31 hz, r_58_32 hz, r_58_33 hz, r_58_34 hz, r_58_35 hz, r_58_36 hz, r_58_37 hz, g_58_38 hz, p_58_38 hz, r_58_39 hz, r_58_40 hz, r_58_41 hz, g_58_42 hz, p_58_42 hz, g_58_43 hz, p_58_43 hz, g_58_44 hz, p_58_44 hz, g_58_45 hz, p_58_45 hz, g_58_46 hz, p_58_46 hz, g_58_47 hz, p_58_47 hz, g_58_48 hz, p_58_48 hz, r_58_49 hz, r_58_50 hz, r_58_51 hz, r_58_52 hz, g_58_53 hz, p_58_53 hz, g_58_54 hz, p_58_54 hz, g_58_55 hz, p_58_55 hz, l_59 hz, s_59 hz, n_59 hz, l_60 hz, s_60 hz, n_60 hz, l_61 hz, s_61 hz, n_61 hz, l_62 hz, s_62 hz, n_62 hz, l_63 hz, s_63 hz, n_63 hz, l_64 hz, s_64 hz, n_64 hz, l_65 hz, s_65 hz, n_65 hz, l_66 hz, s_66 hz, n_66 hz, l_67 hz, s_67 hz, n_67 hz, l_68 hz, s_68 hz, n_68 hz, l_69 hz, s_69 hz, n_69 hz, l_70 hz, s_70 hz, n_70 hz, l_71 hz, s_71 hz, n_71 hz, l_72 hz, s_72 hz, n_72 hz, l_73 hz, s_73 hz, n_73 hz, l_74 hz, s_74 hz, n_74 hz, l_75 hz, s_75 hz, n_75 hz, l_76 hz, s_76 hz, n_76 hz, l_77 hz, s_77 hz, n_77 hz, l_78 hz, s_78 hz, n_78 hz, l_79 hz, s_79 hz, n_79 hz, l_80 hz, s_80 hz, n_80 hz, l_81 hz, s_81 hz, n_81 hz, l_82 hz, s_82 hz, l_83 hz, s_83 hz, n_83 hz, l_84 hz, s_84 hz, n_84 hz, l_85 hz, s_85 hz, n_85 hz, hO_s, hI_s, hL_s, hQ_s, hQ_n, hR_s, hV_s, hN_n, hN_s, cond_true, lI_0, lI_1, sI_0, sI_1, lL_0, lL_1, ↓reduceIte, not_true_eq_false, not_false_eq_true, Nat.reduceEqDiff, Nat.reduceAdd, Nat.reduceMul, Nat.reduceSub, Nat.reduceLeDiff, Nat.reduceLT, li_2, li_3, li_4, li_5, li_6, li_7, li_8, li_9, li_10, li_11, li_12, li_13, li_14, li_15, li_16, li_17, li_18, li_19, li_20, li_21, li_22, li_23, li_24, li_25, li_26, li_27, li_28, li_29, li_30, li_31, li_32, li_33, li_34, li_35, li_36, li_37, li_38, li_39, li_40, li_41, li_42, li_43, li_44, li_45, li_46, li_47, li_48, li_49, li_50, li_51, li_52, li_53, li_54, li_55, li_56, li_57, li_58, li_59, li_60, li_61, li_62, li_63, li_64, li_65, li_66, li_67, li_68, li_69, li_70, li_71, li_72, li_73, li_74, li_75, li_76, li_77, li_78, li_79, li_80, li_81, li_82, li_83, li_84, li_85, li_86, li_87, li_88, li_89, li_90, li_91, li_92, li_93, li_94, li_95, li_96, li_97, li_98, li_99, li_100, li_101, li_102, li_103, li_104, li_105, li_106, li_107, li_108, li_109, li_110, li_111, li_112, li_113, li_114, li_115, li_116, li_117, li_118, li_119, li_120, li_121, li_122, li_255, li_400, li_608, li_998, li_999, li_1000, li_1024, li_1103, li_2400, li_2911, li_4095, li_4096, li_5711, li_9999, li_12345, li_1000000, li_1000003, li_252645135, li_858993459, li_1431655765, wI_add, wI_mul, wI_add1, wI_1add, E_22, E_k, hg, wI_le, h6, t_M_codeAt hz hm hv hg hA, c3, E_w24f, E_w22, Nat.add_assoc, wI_eq, E_24, j1]
          · cases e2
      obtain ⟨br', one⟩ := one
      rw [one]
      split at h
      · rename_i hqn
        cases h
        exact ⟨_, _, hstop (q.1 + 1) br' _ hacc2 (by omega) (by omega)⟩
      · split at h
        · rename_i hqn h159
          cases e3 : pText (cdN N A n) (pLawC (cdN N A n) (vlN N A)) n m (c + q.2.2.2.1.length) (q.1 + 1) q.2.1 with
          | inl x => rw [e3] at h; cases h
          | inr qs =>
            rw [e3] at h
            cases h
            have ht1 : q.1 + 1 < n := by
              have hq2 := cdN_lt (show cdN N A n q.1 ≠ 0 by omega)
              rcases Nat.lt_or_ge (q.1 + 1) n with h | h
              · exact h
              · exfalso
                cases m with
                | zero => cases e3
                | succ m =>
                  rw [pText] at e3
                  cases e4 : pLawC (cdN N A n) (vlN N A) (c + q.2.2.2.1.length) (q.1 + 1) q.2.1 with
                  | inl x => rw [e4] at e3; cases e3
                  | inr q3 =>
                    have h7 := ok_lawC _ _ _ _ e4
                    exact absurd (show cdN N A n (q.1 + 1) = 0 by unfold cdN; rw [if_neg (by omega)]) (h7.2.2.2 (q.1 + 1) (Nat.le_refl _) h7.1)
            exact ih _ _ _ _ _ br' e3 hacc2 ht1
        · cases h
end
