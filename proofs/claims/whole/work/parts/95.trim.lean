/-! ===== a program is kept: trimmed ===== -/
theorem va_cpy_lt {g h : Nat → Int32} {n k : Nat} (hk : k < n) : va_cpy g h 0 0 n k = g k := by
  unfold va_cpy
  rw [if_pos (by omega)]
  congr 1; omega
section
variable {z : Mem} {f : Nat → Nat → Int32}
theorem t_trimmed (h0z : Sh z) {q : Nat} (hqz : z.1 = q) (hq86 : 86 ≤ q) (hs : q < 2147480000) {c l : Nat} (hc : c ≤ 12) (hl : l ≤ 400) (h340 : f 34 0 = wI c) (h341 : f 34 1 = wI l) {d : Nat} (hd : 2 ≤ d) :
    ∃ F Z, EC d mProgram_trimmed [.ref 34] (mkM f z) = some (some (.ref q), mkM F Z) ∧ (∀ a, a < q → F a = f a) ∧ (∀ a, a < q ∨ q + 3 ≤ a → Z.2.2 a = z.2.2 a) ∧ Z.1 = q + 3 ∧ Z.2.1 = z.2.1 + 4 + c * 6 + l ∧ Pg Z q (c * 6) l ∧ F q 0 = wI c ∧ F q 1 = wI l ∧ (∀ i, i < c * 6 → F (q + 1) i = f 35 i) ∧ (∀ i, i < l → F (q + 2) i = f 36 i) := by
  obtain ⟨d, rfl⟩ : ∃ e, d = e + 1 := ⟨d - 1, by omega⟩
  let z1 := addC z 4 (.inr (5, dfl 5))
  have z11 : z1.1 = q + 1 := by show z.1 + 1 = _; omega
  have z15 : z1.2.2 q = .inr (5, dfl 5) := by
    show va_up z.2.2 z.1 _ q = _
    unfold va_up
    rw [if_pos hqz.symm]
  let f1 : Nat → Nat → Int32 := up f q (fun _ => 0)
  have a1 : addC (mkM f z) 4 (.inr (5, dfl 5)) = mkM f1 z1 := by
    rw [addC_mk f z 4 (fun _ => 0) (.inr (5, dfl 5)) (.inr (5, dfl 5)) rfl, hqz]
  let z3 := addC (addC z1 (c * 6) (.inl (0, c * 6, .inl (fun _ => 0)))) l (.inl (0, l, .inl (fun _ => 0)))
  let f3 : Nat → Nat → Int32 := up (up (up (up f1 (q + 1) (fun _ => 0)) q (upd (f1 q) 2 (wI (q + 1)))) (q + 2) (fun _ => 0)) q (upd (upd (f1 q) 2 (wI (q + 1))) 3 (wI (q + 2)))
  have i1 : EC d mProgram_init [.ref q, .int (wI c), .int (wI l)] (mkM f1 z1) = some (none, mkM f3 z3) := t_Program_init (by omega) z11 z15 hc hl (by omega)
  have z3at : ∀ a, z3.2.2 a = if a = q + 2 then .inl (0, l, .inl (fun _ => 0)) else if a = q + 1 then .inl (0, c * 6, .inl (fun _ => 0)) else if a = q then .inr (5, dfl 5) else z.2.2 a := by
    intro a
    show va_up (va_up (va_up z.2.2 z.1 _) (z.1 + 1) _) (z.1 + 1 + 1) _ a = _
    unfold va_up
    rw [hqz]
  let Z := setC z3 q (.inr (5, [.int 0, .int 0, .ref (q + 1), .ref (q + 2)]))
  have Zat : ∀ a, Z.2.2 a = if a = q then .inr (5, [.int 0, .int 0, .ref (q + 1), .ref (q + 2)]) else z3.2.2 a := fun a => rfl
  have Zlt : ∀ a, a < q ∨ q + 3 ≤ a → Z.2.2 a = z.2.2 a := fun a ha => by rw [Zat, if_neg (by omega), z3at, if_neg (by omega), if_neg (by omega), if_neg (by omega)]
  have f3q : f3 q = upd (upd (f1 q) 2 (wI (q + 1))) 3 (wI (q + 2)) := up_eq _ _ _
  have f3lt : ∀ a, a < q → f3 a = f a := fun a ha => by
    show up (up (up (up (up f q _) (q + 1) _) q _) (q + 2) _) q _ a = _
    rw [up_ne _ _ _ (by omega), up_ne _ _ _ (by omega), up_ne _ _ _ (by omega), up_ne _ _ _ (by omega), up_ne _ _ _ (by omega)]
  have eM : mkM f3 z3 = mkM f3 Z := fix_mk f3 z3 (by omega) (by rw [z3at, if_neg (by omega), if_neg (by omega), if_pos rfl]) (by rw [f3q, upd_ne _ _ _ (by decide), upd_eq]) (by rw [f3q, upd_eq])
  rw [eM] at i1
  have hz : Sh Z := fun a ha => by rw [Zlt a (by omega)]; exact h0z a ha
  have hz1 : Sh z1 := fun a ha => by
    show okCl _ (va_up z.2.2 z.1 _ a) = true
    unfold va_up
    rw [if_neg (by omega)]
    exact h0z a ha
  have hq : Pg Z q (c * 6) l := by
    refine ⟨?_, ?_, ?_, by omega, hl⟩
    · rw [Zat, if_pos rfl]
      show (((q + 1) == (q + 1)) && (((q + 2) == (q + 2)) && true)) = true
      simp
    · rw [Zat, if_neg (by omega), z3at, if_neg (by omega), if_pos rfl]
      show ((c * 6) == (c * 6)) = true
      simp
    · rw [Zat, if_neg (by omega), z3at, if_pos rfl]
      show (l == l) = true
      simp
  have k0 : f3 34 0 = wI c := by rw [f3lt 34 (by omega), h340]
  have k1 : f3 34 1 = wI l := by rw [f3lt 34 (by omega), h341]
  let f4 : Nat → Nat → Int32 := up f3 q (upd (upd (f3 q) 0 (wI c)) 1 (wI l))
  have c1 := ok_cpI (q := (1, 0, c * 6, [])) (q2 := (1, 0, 72, [])) (a := q + 1) (b := 35) hq.2.1 rfl rfl (hz 35 (by decide)) rfl rfl f4 (n := c * 6) (Nat.le_refl _) (by show c * 6 ≤ 72; omega) (by omega)
  let f5 : Nat → Nat → Int32 := up f4 (q + 1) (va_cpy (f4 35) (f4 (q + 1)) 0 0 (c * 6))
  have c2 := ok_cpI (q := (1, 0, l, [])) (q2 := (1, 0, 400, [])) (a := q + 2) (b := 36) hq.2.2.1 rfl rfl (hz 36 (by decide)) rfl rfl f5 (n := l) (Nat.le_refl _) (by show l ≤ 400; omega) (by omega)
  let f6 : Nat → Nat → Int32 := up f5 (q + 2) (va_cpy (f5 36) (f5 (q + 2)) 0 0 l)
  have f4lt : ∀ a, a ≠ q → f4 a = f3 a := fun a ha => up_ne _ _ _ ha
  have f5lt : ∀ a, a ≠ q + 1 → f5 a = f4 a := fun a ha => up_ne _ _ _ ha
  have f6lt : ∀ a, a ≠ q + 2 → f6 a = f5 a := fun a ha => up_ne _ _ _ ha
  refine ⟨f6, Z, ?_, fun a ha => ?_, Zlt, ?_, ?_, hq, ?_, ?_, fun i hi => ?_, fun i hi => ?_⟩
  · have c1' : cpI (mkM (up f3 q (upd (upd (f3 q) 0 (wI c)) 1 (wI l))) Z) 35 0 (q + 1) 0 (wI (c * 6)) = some (mkM f5 Z) := c1
    have c2' : cpI (mkM f5 Z) 36 0 (q + 2) 0 (wI l) = some (mkM f6 Z) := c2
    have g0 : gI (mkM f1 z1) 5 34 0 = some (wI c) := by
      rw [g_34_0 hz1]
      show some (up f q _ 34 0) = _
      rw [up_ne _ _ _ (by omega), h340]
    have g1 : gI (mkM f1 z1) 5 34 1 = some (wI l) := by
      rw [g_34_1 hz1]
      show some (up f q _ 34 1) = _
      rw [up_ne _ _ _ (by omega), h341]
    have gc : isC (mkM f1 z1) 5 q = true := ok_isC (q := (0, 5, 0, [0, 0, 1, 1])) (by rw [z15]; rfl) rfl f1
    rw [q_Program_trimmed, a1, show (mkM f z).1 = q from hqz, gc]
    simp -dsimp (disch := omega) only [g0, g1, ↓c_0 hz, r_0_0 hz, r_0_1 hz, r_0_2 hz, v_0_3 hz, w_0_3 hz, p_0_3 hz, r_0_4 hz, r_0_5 hz, r_0_6 hz, g_0_7 hz, p_0_7 hz, r_0_8 hz, r_0_9 hz, r_0_10 hz, r_0_11 hz, r_0_12 hz, g_0_13 hz, p_0_13 hz, g_0_14 hz, p_0_14 hz, g_0_15 hz, p_0_15 hz, g_0_16 hz, p_0_16 hz, g_0_17 hz, p_0_17 hz, g_0_18 hz, p_0_18 hz, r_0_19 hz, ↓c_1 hz, g_1_0 hz, p_1_0 hz, r_1_1 hz, g_1_2 hz, p_1_2 hz, r_1_3 hz, r_1_4 hz, r_1_5 hz, r_1_6 hz, r_1_7 hz, r_1_8 hz, r_1_9 hz, g_1_10 hz, p_1_10 hz, r_1_11 hz, r_1_12 hz, r_1_13 hz, g_1_14 hz, p_1_14 hz, r_1_15 hz, g_1_16 hz, p_1_16 hz, l_2 hz, s_2 hz, n_2 hz, l_3 hz, s_3 hz, n_3 hz, l_4 hz, s_4 hz, n_4 hz, l_5 hz, s_5 hz, n_5 hz, l_6 hz, s_6 hz, n_6 hz, l_7 hz, s_7 hz, n_7 hz, l_8 hz, s_8 hz, n_8 hz, l_9 hz, s_9 hz, n_9 hz, l_10 hz, s_10 hz, n_10 hz, l_11 hz, s_11 hz, n_11 hz, l_12 hz, s_12 hz, n_12 hz, l_13 hz, ↓c_14 hz, g_14_0 hz, p_14_0 hz, r_14_1 hz, g_14_2 hz, p_14_2 hz, r_14_3 hz, r_14_4 hz, r_14_5 hz, r_14_6 hz, r_14_7 hz, r_14_8 hz, r_14_9 hz, g_14_10 hz, p_14_10 hz, r_14_11 hz, r_14_12 hz, r_14_13 hz, g_14_14 hz, p_14_14 hz, r_14_15 hz, g_14_16 hz, p_14_16 hz, l_15 hz, s_15 hz, n_15 hz, l_16 hz, s_16 hz, n_16 hz, l_17 hz, s_17 hz, n_17 hz, l_18 hz, s_18 hz, n_18 hz, l_19 hz, s_19 hz, n_19 hz, l_20 hz, s_20 hz, n_20 hz, l_21 hz, s_21 hz, n_21 hz, l_22 hz, s_22 hz, n_22 hz, l_23 hz, s_23 hz, n_23 hz, l_24 hz, s_24 hz, n_24 hz, l_25 hz, s_25 hz, n_25 hz, l_26 hz, l_27 hz, ↓c_28 hz, r_28_0 hz, g_28_1 hz, p_28_1 hz, g_28_2 hz, p_28_2 hz, l_29 hz, s_29 hz, n_29 hz, ↓c_30 hz, r_30_0 hz, g_30_1 hz, p_30_1 hz, g_30_2 hz, p_30_2 hz, l_31 hz, s_31 hz, n_31 hz, l_32 hz, s_32 hz, n_32 hz, ↓c_33 hz, r_33_0 hz, v_33_1 hz, w_33_1 hz, p_33_1 hz, g_33_2 hz, p_33_2 hz, g_33_3 hz, p_33_3 hz, g_33_4 hz, p_33_4 hz, g_33_5 hz, p_33_5 hz, g_33_6 hz, p_33_6 hz, g_33_7 hz, p_33_7 hz, g_33_8 hz, p_33_8 hz, g_33_9 hz, p_33_9 hz, ↓c_34 hz, g_34_0 hz, p_34_0 hz, g_34_1 hz, p_34_1 hz, r_34_2 hz, r_34_3 hz, l_35 hz, s_35 hz, n_35 hz, l_36 hz, s_36 hz, n_36 hz, ↓c_38 hz, r_38_0 hz, v_38_1 hz, w_38_1 hz, p_38_1 hz, g_38_2 hz, p_38_2 hz, g_38_3 hz, p_38_3 hz, g_38_4 hz, p_38_4 hz, g_38_5 hz, p_38_5 hz, l_39 hz, s_39 hz, n_39 hz, ↓c_40 hz, r_40_0 hz, r_40_1 hz, r_40_2 hz, r_40_3 hz, g_40_4 hz, p_40_4 hz, l_41 hz, s_41 hz, n_41 hz, l_42 hz, s_42 hz, n_42 hz, l_43 hz, s_43 hz, n_43 hz, l_44 hz, s_44 hz, n_44 hz, ↓c_45 hz, r_45_0 hz, r_45_1 hz, r_45_2 hz, r_45_3 hz, r_45_4 hz, g_45_5 hz, p_45_5 hz, l_46 hz, s_46 hz, n_46 hz, l_47 hz, s_47 hz, n_47 hz, l_48 hz, s_48 hz, n_48 hz, l_49 hz, s_49 hz, n_49 hz, l_50 hz, s_50 hz, n_50 hz, ↓c_51 hz, r_51_0 hz, r_51_1 hz, r_51_2 hz, r_51_3 hz, r_51_4 hz, g_51_5 hz, p_51_5 hz, g_51_6 hz, p_51_6 hz, l_52 hz, s_52 hz, n_52 hz, l_53 hz, s_53 hz, n_53 hz, l_54 hz, s_54 hz, n_54 hz, l_55 hz, s_55 hz, n_55 hz, l_56 hz, s_56 hz, n_56 hz, l_57 hz, s_57 hz, n_57 hz, ↓c_Q hq, g_Q_0 hq, p_Q_0 hq, g_Q_1 hq, p_Q_1 hq, r_Q_2 hq, r_Q_3 hq, l_Q1 hq, s_Q1 hq, n_Q1 hq, l_Q2 hq, s_Q2 hq, n_Q2 hq, hO_s, hI_s, hL_s, hQ_s, hQ_n, hR_s, hV_s, hN_n, hN_s, cond_true, lI_0, lI_1, sI_0, sI_1, lL_0, lL_1, ↓reduceIte, not_true_eq_false, not_false_eq_true, Nat.reduceEqDiff, Nat.reduceAdd, Nat.reduceMul, Nat.reduceSub, Nat.reduceLeDiff, Nat.reduceLT, i1, k0, k1, up_ne, up_eq, up_up, c1', c2']
  · rw [f6lt a (by omega), f5lt a (by omega), f4lt a (by omega), f3lt a ha]
  · show z.1 + 1 + 1 + 1 = _
    omega
  · show z.2.1 + 4 + c * 6 + l = _
    rfl
  · rw [f6lt q (by omega), f5lt q (by omega)]
    show up f3 q _ q 0 = _
    rw [up_eq, upd_ne _ _ _ (by decide), upd_eq]
  · rw [f6lt q (by omega), f5lt q (by omega)]
    show up f3 q _ q 1 = _
    rw [up_eq, upd_eq]
  · rw [f6lt _ (by omega)]
    show up f4 (q + 1) _ (q + 1) i = _
    rw [up_eq, va_cpy_lt hi, f4lt 35 (by omega), f3lt 35 (by omega)]
  · show up f5 (q + 2) _ (q + 2) i = _
    rw [up_eq, va_cpy_lt hi, f5lt 36 (by omega), f4lt 36 (by omega), f3lt 36 (by omega)]
end
