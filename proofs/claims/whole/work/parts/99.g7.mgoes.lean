/-! ===== ORDERS: the reference goes along an order, whole ===== -/
def kC (k : Nat) : Nat := if k = 3 then 24 else 20 + k
/-- what going along changes -/
def OGf (f f' : Nat → Nat → Int32) : Prop := (∀ a, a ≠ 58 → a ≠ 82 → f' a = f a) ∧ (∀ k, k < 22 ∨ 48 < k ∨ (25 < k ∧ k < 45) → f' 58 k = f 58 k) ∧ ∃ br : Bool, f' 58 24 = bz (br = true)
theorem res_s2 (x : Option Int) : (true && !(res true false x).2) = x.isSome := by
  cases x <;> rfl
theorem pTwo_k {C V : Nat → Nat} {w k c t l : Nat} {q : OH} (h : pTwo C V w k c t l = .inr q) : q.2.2.1 = k := by
  unfold pTwo at h
  split at h
  · cases h
  · split at h
    · split at h
      · cases h
      · cases h; rfl
    · cases h
section
variable {z : Mem} {f F : Nat → Nat → Int32} {N : Nat → Nat} {A n : Nat} {dn lt : Int}
theorem goes_end (hz : Sh z) (h : GC F N A n dn lt) {t c l : Nat} {m : Nat × Nat} (hm : pTimes (cdN N A n) (vlN N A) t = .inr m) (ht : A + t < 2900) (htm : A + m.1 < 2990) {r : _} (hr : pIf true (cdN N A n) (vlN N A) c m.1 l = .inr r) {lv br : Bool} {x : Nat} (hx : x < 10) {d : Nat} (hd : 44 ≤ d) :
    ∃ (w : Bool) (f' : Nat → Nat → Int32), Ev (d + 1) mM_goesAlong 76 [(0, .ref 58), (2, .int (bz (lv = true))), (3, .int (wI x)), (4, .int (wI x))] [] (mkM (EE2 F (A + t) br) z) = some (none, mkM f' z) ∧ f' 58 22 = wI (A + r.1 + 1) ∧ f' 58 45 = wI m.2 ∧ (∀ k, k ≠ 22 → k ≠ 24 → k ≠ 45 → k ≠ 48 → f' 58 k = F 58 k) ∧ (∀ a, a ≠ 58 → f' a = F a) ∧ f' 58 48 = bz (w = true) ∧ (lv = true → (w = true ↔ r.2.2.2 (xEnv N 0 0 dn lt) = some true)) ∧ ∃ br : Bool, f' 58 24 = bz (br = true) := by
  have i1 := goes_times hz h hm ht (lv := bz (lv = true)) (br := br) (Nat.le_refl x) hx (d := d) (by omega)
  have h2 := GC_58 h (k := 45) (wI m.2) (by omega)
  obtain ⟨w, br', i2, i3⟩ := goes_184 hz h2 hr (by omega) (lv := lv) (br := br) hd
  refine ⟨w, _, i1.trans i2, E_22, ?_, fun k k1 k2 k3 k4 => ?_, fun a ha => ?_, ?_, i3, br', E_24⟩
  · rw [E_k (by decide) (by decide), up_eq, upd_ne _ _ _ (by decide), up_eq, upd_eq]
  · rw [E_k k1 k2, up_eq, upd_ne _ _ _ k4, up_eq, upd_ne _ _ _ k3]
  · rw [E_c ha, up_ne _ _ _ ha, up_ne _ _ _ ha]
  · rw [E_k (by decide) (by decide), up_eq, upd_eq]
theorem m_goes (hz : Sh z) (hm : MK f N) (hv : VK N) (hA : A + n ≤ 2800) (hA0 : 0 < A) (hn4 : n ≤ 400) (h27 : f 58 27 = jI dn) (h28 : f 58 28 = jI lt) (hdn : 0 ≤ dn ∧ dn ≤ 100000) (hlt : -1 ≤ lt ∧ lt ≤ 100000) (hbr : ∃ br : Bool, f 58 24 = bz (br = true)) {t c l : Nat} (h44 : f 58 44 = wI (A + t)) (htn : t < n) {q : CL} (hp : pOrdC (cdN N A n) (vlN N A) c t l = .inr q) {lv : Bool} {d : Nat} (hd : 46 ≤ d) :
    ∃ f', EC d mM_goesAlong [.ref 58, .int (wI (A + n)), .int (bz (lv = true))] (mkM f z) = some (none, mkM f' z) ∧ OGf f f' ∧ f' 58 22 = wI (A + q.1 + 1) ∧ f' 58 45 = wI (q.2.2.1.getD 1 0) ∧ f' 58 46 = wI (kC (q.2.2.1.getD 0 0)) ∧
      (lv = true → f' 58 47 = bz (((q.2.2.2.2.1 (xEnv N 0 0 dn lt)).isSome && (q.2.2.2.2.2.1 (xEnv N 0 0 dn lt)).isSome) = true) ∧ (∃ w : Bool, f' 58 48 = bz (w = true) ∧ (w = true ↔ q.2.2.2.2.2.2 (xEnv N 0 0 dn lt) = some true)) ∧ (∀ a, q.2.2.2.2.1 (xEnv N 0 0 dn lt) = some a → q.2.2.1.getD 0 0 ≤ 2 → f' 82 0 = jI a) ∧ (∀ a, q.2.2.2.2.2.1 (xEnv N 0 0 dn lt) = some a → q.2.2.1.getD 0 0 = 0 ∨ q.2.2.1.getD 0 0 = 2 → f' 82 1 = jI a)) := by
  obtain ⟨d, rfl⟩ : ∃ e, d = e + 1 := ⟨d - 1, by omega⟩
  have hB := hv.1
  have hokc := ok_ordC _ _ _ _ hp
  have cend : ∀ j, t ≤ j → j < q.1 → j < n := fun j h1 h2 => cdN_lt (hokc.2.2.2 j h1 h2)
  have hq1 : q.1 ≤ n := by
    rcases Nat.lt_or_ge n q.1 with h | h
    · have := cend n (by omega) h; omega
    · exact h
  obtain ⟨br, hbr⟩ := hbr
  obtain ⟨F0, eF0⟩ : ∃ F0, F0 = up f 58 (upd (upd (f 58) 25 1) 23 (wI (A + n))) := ⟨_, rfl⟩
  have k0 : ∀ k, k ≠ 25 → k ≠ 23 → F0 58 k = f 58 k := fun k h1 h2 => by rw [eF0, up_eq, upd_ne _ _ _ h2, upd_ne _ _ _ h1]
  have n0 : ∀ a, a ≠ 58 → F0 a = f a := fun a ha => by rw [eF0, up_ne _ _ _ ha]
  have hF : up f 58 (upd (upd (upd (f 58) 25 1) 23 (wI (A + n))) 22 (wI (A + t))) = EE2 F0 (A + t) br := by
    unfold EE2
    rw [eF0, up_up, up_eq]
    congr 1
    funext j
    by_cases e : j = 24
    · subst e
      rw [upd_eq, upd_ne _ _ _ (by decide), upd_ne _ _ _ (by decide), upd_ne _ _ _ (by decide), hbr]
    · rw [upd_ne _ 24 _ e]
  have g0 : GC F0 N A n dn lt := ⟨MK_60 hm (n0 60 (by decide)), hv, by rw [eF0, up_eq, upd_eq], hA, hn4, by rw [eF0, up_eq, upd_ne _ _ _ (by decide), upd_eq], by rw [k0 27 (by decide) (by decide)]; exact h27, by rw [k0 28 (by decide) (by decide)]; exact h28, hdn, hlt⟩
  obtain ⟨F1, eF1⟩ : ∃ F1, F1 = up F0 58 (upd (upd (F0 58) 46 (wI (cdN N A n t))) 47 1) := ⟨_, rfl⟩
  have g1 : GC F1 N A n dn lt := by
    have := GC_58 (GC_58 g0 (k := 46) (wI (cdN N A n t)) (by omega)) (k := 47) 1 (by omega)
    rw [up_up, up_eq] at this
    rw [eF1]
    exact this
  have k1 : ∀ k, k < 22 ∨ 48 < k ∨ (25 < k ∧ k < 45) → F1 58 k = f 58 k := fun k hk => by rw [eF1, up_eq, upd_ne _ _ _ (by omega), upd_ne _ _ _ (by omega), k0 k (by omega) (by omega)]
  have n1 : ∀ a, a ≠ 58 → F1 a = f a := fun a ha => by rw [eF1, up_ne _ _ _ ha, n0 a ha]
  have e46 : F1 58 46 = wI (cdN N A n t) := by rw [eF1, up_eq, upd_ne _ _ _ (by decide), upd_eq]
  have e47 : F1 58 47 = bz (true = true) := by rw [eF1, up_eq, upd_eq]; rfl
  have hcl : cdN N A n t < 2147483648 := by
    unfold cdN
    split
    · exact hB _
    · omega
  have i0 := t_M_codeAt hz (t := t) (a := A + t) (br := br) g0.1 hv g0.2.2.1 hA (d := d) (by omega) (by omega)
  have stepQ : EC (d + 1) mM_goesAlong [.ref 58, .int (wI (A + n)), .int (bz (lv = true))] (mkM f z) = if cdN N A n t = 24 then Ev (d + 1) mM_goesAlong 76 [(0, .ref 58), (2, .int (bz (lv = true))), (3, .int (wI 0)), (4, .int (wI 0))] [] (mkM (EE2 F1 (A + (t + 1)) br) z) else if cdN N A n t = 21 then Ev (d + 1) mM_goesAlong 76 [(0, .ref 58), (2, .int (bz (lv = true))), (3, .int (wI 1)), (4, .int (wI 0))] [] (mkM (EE2 F1 (A + (t + 1)) br) z) else Ev (d + 1) mM_goesAlong 76 [(0, .ref 58), (2, .int (bz (lv = true))), (3, .int (wI 2)), (4, .int (wI 0))] [] (mkM (EE2 F1 (A + (t + 1)) br) z) := by
    rw [q_M_goesAlong, eF1]
    have e44 : upd (upd (f 58) 25 1) 23 (wI (A + n)) 44 = wI (A + t) := by rw [upd_ne _ _ _ (by decide), upd_ne _ _ _ (by decide)]; exact h44
    simp -dsimp (disch := first | omega | exact hB _) only [↓c_58 hz, g_58_0 hz, p_58_0 hz, r_58_1 hz, r_58_2 hz, r_58_3 hz, r_58_4 hz, r_58_5 hz, g_58_6 hz, p_58_6 hz, r_58_7 hz, g_58_8 hz, p_58_8 hz, g_58_9 hz, p_58_9 hz, g_58_10 hz, p_58_10 hz, r_58_11 hz, r_58_12 hz, g_58_13 hz, p_58_13 hz, g_58_14 hz, p_58_14 hz, r_58_15 hz, r_58_16 hz, r_58_17 hz, g_58_18 hz, p_58_18 hz, g_58_19 hz, p_58_19 hz, g_58_20 hz, p_58_20 hz, g_58_21 hz, p_58_21 hz, g_58_22 hz, p_58_22 hz, g_58_23 hz, p_58_23 hz, g_58_24 hz, p_58_24 hz, g_58_25 hz, p_58_25 hz, r_58_26 hz, g_58_27 hz, p_58_27 hz, g_58_28 hz, p_58_28 hz, r_58_29 hz, r_58_30 hz, g_58_31 hz, p_58_31 hz, r_58_32 hz, r_58_33 hz, r_58_34 hz, r_58_35 hz, r_58_36 hz, r_58_37 hz, g_58_38 hz, p_58_38 hz, r_58_39 hz, r_58_40 hz, r_58_41 hz, g_58_42 hz, p_58_42 hz, g_58_43 hz, p_58_43 hz, g_58_44 hz, p_58_44 hz, g_58_45 hz, p_58_45 hz, g_58_46 hz, p_58_46 hz, g_58_47 hz, p_58_47 hz, g_58_48 hz, p_58_48 hz, r_58_49 hz, r_58_50 hz, r_58_51 hz, r_58_52 hz, g_58_53 hz, p_58_53 hz, g_58_54 hz, p_58_54 hz, g_58_55 hz, p_58_55 hz, l_59 hz, s_59 hz, n_59 hz, l_60 hz, s_60 hz, n_60 hz, l_61 hz, s_61 hz, n_61 hz, l_62 hz, s_62 hz, n_62 hz, l_63 hz, s_63 hz, n_63 hz, l_64 hz, s_64 hz, n_64 hz, l_65 hz, s_65 hz, n_65 hz, l_66 hz, s_66 hz, n_66 hz, l_67 hz, s_67 hz, n_67 hz, l_68 hz, s_68 hz, n_68 hz, l_69 hz, s_69 hz, n_69 hz, l_70 hz, s_70 hz, n_70 hz, l_71 hz, s_71 hz, n_71 hz, l_72 hz, s_72 hz, n_72 hz, l_73 hz, s_73 hz, n_73 hz, l_74 hz, s_74 hz, n_74 hz, l_75 hz, s_75 hz, n_75 hz, l_76 hz, s_76 hz, n_76 hz, l_77 hz, s_77 hz, n_77 hz, l_78 hz, s_78 hz, n_78 hz, l_79 hz, s_79 hz, n_79 hz, l_80 hz, s_80 hz, n_80 hz, l_81 hz, s_81 hz, n_81 hz, l_82 hz, s_82 hz, l_83 hz, s_83 hz, n_83 hz, l_84 hz, s_84 hz, n_84 hz, l_85 hz, s_85 hz, n_85 hz, hO_s, hI_s, hL_s, hQ_s, hQ_n, hR_s, hV_s, hN_n, hN_s, cond_true, lI_0, lI_1, sI_0, sI_1, lL_0, lL_1, ↓reduceIte, not_true_eq_false, not_false_eq_true, Nat.reduceEqDiff, Nat.reduceAdd, Nat.reduceMul, Nat.reduceSub, Nat.reduceLeDiff, Nat.reduceLT, li_2, li_3, li_4, li_5, li_6, li_7, li_8, li_9, li_10, li_11, li_12, li_13, li_14, li_15, li_16, li_17, li_18, li_19, li_20, li_21, li_22, li_23, li_24, li_25, li_26, li_27, li_28, li_29, li_30, li_31, li_32, li_33, li_34, li_35, li_36, li_37, li_38, li_39, li_40, li_41, li_42, li_43, li_44, li_45, li_46, li_47, li_48, li_49, li_50, li_51, li_52, li_53, li_54, li_55, li_56, li_57, li_58, li_59, li_60, li_61, li_62, li_63, li_64, li_65, li_66, li_67, li_68, li_69, li_70, li_71, li_72, li_73, li_74, li_75, li_76, li_77, li_78, li_79, li_80, li_81, li_82, li_83, li_84, li_85, li_86, li_87, li_88, li_89, li_90, li_91, li_92, li_93, li_94, li_95, li_96, li_97, li_98, li_99, li_100, li_101, li_102, li_103, li_104, li_105, li_106, li_107, li_108, li_109, li_110, li_111, li_112, li_113, li_114, li_115, li_116, li_117, li_118, li_119, li_120, li_121, li_122, li_255, li_400, li_608, li_998, li_999, li_1000, li_1024, li_1103, li_2400, li_2911, li_4095, li_4096, li_5711, li_9999, li_12345, li_1000000, li_1000003, li_252645135, li_858993459, li_1431655765, wI_add, wI_mul, wI_add1, wI_1add, up_up, up_eq, e44, hF, E_22, i0, E_wk, E_w22, E_k, upd_eq, upd_ne, wI_eq, Nat.add_assoc]
    rfl
  unfold pOrdC at hp
  cases e1 : pOrdH (cdN N A n) (vlN N A) c t l with
  | inl x => rw [e1] at hp; cases hp
  | inr h1 =>
    rw [e1] at hp
    dsimp only at hp
    cases e2 : pTimes (cdN N A n) (vlN N A) h1.1 with
    | inl x => rw [e2] at hp; cases hp
    | inr m =>
      rw [e2] at hp
      dsimp only at hp
      cases e3 : pIf true (cdN N A n) (vlN N A) (c + h1.2.2.2.1.length + h1.2.2.2.2.1.length) m.1 h1.2.1 with
      | inl x => rw [e3] at hp; cases hp
      | inr r =>
        rw [e3] at hp
        cases hp
        dsimp only at hq1 cend ⊢
        obtain ⟨a1, a2, a3, a4⟩ := ok_ordH e1
        obtain ⟨b1, b2, b3, b4⟩ := ok_times e2
        obtain ⟨c1, c2, c3, c4, c5⟩ := ok_if e3
        -- what is left once the SUMS are done
        have fin : ∀ (G : Nat → Nat → Int32) (b : Bool) (x : Nat), GC G N A n dn lt → x < 10 → (∀ k, k ≠ 47 → G 58 k = F1 58 k) → (∀ a, a ≠ 58 → a ≠ 82 → G a = F1 a) → EC (d + 1) mM_goesAlong [.ref 58, .int (wI (A + n)), .int (bz (lv = true))] (mkM f z) = Ev (d + 1) mM_goesAlong 76 [(0, .ref 58), (2, .int (bz (lv = true))), (3, .int (wI x)), (4, .int (wI x))] [] (mkM (EE2 G (A + h1.1) b) z) → cdN N A n t = kC h1.2.2.1 →
            (lv = true → G 58 47 = bz (((h1.2.2.2.2.2.1 (xEnv N 0 0 dn lt)).isSome && (h1.2.2.2.2.2.2 (xEnv N 0 0 dn lt)).isSome) = true) ∧ (∀ a, h1.2.2.2.2.2.1 (xEnv N 0 0 dn lt) = some a → h1.2.2.1 ≤ 2 → G 82 0 = jI a) ∧ (∀ a, h1.2.2.2.2.2.2 (xEnv N 0 0 dn lt) = some a → h1.2.2.1 = 0 ∨ h1.2.2.1 = 2 → G 82 1 = jI a)) →
            ∃ f', EC (d + 1) mM_goesAlong [.ref 58, .int (wI (A + n)), .int (bz (lv = true))] (mkM f z) = some (none, mkM f' z) ∧ OGf f f' ∧ f' 58 22 = wI (A + r.1 + 1) ∧ f' 58 45 = wI m.2 ∧ f' 58 46 = wI (kC h1.2.2.1) ∧
              (lv = true → f' 58 47 = bz (((h1.2.2.2.2.2.1 (xEnv N 0 0 dn lt)).isSome && (h1.2.2.2.2.2.2 (xEnv N 0 0 dn lt)).isSome) = true) ∧ (∃ w : Bool, f' 58 48 = bz (w = true) ∧ (w = true ↔ r.2.2.2 (xEnv N 0 0 dn lt) = some true)) ∧ (∀ a, h1.2.2.2.2.2.1 (xEnv N 0 0 dn lt) = some a → h1.2.2.1 ≤ 2 → f' 82 0 = jI a) ∧ (∀ a, h1.2.2.2.2.2.2 (xEnv N 0 0 dn lt) = some a → h1.2.2.1 = 0 ∨ h1.2.2.1 = 2 → f' 82 1 = jI a)) := by
          intro G b x hG hx gk gn hs hc hl
          obtain ⟨w, f', j1, j2, j3, j4, j5, j6, j7, j8⟩ := goes_end hz hG e2 (by omega) (by omega) e3 (lv := lv) (br := b) hx (d := d) (by omega)
          refine ⟨f', hs.trans j1, ⟨fun a h2 h3 => by rw [j5 a h2, gn a h2 h3, n1 a h2], fun k hk => by rw [j4 k (by omega) (by omega) (by omega) (by omega), gk k (by omega), k1 k hk], j8⟩, j2, j3, by rw [j4 46 (by decide) (by decide) (by decide) (by decide), gk 46 (by decide), e46, hc], fun e => ?_⟩
          obtain ⟨l1, l2, l3⟩ := hl e
          refine ⟨by rw [j4 47 (by decide) (by decide) (by decide) (by decide)]; exact l1, ⟨w, j6, j7 e⟩, fun a h2 h3 => by rw [j5 82 (by decide)]; exact l2 a h2 h3, fun a h2 h3 => by rw [j5 82 (by decide)]; exact l3 a h2 h3⟩
        show ∃ f', EC (d + 1) mM_goesAlong [.ref 58, .int (wI (A + n)), .int (bz (lv = true))] (mkM f z) = some (none, mkM f' z) ∧ OGf f f' ∧ f' 58 22 = wI (A + r.1 + 1) ∧ f' 58 45 = wI m.2 ∧ f' 58 46 = wI (kC h1.2.2.1) ∧ _
        have sf1 : ∀ (G : Nat → Nat → Int32) (k : Nat) (v : Int) (b : Bool), (∀ j, j ≠ 47 → SF G k v b 58 j = G 58 j) ∧ (∀ a, a ≠ 58 → a ≠ 82 → SF G k v b a = G a) ∧ SF G k v b 58 47 = bz (b = true) ∧ SF G k v b 82 k = jI v ∧ ∀ j, j ≠ k → SF G k v b 82 j = G 82 j := fun G k v b => by
          unfold SF
          refine ⟨fun j hj => ?_, fun a h2 h3 => ?_, ?_, ?_, fun j hj => ?_⟩
          · rw [up_eq, upd_ne _ _ _ hj]
          · rw [up_ne _ _ _ h2, up_ne _ _ _ h3]
          · rw [up_eq, upd_eq]
          · rw [up_ne _ _ _ (by decide), up_eq, upd_eq]
          · rw [up_ne _ _ _ (by decide), up_eq, upd_ne _ _ _ hj]
        have two : ∀ (w kd : Nat), cdN N A n t = kC kd → kd = 0 ∨ kd = 2 → h1.2.2.1 = kd → pTwo (cdN N A n) (vlN N A) w kd c (t + 1) l = .inr h1 → ∃ f', EC (d + 1) mM_goesAlong [.ref 58, .int (wI (A + n)), .int (bz (lv = true))] (mkM f z) = some (none, mkM f' z) ∧ OGf f f' ∧ f' 58 22 = wI (A + r.1 + 1) ∧ f' 58 45 = wI m.2 ∧ f' 58 46 = wI (kC h1.2.2.1) ∧
              (lv = true → f' 58 47 = bz (((h1.2.2.2.2.2.1 (xEnv N 0 0 dn lt)).isSome && (h1.2.2.2.2.2.2 (xEnv N 0 0 dn lt)).isSome) = true) ∧ (∃ w : Bool, f' 58 48 = bz (w = true) ∧ (w = true ↔ r.2.2.2 (xEnv N 0 0 dn lt) = some true)) ∧ (∀ a, h1.2.2.2.2.2.1 (xEnv N 0 0 dn lt) = some a → h1.2.2.1 ≤ 2 → f' 82 0 = jI a) ∧ (∀ a, h1.2.2.2.2.2.2 (xEnv N 0 0 dn lt) = some a → h1.2.2.1 = 0 ∨ h1.2.2.1 = 2 → f' 82 1 = jI a)) := by
          intro w kd hck hkd hkh ht2
          unfold pTwo at ht2
          cases p1 : pSum true (cdN N A n) (vlN N A) 8 c (t + 1) l with
          | inl x => rw [p1] at ht2; cases ht2
          | inr q1 =>
            rw [p1] at ht2
            dsimp only at ht2
            split at ht2
            · cases p2 : pSum true (cdN N A n) (vlN N A) 8 (c + q1.2.2.1.length) (q1.1 + 1) q1.2.1 with
              | inl x => rw [p2] at ht2; cases ht2
              | inr q2 =>
                rw [p2] at ht2
                cases ht2
                obtain ⟨⟨o1, o2, o3, o4, o5⟩, o6, o7⟩ := ok_sum 8 _ _ _ _ p1
                obtain ⟨⟨u1, u2, u3, u4, u5⟩, u6, u7⟩ := ok_sum 8 _ _ _ _ p2
                dsimp only at a1 b1 c1 hkh fin ⊢
                rcases goes_s hz g1 p1 (by omega) (lv := lv) (br := br) e47 (x := 2) (y := 0) (by decide) (by decide) (d := d) (by omega) with s1 | s1
                · rcases goes_s hz (GC_SF g1 0 (res lv false (q1.2.2.2 (xEnv N 0 0 dn lt))).1 (true && !(res lv false (q1.2.2.2 (xEnv N 0 0 dn lt))).2)) p2 (by omega) (lv := lv) (br := (res lv false (q1.2.2.2 (xEnv N 0 0 dn lt))).2) (sf1 _ _ _ _).2.2.1 (x := 2) (y := 1) (by decide) (by decide) (d := d) (by omega) with s2 | s2
                  · rw [if_pos rfl] at s1
                    rw [if_neg (by decide), show A + (q1.1 + 1) - 1 = A + q1.1 by omega] at s2
                    have gS := GC_SF (GC_SF g1 0 (res lv false (q1.2.2.2 (xEnv N 0 0 dn lt))).1 (true && !(res lv false (q1.2.2.2 (xEnv N 0 0 dn lt))).2)) 1 (res lv false (q2.2.2.2 (xEnv N 0 0 dn lt))).1 ((true && !(res lv false (q1.2.2.2 (xEnv N 0 0 dn lt))).2) && !(res lv false (q2.2.2.2 (xEnv N 0 0 dn lt))).2)
                    have hstep : EC (d + 1) mM_goesAlong [.ref 58, .int (wI (A + n)), .int (bz (lv = true))] (mkM f z) = _ := stepQ
                    rw [if_neg (by rw [hck]; rcases hkd with rfl | rfl <;> decide), if_neg (by rw [hck]; rcases hkd with rfl | rfl <;> decide)] at hstep
                    refine fin _ _ 2 gS (by decide) (fun k hk => by rw [(sf1 _ _ _ _).1 k hk, (sf1 _ _ _ _).1 k hk]) (fun a h2 h3 => by rw [(sf1 _ _ _ _).2.1 a h2 h3, (sf1 _ _ _ _).2.1 a h2 h3]) (hstep.trans (s1.trans s2)) hck (fun e => ?_)
                    subst e
                    refine ⟨?_, fun a h2 h3 => ?_, fun a h2 h3 => ?_⟩
                    · rw [(sf1 _ _ _ _).2.2.1, res_s2]
                      congr 2
                      cases q1.2.2.2 (xEnv N 0 0 dn lt) <;> cases q2.2.2.2 (xEnv N 0 0 dn lt) <;> rfl
                    · rw [(sf1 _ _ _ _).2.2.2.2 0 (by decide), (sf1 _ _ _ _).2.2.2.1, h2]; rfl
                    · rw [(sf1 _ _ _ _).2.2.2.1, h2]; rfl
                  · omega
                · omega
            · cases ht2
        unfold pOrdH at e1
        by_cases c20 : cdN N A n t = 20
        · rw [if_pos c20] at e1
          have hk : h1.2.2.1 = 0 := pTwo_k e1
          exact two 12 0 c20 (Or.inl rfl) hk e1
        · rw [if_neg c20] at e1
          by_cases c21 : cdN N A n t = 21
          · rw [if_pos c21] at e1
            cases p1 : pSum true (cdN N A n) (vlN N A) 8 c (t + 1) l with
            | inl x => rw [p1] at e1; cases e1
            | inr q1 =>
              rw [p1] at e1
              cases e1
              obtain ⟨⟨o1, o2, o3, o4, o5⟩, o6, o7⟩ := ok_sum 8 _ _ _ _ p1
              dsimp only at a1 b1 c1 fin ⊢
              rcases goes_s hz g1 p1 (by omega) (lv := lv) (br := br) e47 (x := 1) (y := 0) (by decide) (by decide) (d := d) (by omega) with s1 | s1
              · rw [if_pos rfl] at s1
                have hstep : EC (d + 1) mM_goesAlong [.ref 58, .int (wI (A + n)), .int (bz (lv = true))] (mkM f z) = _ := stepQ
                rw [if_neg (by rw [c21]; decide), if_pos c21] at hstep
                refine fin _ _ 1 (GC_SF g1 0 _ _) (by decide) (fun k hk => (sf1 _ _ _ _).1 k hk) (fun a h2 h3 => (sf1 _ _ _ _).2.1 a h2 h3) (hstep.trans s1) c21 (fun e => ?_)
                subst e
                refine ⟨?_, fun a h2 h3 => ?_, fun a h2 h3 => by omega⟩
                · rw [(sf1 _ _ _ _).2.2.1, res_s2]
                  congr 2
                  cases q1.2.2.2 (xEnv N 0 0 dn lt) <;> rfl
                · rw [(sf1 _ _ _ _).2.2.2.1, h2]; rfl
              · omega
          · rw [if_neg c21] at e1
            by_cases c22 : cdN N A n t = 22
            · rw [if_pos c22] at e1
              have hk : h1.2.2.1 = 2 := pTwo_k e1
              exact two 23 2 c22 (Or.inr rfl) hk e1
            · rw [if_neg c22] at e1
              by_cases c24 : cdN N A n t = 24
              · rw [if_pos c24] at e1
                cases e1
                dsimp only at a1 b1 c1 fin ⊢
                rw [if_pos c24] at stepQ
                refine fin F1 br 0 g1 (by decide) (fun k _ => rfl) (fun a _ _ => rfl) stepQ c24 (fun e => ⟨e47, fun a h2 h3 => by omega, fun a h2 h3 => by omega⟩)
              · rw [if_neg c24] at e1
                cases e1
end
