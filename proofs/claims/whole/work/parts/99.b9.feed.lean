/-! ===== bytes of a number; feed ===== -/
def byB (x : Int32) (i : Nat) : Nat := if i = 0 then (x.toInt / 16777216 % 256).toNat else if i = 1 then (x.toInt / 65536 % 256).toNat else if i = 2 then (x.toInt / 256 % 256).toNat else (x.toInt % 256).toNat
theorem byB_lt (x : Int32) (i : Nat) : byB x i < 256 := by
  unfold byB
  split
  · omega
  · split
    · omega
    · split <;> omega
theorem by_X0 (x : Int32) (s : Nat) (hs : s < 32) (n : Nat) (h : x.toInt / 2 ^ s % 256 = n) (h2 : s ≤ 24) : (Int32.toUInt32 x >>> (UInt32.ofNat s)).toInt32 &&& wI 255 = wI n := by
  rw [← Int32.toBitVec_inj]
  apply BitVec.eq_of_toNat_eq
  have e1 : ((Int32.toUInt32 x >>> (UInt32.ofNat s)).toInt32 &&& wI 255).toBitVec = (x.toBitVec >>> (UInt32.ofNat s).toBitVec.umod 32#32) &&& 255#32 := rfl
  have e2 : (wI n).toBitVec = BitVec.ofNat 32 n := rfl
  have e3 : ((UInt32.ofNat s).toBitVec.umod 32#32).toNat = s := by
    show (BitVec.ofNat 32 s % 32#32).toNat = s
    rw [BitVec.toNat_umod, BitVec.toNat_ofNat, BitVec.toNat_ofNat, Nat.mod_eq_of_lt (a := s) (b := 2 ^ 32) (by omega)]
    exact Nat.mod_eq_of_lt hs
  rw [e1, e2, BitVec.toNat_and, BitVec.ushiftRight_eq', BitVec.toNat_ushiftRight, e3, Nat.shiftRight_eq_div_pow]
  rw [show (255#32 : BitVec 32).toNat = 2 ^ 8 - 1 from rfl, Nat.and_two_pow_sub_one_eq_mod, BitVec.toNat_ofNat]
  have hx : x.toInt = if 2 * x.toBitVec.toNat < 2 ^ 32 then (x.toBitVec.toNat : Int) else (x.toBitVec.toNat : Int) - (2 ^ 32 : Nat) := BitVec.toInt_eq_toNat_cond x.toBitVec
  have hl := x.toBitVec.isLt
  have key : ((x.toBitVec.toNat / 2 ^ s % 2 ^ 8 : Nat) : Int) = n := by
    rw [← h]
    have h8 : (2 : Int) ^ s * 2 ^ (32 - s) = 2 ^ 32 := by rw [← Int.pow_add]; congr 1; omega
    have h9 : (2 : Int) ^ (32 - s) = 256 * 2 ^ (24 - s) := by
      rw [show (256 : Int) = 2 ^ 8 from rfl, ← Int.pow_add]; congr 1; omega
    have hp : (0 : Int) < 2 ^ s := Int.pow_pos (by decide)
    rw [Int.natCast_emod, Int.natCast_ediv, Int.natCast_pow, Int.natCast_pow]
    show ((x.toBitVec.toNat : Int) / 2 ^ s) % 256 = _
    rw [hx]
    split
    · rfl
    · have e : (x.toBitVec.toNat : Int) - (2 ^ 32 : Nat) = (x.toBitVec.toNat : Int) + 2 ^ s * (-(256 * 2 ^ (24 - s))) := by
        rw [Int.mul_neg, ← h9, h8]; rfl
      rw [e, Int.add_mul_ediv_left _ _ (by omega), ← Int.mul_neg, Int.add_mul_emod_self_left]
  omega
theorem by_X (x : Int32) {i : Nat} (hi : i < 4) : (Int32.toUInt32 x >>> (Int32.toUInt32 (wI (24 - 8 * i)) &&& Int32.toUInt32 (wI 31))).toInt32 &&& wI 255 = wI (byB x i) := by
  have hb := byB_lt x i
  rcases (show i = 0 ∨ i = 1 ∨ i = 2 ∨ i = 3 by omega) with rfl | rfl | rfl | rfl
  · rw [show (Int32.toUInt32 (wI (24 - 8 * 0)) &&& Int32.toUInt32 (wI 31)) = UInt32.ofNat 24 from rfl]
    exact by_X0 x 24 (by decide) _ (by unfold byB; rw [if_pos rfl]; omega) (by decide)
  · rw [show (Int32.toUInt32 (wI (24 - 8 * 1)) &&& Int32.toUInt32 (wI 31)) = UInt32.ofNat 16 from rfl]
    exact by_X0 x 16 (by decide) _ (by unfold byB; rw [if_neg (by decide), if_pos rfl]; omega) (by decide)
  · rw [show (Int32.toUInt32 (wI (24 - 8 * 2)) &&& Int32.toUInt32 (wI 31)) = UInt32.ofNat 8 from rfl]
    exact by_X0 x 8 (by decide) _ (by unfold byB; rw [if_neg (by decide), if_neg (by decide), if_pos rfl]; omega) (by decide)
  · rw [show (Int32.toUInt32 (wI (24 - 8 * 3)) &&& Int32.toUInt32 (wI 31)) = UInt32.ofNat 0 from rfl]
    exact by_X0 x 0 (by decide) _ (by unfold byB; rw [if_neg (by decide), if_neg (by decide), if_neg (by decide)]; omega) (by decide)
theorem nar_b (v : Int32) : vp_nar .byte v = v.toInt8.toInt32 := rfl
theorem sgb_toInt {c : Nat} (h : c < 256) : (sgb c).toInt = if c < 128 then (c : Int) else (c : Int) - 256 := by
  by_cases e : c < 128
  · rw [if_pos e, sgb_lo e, wI_toInt (by omega)]
  · rw [if_neg e, sgb_hi e h]
theorem by_M0 (x : Int32) (s : Nat) (n : Nat) (hn : n < 256) (h : x.toInt / 2 ^ s % 256 = n) (y : Int32) (hy : (y.toBitVec.smod 32#32).toNat = s) : vp_nar .byte (x >>> y).toInt8.toInt32 = sgb n := by
  rw [← Int32.toInt_inj, nar_b, Int8.toInt_toInt32, Int32.toInt_toInt8, Int8.toInt_toInt32, Int32.toInt_toInt8, sgb_toInt hn]
  have e1 : (x >>> y).toInt = x.toInt / 2 ^ s := by
    show (x.toBitVec.sshiftRight' (y.toBitVec.smod 32#32)).toInt = _
    rw [BitVec.toInt_sshiftRight', hy, Int.shiftRight_eq_div_pow]
    rfl
  rw [e1, Int.bmod_bmod]
  generalize x.toInt / 2 ^ s = t at h
  rw [Int.bmod_def, show ((2 ^ 8 : Nat) : Int) = 256 from rfl]
  split <;> split <;> omega
theorem by_M (x : Int32) {i : Nat} (hi : i < 4) : vp_nar .byte (x >>> (wI (24 - 8 * i) &&& wI 31)).toInt8.toInt32 = sgb (byB x i) := by
  have hb := byB_lt x i
  rcases (show i = 0 ∨ i = 1 ∨ i = 2 ∨ i = 3 by omega) with rfl | rfl | rfl | rfl
  · exact by_M0 x 24 _ hb (by unfold byB; rw [if_pos rfl]; omega) _ (by decide)
  · exact by_M0 x 16 _ hb (by unfold byB; rw [if_neg (by decide), if_pos rfl]; omega) _ (by decide)
  · exact by_M0 x 8 _ hb (by unfold byB; rw [if_neg (by decide), if_neg (by decide), if_pos rfl]; omega) _ (by decide)
  · exact by_M0 x 0 _ hb (by unfold byB; rw [if_neg (by decide), if_neg (by decide), if_neg (by decide)]; omega) _ (by decide)
def putT (T : Nat → Nat) (n : Nat) (x : Int32) : Nat → Nat := fun k => if n ≤ k ∧ k < n + 4 then byB x (k - n) else T k
theorem putT_lt {T : Nat → Nat} {n : Nat} {x : Int32} (h : ∀ k, T k < 256) : ∀ k, putT T n x k < 256 := fun k => by
  unfold putT
  split
  · exact byB_lt _ _
  · exact h k
theorem putT_in {T : Nat → Nat} {n i : Nat} {x : Int32} (h : i < 4) : putT T n x (n + i) = byB x i := by
  unfold putT
  rw [if_pos (by omega), Nat.add_sub_cancel_left]
theorem putT_ne {T : Nat → Nat} {n k : Nat} {x : Int32} (h : k < n ∨ n + 4 ≤ k) : putT T n x k = T k := if_neg (by omega)
def feedT (T : Nat → Nat) (L : Nat) (a b c d e : Int32) : Nat → Nat := putT (putT (putT (putT (putT T L a) (L + 4) b) (L + 8) c) (L + 12) d) (L + 16) e
section
variable {z : Mem} {S : Nat} {xs : Nat → Int32} {f f' : Nat → Nat → Int32} {N N' : Nat → Nat} {U : US} {Z : Nat → Option (Nat → Nat)} {T : Nat → Nat} {L : Nat} {c : Nat → Int32} {d : Nat}
theorem t_put (hz : Sh z) {n : Nat} (hn : n + 4 ≤ 400) (h7 : f 0 7 = wI n) (h32 : ∀ k, k < n → f 32 k = wI (T k)) (x : Int32) {d : Nat} (hd : 1 ≤ d) :
    ∃ g, EC d mX_putBytes [.ref 0, .int x] (mkM f z) = some (none, mkM (up (up f 32 g) 0 (upd (f 0) 7 (wI (n + 4)))) z) ∧ ∀ k, k < n + 4 → g k = wI (putT T n x k) := by
  obtain ⟨d, rfl⟩ : ∃ e, d = e + 1 := ⟨d - 1, by omega⟩
  have b0 := by_X x (i := 0) (by decide)
  have b1 := by_X x (i := 1) (by decide)
  have b2 := by_X x (i := 2) (by decide)
  have b3 := by_X x (i := 3) (by decide)
  simp only [Nat.reduceMul, Nat.reduceSub] at b0 b1 b2 b3
  have l0 : (wI 24 < 0) = False := eq_false (by decide)
  have l1 : (wI 16 < 0) = False := eq_false (by decide)
  have l2 : (wI 8 < 0) = False := eq_false (by decide)
  have l3 : (wI 0 < 0) = False := eq_false (by decide)
  have l4 : (-(wI 8) < 0) = True := eq_true (by decide)
  have s1 : wI 24 + -(wI 8) = wI 16 := by decide
  have s2 : wI 16 + -(wI 8) = wI 8 := by decide
  have s3 : wI 8 + -(wI 8) = wI 0 := by decide
  have s4 : wI 0 + -(wI 8) = -(wI 8) := by decide
  refine ⟨upd (upd (upd (upd (f 32) n (wI (byB x 0))) (n + 1) (wI (byB x 1))) (n + 2) (wI (byB x 2))) (n + 3) (wI (byB x 3)), ?_, fun k hk => ?_⟩
  · rw [q_X_putBytes]
    simp -dsimp (disch := omega) only [↓c_0 hz, r_0_0 hz, r_0_1 hz, r_0_2 hz, v_0_3 hz, w_0_3 hz, p_0_3 hz, r_0_4 hz, r_0_5 hz, r_0_6 hz, g_0_7 hz, p_0_7 hz, r_0_8 hz, r_0_9 hz, r_0_10 hz, r_0_11 hz, r_0_12 hz, g_0_13 hz, p_0_13 hz, g_0_14 hz, p_0_14 hz, g_0_15 hz, p_0_15 hz, g_0_16 hz, p_0_16 hz, g_0_17 hz, p_0_17 hz, g_0_18 hz, p_0_18 hz, r_0_19 hz, ↓c_1 hz, g_1_0 hz, p_1_0 hz, r_1_1 hz, g_1_2 hz, p_1_2 hz, r_1_3 hz, r_1_4 hz, r_1_5 hz, r_1_6 hz, r_1_7 hz, r_1_8 hz, r_1_9 hz, g_1_10 hz, p_1_10 hz, r_1_11 hz, r_1_12 hz, r_1_13 hz, g_1_14 hz, p_1_14 hz, r_1_15 hz, g_1_16 hz, p_1_16 hz, l_2 hz, s_2 hz, n_2 hz, l_3 hz, s_3 hz, n_3 hz, l_4 hz, s_4 hz, n_4 hz, l_5 hz, s_5 hz, n_5 hz, l_6 hz, s_6 hz, n_6 hz, l_7 hz, s_7 hz, n_7 hz, l_8 hz, s_8 hz, n_8 hz, l_9 hz, s_9 hz, n_9 hz, l_10 hz, s_10 hz, n_10 hz, l_11 hz, s_11 hz, n_11 hz, l_12 hz, s_12 hz, n_12 hz, l_13 hz, ↓c_14 hz, g_14_0 hz, p_14_0 hz, r_14_1 hz, g_14_2 hz, p_14_2 hz, r_14_3 hz, r_14_4 hz, r_14_5 hz, r_14_6 hz, r_14_7 hz, r_14_8 hz, r_14_9 hz, g_14_10 hz, p_14_10 hz, r_14_11 hz, r_14_12 hz, r_14_13 hz, g_14_14 hz, p_14_14 hz, r_14_15 hz, g_14_16 hz, p_14_16 hz, l_15 hz, s_15 hz, n_15 hz, l_16 hz, s_16 hz, n_16 hz, l_17 hz, s_17 hz, n_17 hz, l_18 hz, s_18 hz, n_18 hz, l_19 hz, s_19 hz, n_19 hz, l_20 hz, s_20 hz, n_20 hz, l_21 hz, s_21 hz, n_21 hz, l_22 hz, s_22 hz, n_22 hz, l_23 hz, s_23 hz, n_23 hz, l_24 hz, s_24 hz, n_24 hz, l_25 hz, s_25 hz, n_25 hz, l_26 hz, l_27 hz, ↓c_28 hz, r_28_0 hz, g_28_1 hz, p_28_1 hz, g_28_2 hz, p_28_2 hz, l_29 hz, s_29 hz, n_29 hz, ↓c_30 hz, r_30_0 hz, g_30_1 hz, p_30_1 hz, g_30_2 hz, p_30_2 hz, l_31 hz, s_31 hz, n_31 hz, l_32 hz, s_32 hz, n_32 hz, ↓c_33 hz, r_33_0 hz, v_33_1 hz, w_33_1 hz, p_33_1 hz, g_33_2 hz, p_33_2 hz, g_33_3 hz, p_33_3 hz, g_33_4 hz, p_33_4 hz, g_33_5 hz, p_33_5 hz, g_33_6 hz, p_33_6 hz, g_33_7 hz, p_33_7 hz, g_33_8 hz, p_33_8 hz, g_33_9 hz, p_33_9 hz, ↓c_34 hz, g_34_0 hz, p_34_0 hz, g_34_1 hz, p_34_1 hz, r_34_2 hz, r_34_3 hz, l_35 hz, s_35 hz, n_35 hz, l_36 hz, s_36 hz, n_36 hz, ↓c_38 hz, r_38_0 hz, v_38_1 hz, w_38_1 hz, p_38_1 hz, g_38_2 hz, p_38_2 hz, g_38_3 hz, p_38_3 hz, g_38_4 hz, p_38_4 hz, g_38_5 hz, p_38_5 hz, l_39 hz, s_39 hz, n_39 hz, ↓c_40 hz, r_40_0 hz, r_40_1 hz, r_40_2 hz, r_40_3 hz, g_40_4 hz, p_40_4 hz, l_41 hz, s_41 hz, n_41 hz, l_42 hz, s_42 hz, n_42 hz, l_43 hz, s_43 hz, n_43 hz, l_44 hz, s_44 hz, n_44 hz, ↓c_45 hz, r_45_0 hz, r_45_1 hz, r_45_2 hz, r_45_3 hz, r_45_4 hz, g_45_5 hz, p_45_5 hz, l_46 hz, s_46 hz, n_46 hz, l_47 hz, s_47 hz, n_47 hz, l_48 hz, s_48 hz, n_48 hz, l_49 hz, s_49 hz, n_49 hz, l_50 hz, s_50 hz, n_50 hz, ↓c_51 hz, r_51_0 hz, r_51_1 hz, r_51_2 hz, r_51_3 hz, r_51_4 hz, g_51_5 hz, p_51_5 hz, g_51_6 hz, p_51_6 hz, l_52 hz, s_52 hz, n_52 hz, l_53 hz, s_53 hz, n_53 hz, l_54 hz, s_54 hz, n_54 hz, l_55 hz, s_55 hz, n_55 hz, l_56 hz, s_56 hz, n_56 hz, l_57 hz, s_57 hz, n_57 hz, hO_s, hI_s, hL_s, hQ_s, hQ_n, hR_s, hV_s, hN_n, hN_s, cond_true, lI_0, lI_1, sI_0, sI_1, lL_0, lL_1, ↓reduceIte, not_true_eq_false, not_false_eq_true, Nat.reduceEqDiff, Nat.reduceAdd, Nat.reduceMul, Nat.reduceSub, Nat.reduceLeDiff, Nat.reduceLT, li_2, li_3, li_4, li_5, li_6, li_7, li_8, li_9, li_10, li_11, li_12, li_13, li_14, li_15, li_16, li_17, li_18, li_19, li_20, li_21, li_22, li_23, li_24, li_25, li_26, li_27, li_28, li_29, li_30, li_31, li_32, li_33, li_34, li_35, li_36, li_37, li_38, li_39, li_40, li_41, li_42, li_43, li_44, li_45, li_46, li_47, li_48, li_49, li_50, li_51, li_52, li_53, li_54, li_55, li_56, li_57, li_58, li_59, li_60, li_61, li_62, li_63, li_64, li_65, li_66, li_67, li_68, li_69, li_70, li_71, li_72, li_73, li_74, li_75, li_76, li_77, li_78, li_79, li_80, li_81, li_82, li_83, li_84, li_85, li_86, li_87, li_88, li_89, li_90, li_91, li_92, li_93, li_94, li_95, li_96, li_97, li_98, li_99, li_100, li_101, li_102, li_103, li_104, li_105, li_106, li_107, li_108, li_109, li_110, li_111, li_112, li_113, li_114, li_115, li_116, li_117, li_118, li_119, li_120, li_121, li_122, li_255, li_400, li_608, li_998, li_999, li_1000, li_1024, li_1103, li_2400, li_2911, li_4095, li_4096, li_5711, li_9999, li_12345, li_1000000, li_1000003, li_252645135, li_858993459, li_1431655765, wI_add, wI_mul, wI_add1, wI_1add, q_X_putBytes_3, l0, l1, l2, l3, l4, s1, s2, s3, s4, h7, wI_le, eq_false (show ¬ 400 ≤ n by omega), eq_false (show ¬ 400 ≤ n + 1 by omega), eq_false (show ¬ 400 ≤ n + 1 + 1 by omega), eq_false (show ¬ 400 ≤ n + 1 + 1 + 1 by omega), up_eq, up_ne, up_up, upd_eq, upd_upd, b0, b1, b2, b3, Nat.add_assoc]
    congr 3
    funext a
    unfold up
    by_cases e1 : a = 0 <;> by_cases e2 : a = 32 <;> simp [e1, e2]
  · by_cases e0 : k < n
    · simp (disch := omega) only [upd_ne]
      rw [putT_ne (Or.inl e0)]
      exact h32 k e0
    · rcases (show k = n ∨ k = n + 1 ∨ k = n + 2 ∨ k = n + 3 by omega) with rfl | rfl | rfl | rfl
      · simp (disch := omega) only [upd_ne, upd_eq]
        rw [← putT_in (T := T) (n := k) (i := 0) (by decide)]; rfl
      · simp (disch := omega) only [upd_ne, upd_eq]
        rw [putT_in (by decide)]
      · simp (disch := omega) only [upd_ne, upd_eq]
        rw [putT_in (by decide)]
      · simp (disch := omega) only [upd_ne, upd_eq]
        rw [putT_in (by decide)]
theorem TP_put (h : IY S xs f z N U Z T L c) (hn : L + 4 ≤ 400) (x : Int32) {d : Nat} (hd : 1 ≤ d) : ∃ f', EC d mX_putBytes [.ref 0, .int x] (mkM f z) = some (none, mkM f' z) ∧ IY S xs f' z N U Z (putT T L x) (L + 4) c ∧ QX f f' ∧ CQ f f' := by
  obtain ⟨t1, t2, t3, t4⟩ := h.2.2.2.2.2.2.2.1
  obtain ⟨g, i1, i2⟩ := t_put h.1 hn t1 t4 x hd
  have hs : ∀ a, a ≠ 0 → a ≠ 32 → up (up f 32 g) 0 (upd (f 0) 7 (wI (L + 4))) a = f a := fun a h1 h2 => by rw [up_ne _ _ _ h1, up_ne _ _ _ h2]
  have h0 : ∀ k, k ≠ 7 → up (up f 32 g) 0 (upd (f 0) 7 (wI (L + 4))) 0 k = f 0 k := fun k hk => by rw [up_eq, upd_ne _ _ _ hk]
  obtain ⟨a1, a2, a3, a4, a5, a6, a7, a8, a9⟩ := h
  refine ⟨_, i1, ⟨a1, a2, KH_lo a3 (fun a ha => hs a (by omega) (by omega)), RI_c a4 (hs 38 (by decide) (by decide)), UX_c a5 (hs 28 (by decide) (by decide)) (hs 29 (by decide) (by decide)) (fun _ _ => rfl), a6, IG_ZX a2 (ZX_rf z) a7 (fun a _ ha => hs a (by omega) (by omega)) (hs 27 (by decide) (by decide)) (h0 3 (by decide)), ⟨by rw [up_eq, upd_eq], hn, putT_lt t3, fun k hk => by rw [up_ne _ _ _ (by decide), up_eq]; exact i2 k hk⟩, ?_⟩, fun a ha => hs a (by omega) (by omega), h0 _ (by decide), h0 _ (by decide), hs _ (by decide) (by decide)⟩
  unfold CX
  rw [h0 18 (by decide), h0 15 (by decide), h0 16 (by decide), h0 17 (by decide), hs 57 (by decide) (by decide)]
  exact a9
theorem feed_55 (hz : Sh z) {F : Nat → Nat → Int32} (hL : L + 20 ≤ 400) (h13 : F 58 13 = wI L) {d : Nat} : ∀ (m k : Nat) (g : Nat → Int32), k + m = 20 →
    ∃ g', Ev (d + 1) mM_feed 55 [(0, .ref 58), (6, .int (wI k))] [] (mkM (up F 65 g) z) = some (some (.int (wI (L + 20))), mkM (up (up F 65 g') 58 (upd (F 58) 13 (wI (L + 20)))) z) ∧ (∀ j, j < L + k → g' j = g j) ∧ ∀ j, k ≤ j → j < 20 → g' (L + j) = sgb (byB (F 66 (j / 4)) (j % 4)) := by
  intro m
  induction m with
  | zero =>
    intro k g hk
    obtain rfl : k = 20 := by omega
    refine ⟨g, ?_, fun _ _ => rfl, fun j h1 h2 => by omega⟩
    rw [q_M_feed_55]
    simp -dsimp (disch := omega) only [↓c_58 hz, g_58_0 hz, p_58_0 hz, r_58_1 hz, r_58_2 hz, r_58_3 hz, r_58_4 hz, r_58_5 hz, g_58_6 hz, p_58_6 hz, r_58_7 hz, g_58_8 hz, p_58_8 hz, g_58_9 hz, p_58_9 hz, g_58_10 hz, p_58_10 hz, r_58_11 hz, r_58_12 hz, g_58_13 hz, p_58_13 hz, g_58_14 hz, p_58_14 hz, r_58_15 hz, r_58_16 hz, r_58_17 hz, g_58_18 hz, p_58_18 hz, g_58_19 hz, p_58_19 hz, g_58_20 hz, p_58_20 hz, g_58_21 hz, p_58_21 hz, g_58_22 hz, p_58_22 hz, g_58_23 hz, p_58_23 hz, g_58_24 hz, p_58_24 hz, g_58_25 hz, p_58_25 hz, r_58_26 hz, g_58_27 hz, p_58_27 hz, g_58_28 hz, p_58_28 hz, r_58_29 hz, r_58_30 hz, g_58_31 hz, p_58_31 hz, r_58_32 hz, r_58_33 hz, r_58_34 hz, r_58_35 hz, r_58_36 hz, r_58_37 hz, g_58_38 hz, p_58_38 hz, r_58_39 hz, r_58_40 hz, r_58_41 hz, g_58_42 hz, p_58_42 hz, g_58_43 hz, p_58_43 hz, g_58_44 hz, p_58_44 hz, g_58_45 hz, p_58_45 hz, g_58_46 hz, p_58_46 hz, g_58_47 hz, p_58_47 hz, g_58_48 hz, p_58_48 hz, r_58_49 hz, r_58_50 hz, r_58_51 hz, r_58_52 hz, g_58_53 hz, p_58_53 hz, g_58_54 hz, p_58_54 hz, g_58_55 hz, p_58_55 hz, l_59 hz, s_59 hz, n_59 hz, l_60 hz, s_60 hz, n_60 hz, l_61 hz, s_61 hz, n_61 hz, l_62 hz, s_62 hz, n_62 hz, l_63 hz, s_63 hz, n_63 hz, l_64 hz, s_64 hz, n_64 hz, l_65 hz, s_65 hz, n_65 hz, l_66 hz, s_66 hz, n_66 hz, l_67 hz, s_67 hz, n_67 hz, l_68 hz, s_68 hz, n_68 hz, l_69 hz, s_69 hz, n_69 hz, l_70 hz, s_70 hz, n_70 hz, l_71 hz, s_71 hz, n_71 hz, l_72 hz, s_72 hz, n_72 hz, l_73 hz, s_73 hz, n_73 hz, l_74 hz, s_74 hz, n_74 hz, l_75 hz, s_75 hz, n_75 hz, l_76 hz, s_76 hz, n_76 hz, l_77 hz, s_77 hz, n_77 hz, l_78 hz, s_78 hz, n_78 hz, l_79 hz, s_79 hz, n_79 hz, l_80 hz, s_80 hz, n_80 hz, l_81 hz, s_81 hz, n_81 hz, l_82 hz, s_82 hz, l_83 hz, s_83 hz, n_83 hz, l_84 hz, s_84 hz, n_84 hz, l_85 hz, s_85 hz, n_85 hz, hO_s, hI_s, hL_s, hQ_s, hQ_n, hR_s, hV_s, hN_n, hN_s, cond_true, lI_0, lI_1, sI_0, sI_1, lL_0, lL_1, ↓reduceIte, not_true_eq_false, not_false_eq_true, Nat.reduceEqDiff, Nat.reduceAdd, Nat.reduceMul, Nat.reduceSub, Nat.reduceLeDiff, Nat.reduceLT, li_2, li_3, li_4, li_5, li_6, li_7, li_8, li_9, li_10, li_11, li_12, li_13, li_14, li_15, li_16, li_17, li_18, li_19, li_20, li_21, li_22, li_23, li_24, li_25, li_26, li_27, li_28, li_29, li_30, li_31, li_32, li_33, li_34, li_35, li_36, li_37, li_38, li_39, li_40, li_41, li_42, li_43, li_44, li_45, li_46, li_47, li_48, li_49, li_50, li_51, li_52, li_53, li_54, li_55, li_56, li_57, li_58, li_59, li_60, li_61, li_62, li_63, li_64, li_65, li_66, li_67, li_68, li_69, li_70, li_71, li_72, li_73, li_74, li_75, li_76, li_77, li_78, li_79, li_80, li_81, li_82, li_83, li_84, li_85, li_86, li_87, li_88, li_89, li_90, li_91, li_92, li_93, li_94, li_95, li_96, li_97, li_98, li_99, li_100, li_101, li_102, li_103, li_104, li_105, li_106, li_107, li_108, li_109, li_110, li_111, li_112, li_113, li_114, li_115, li_116, li_117, li_118, li_119, li_120, li_121, li_122, li_255, li_400, li_608, li_998, li_999, li_1000, li_1024, li_1103, li_2400, li_2911, li_4095, li_4096, li_5711, li_9999, li_12345, li_1000000, li_1000003, li_252645135, li_858993459, li_1431655765, wI_add, wI_mul, wI_add1, wI_1add, wI_le, up_ne, up_eq, upd_eq, h13]
  | succ m ih =>
    intro k g hk
    obtain ⟨g', i1, i2, i3⟩ := ih (k + 1) (upd g (L + k) (sgb (byB (F 66 (k / 4)) (k % 4)))) (by omega)
    have e4 : ((wI 4 : Int32) = 0) = False := eq_false (by decide)
    have ed : wI k / wI 4 = wI (k / 4) := wI_div (by omega) (by decide)
    have er : wI k - wI (k / 4 * 4) = wI (k % 4) := by rw [wI_sub (by omega)]; congr 1; omega
    have hb := by_M (F 66 (k / 4)) (i := k % 4) (by omega)
    have es : wI 24 - wI (8 * (k % 4)) = wI (24 - 8 * (k % 4)) := wI_sub (by omega)
    refine ⟨g', ?_, fun j hj => ?_, fun j h1 h2 => ?_⟩
    · rw [q_M_feed_55]
      simp -dsimp (disch := omega) only [↓c_58 hz, g_58_0 hz, p_58_0 hz, r_58_1 hz, r_58_2 hz, r_58_3 hz, r_58_4 hz, r_58_5 hz, g_58_6 hz, p_58_6 hz, r_58_7 hz, g_58_8 hz, p_58_8 hz, g_58_9 hz, p_58_9 hz, g_58_10 hz, p_58_10 hz, r_58_11 hz, r_58_12 hz, g_58_13 hz, p_58_13 hz, g_58_14 hz, p_58_14 hz, r_58_15 hz, r_58_16 hz, r_58_17 hz, g_58_18 hz, p_58_18 hz, g_58_19 hz, p_58_19 hz, g_58_20 hz, p_58_20 hz, g_58_21 hz, p_58_21 hz, g_58_22 hz, p_58_22 hz, g_58_23 hz, p_58_23 hz, g_58_24 hz, p_58_24 hz, g_58_25 hz, p_58_25 hz, r_58_26 hz, g_58_27 hz, p_58_27 hz, g_58_28 hz, p_58_28 hz, r_58_29 hz, r_58_30 hz, g_58_31 hz, p_58_31 hz, r_58_32 hz, r_58_33 hz, r_58_34 hz, r_58_35 hz, r_58_36 hz, r_58_37 hz, g_58_38 hz, p_58_38 hz, r_58_39 hz, r_58_40 hz, r_58_41 hz, g_58_42 hz, p_58_42 hz, g_58_43 hz, p_58_43 hz, g_58_44 hz, p_58_44 hz, g_58_45 hz, p_58_45 hz, g_58_46 hz, p_58_46 hz, g_58_47 hz, p_58_47 hz, g_58_48 hz, p_58_48 hz, r_58_49 hz, r_58_50 hz, r_58_51 hz, r_58_52 hz, g_58_53 hz, p_58_53 hz, g_58_54 hz, p_58_54 hz, g_58_55 hz, p_58_55 hz, l_59 hz, s_59 hz, n_59 hz, l_60 hz, s_60 hz, n_60 hz, l_61 hz, s_61 hz, n_61 hz, l_62 hz, s_62 hz, n_62 hz, l_63 hz, s_63 hz, n_63 hz, l_64 hz, s_64 hz, n_64 hz, l_65 hz, s_65 hz, n_65 hz, l_66 hz, s_66 hz, n_66 hz, l_67 hz, s_67 hz, n_67 hz, l_68 hz, s_68 hz, n_68 hz, l_69 hz, s_69 hz, n_69 hz, l_70 hz, s_70 hz, n_70 hz, l_71 hz, s_71 hz, n_71 hz, l_72 hz, s_72 hz, n_72 hz, l_73 hz, s_73 hz, n_73 hz, l_74 hz, s_74 hz, n_74 hz, l_75 hz, s_75 hz, n_75 hz, l_76 hz, s_76 hz, n_76 hz, l_77 hz, s_77 hz, n_77 hz, l_78 hz, s_78 hz, n_78 hz, l_79 hz, s_79 hz, n_79 hz, l_80 hz, s_80 hz, n_80 hz, l_81 hz, s_81 hz, n_81 hz, l_82 hz, s_82 hz, l_83 hz, s_83 hz, n_83 hz, l_84 hz, s_84 hz, n_84 hz, l_85 hz, s_85 hz, n_85 hz, hO_s, hI_s, hL_s, hQ_s, hQ_n, hR_s, hV_s, hN_n, hN_s, cond_true, lI_0, lI_1, sI_0, sI_1, lL_0, lL_1, ↓reduceIte, not_true_eq_false, not_false_eq_true, Nat.reduceEqDiff, Nat.reduceAdd, Nat.reduceMul, Nat.reduceSub, Nat.reduceLeDiff, Nat.reduceLT, li_2, li_3, li_4, li_5, li_6, li_7, li_8, li_9, li_10, li_11, li_12, li_13, li_14, li_15, li_16, li_17, li_18, li_19, li_20, li_21, li_22, li_23, li_24, li_25, li_26, li_27, li_28, li_29, li_30, li_31, li_32, li_33, li_34, li_35, li_36, li_37, li_38, li_39, li_40, li_41, li_42, li_43, li_44, li_45, li_46, li_47, li_48, li_49, li_50, li_51, li_52, li_53, li_54, li_55, li_56, li_57, li_58, li_59, li_60, li_61, li_62, li_63, li_64, li_65, li_66, li_67, li_68, li_69, li_70, li_71, li_72, li_73, li_74, li_75, li_76, li_77, li_78, li_79, li_80, li_81, li_82, li_83, li_84, li_85, li_86, li_87, li_88, li_89, li_90, li_91, li_92, li_93, li_94, li_95, li_96, li_97, li_98, li_99, li_100, li_101, li_102, li_103, li_104, li_105, li_106, li_107, li_108, li_109, li_110, li_111, li_112, li_113, li_114, li_115, li_116, li_117, li_118, li_119, li_120, li_121, li_122, li_255, li_400, li_608, li_998, li_999, li_1000, li_1024, li_1103, li_2400, li_2911, li_4095, li_4096, li_5711, li_9999, li_12345, li_1000000, li_1000003, li_252645135, li_858993459, li_1431655765, wI_add, wI_mul, wI_add1, wI_1add, wI_le, eq_false (show ¬ 20 ≤ k by omega), up_ne, up_eq, up_up, h13, e4, ed, er, es, hb, i1]
    · rw [i2 j (by omega), upd_ne _ _ _ (by omega)]
    · by_cases e : j = k
      · subst e
        rw [i2 _ (by omega), upd_eq]
      · exact i3 j (by omega) h2
theorem s_feed (h : IY S xs f z N U Z T L c) (hM : IM f N U Z T L c) (hd : 100 ≤ d) (x0 x1 x2 x3 x4 : Int32) : STP S xs d mX_feed mM_feed [.int x0, .int x1, .int x2, .int x3, .int x4] f z N := by
  obtain ⟨d, rfl⟩ : ∃ e, d = e + 1 := ⟨d - 1, by omega⟩
  have hz := h.1
  obtain ⟨t1, t2, t3, t4⟩ := h.2.2.2.2.2.2.2.1
  by_cases hL : L + 20 ≤ 400
  · refine stp_z (N' := N) (U' := U) (Z' := Z) (T' := feedT T L x0 x1 x2 x3 x4) (L' := L + 20) (c' := c) (r := wI (L + 20)) hM ?_ (fun g hz hg => ?_)
    · obtain ⟨f1, i1, j1, k1, l1⟩ := TP_put h (by omega) x0 (d := d) (by omega)
      obtain ⟨f2, i2, j2, k2, l2⟩ := TP_put j1 (by omega) x1 (d := d) (by omega)
      obtain ⟨f3, i3, j3, k3, l3⟩ := TP_put j2 (by omega) x2 (d := d) (by omega)
      obtain ⟨f4, i4, j4, k4, l4⟩ := TP_put j3 (by omega) x3 (d := d) (by omega)
      obtain ⟨f5, i5, j5, k5, l5⟩ := TP_put j4 (by omega) x4 (d := d) (by omega)
      have e7 := j5.2.2.2.2.2.2.2.1.1
      refine ⟨f5, ?_, j5, (((k1.tr k2).tr k3).tr k4).tr k5, Or.inr ⟨rfl, (((l1.tr l2).tr l3).tr l4).tr l5⟩⟩
      rw [q_X_feed]
      simp -dsimp (disch := omega) only [↓c_0 hz, r_0_0 hz, r_0_1 hz, r_0_2 hz, v_0_3 hz, w_0_3 hz, p_0_3 hz, r_0_4 hz, r_0_5 hz, r_0_6 hz, g_0_7 hz, p_0_7 hz, r_0_8 hz, r_0_9 hz, r_0_10 hz, r_0_11 hz, r_0_12 hz, g_0_13 hz, p_0_13 hz, g_0_14 hz, p_0_14 hz, g_0_15 hz, p_0_15 hz, g_0_16 hz, p_0_16 hz, g_0_17 hz, p_0_17 hz, g_0_18 hz, p_0_18 hz, r_0_19 hz, ↓c_1 hz, g_1_0 hz, p_1_0 hz, r_1_1 hz, g_1_2 hz, p_1_2 hz, r_1_3 hz, r_1_4 hz, r_1_5 hz, r_1_6 hz, r_1_7 hz, r_1_8 hz, r_1_9 hz, g_1_10 hz, p_1_10 hz, r_1_11 hz, r_1_12 hz, r_1_13 hz, g_1_14 hz, p_1_14 hz, r_1_15 hz, g_1_16 hz, p_1_16 hz, l_2 hz, s_2 hz, n_2 hz, l_3 hz, s_3 hz, n_3 hz, l_4 hz, s_4 hz, n_4 hz, l_5 hz, s_5 hz, n_5 hz, l_6 hz, s_6 hz, n_6 hz, l_7 hz, s_7 hz, n_7 hz, l_8 hz, s_8 hz, n_8 hz, l_9 hz, s_9 hz, n_9 hz, l_10 hz, s_10 hz, n_10 hz, l_11 hz, s_11 hz, n_11 hz, l_12 hz, s_12 hz, n_12 hz, l_13 hz, ↓c_14 hz, g_14_0 hz, p_14_0 hz, r_14_1 hz, g_14_2 hz, p_14_2 hz, r_14_3 hz, r_14_4 hz, r_14_5 hz, r_14_6 hz, r_14_7 hz, r_14_8 hz, r_14_9 hz, g_14_10 hz, p_14_10 hz, r_14_11 hz, r_14_12 hz, r_14_13 hz, g_14_14 hz, p_14_14 hz, r_14_15 hz, g_14_16 hz, p_14_16 hz, l_15 hz, s_15 hz, n_15 hz, l_16 hz, s_16 hz, n_16 hz, l_17 hz, s_17 hz, n_17 hz, l_18 hz, s_18 hz, n_18 hz, l_19 hz, s_19 hz, n_19 hz, l_20 hz, s_20 hz, n_20 hz, l_21 hz, s_21 hz, n_21 hz, l_22 hz, s_22 hz, n_22 hz, l_23 hz, s_23 hz, n_23 hz, l_24 hz, s_24 hz, n_24 hz, l_25 hz, s_25 hz, n_25 hz, l_26 hz, l_27 hz, ↓c_28 hz, r_28_0 hz, g_28_1 hz, p_28_1 hz, g_28_2 hz, p_28_2 hz, l_29 hz, s_29 hz, n_29 hz, ↓c_30 hz, r_30_0 hz, g_30_1 hz, p_30_1 hz, g_30_2 hz, p_30_2 hz, l_31 hz, s_31 hz, n_31 hz, l_32 hz, s_32 hz, n_32 hz, ↓c_33 hz, r_33_0 hz, v_33_1 hz, w_33_1 hz, p_33_1 hz, g_33_2 hz, p_33_2 hz, g_33_3 hz, p_33_3 hz, g_33_4 hz, p_33_4 hz, g_33_5 hz, p_33_5 hz, g_33_6 hz, p_33_6 hz, g_33_7 hz, p_33_7 hz, g_33_8 hz, p_33_8 hz, g_33_9 hz, p_33_9 hz, ↓c_34 hz, g_34_0 hz, p_34_0 hz, g_34_1 hz, p_34_1 hz, r_34_2 hz, r_34_3 hz, l_35 hz, s_35 hz, n_35 hz, l_36 hz, s_36 hz, n_36 hz, ↓c_38 hz, r_38_0 hz, v_38_1 hz, w_38_1 hz, p_38_1 hz, g_38_2 hz, p_38_2 hz, g_38_3 hz, p_38_3 hz, g_38_4 hz, p_38_4 hz, g_38_5 hz, p_38_5 hz, l_39 hz, s_39 hz, n_39 hz, ↓c_40 hz, r_40_0 hz, r_40_1 hz, r_40_2 hz, r_40_3 hz, g_40_4 hz, p_40_4 hz, l_41 hz, s_41 hz, n_41 hz, l_42 hz, s_42 hz, n_42 hz, l_43 hz, s_43 hz, n_43 hz, l_44 hz, s_44 hz, n_44 hz, ↓c_45 hz, r_45_0 hz, r_45_1 hz, r_45_2 hz, r_45_3 hz, r_45_4 hz, g_45_5 hz, p_45_5 hz, l_46 hz, s_46 hz, n_46 hz, l_47 hz, s_47 hz, n_47 hz, l_48 hz, s_48 hz, n_48 hz, l_49 hz, s_49 hz, n_49 hz, l_50 hz, s_50 hz, n_50 hz, ↓c_51 hz, r_51_0 hz, r_51_1 hz, r_51_2 hz, r_51_3 hz, r_51_4 hz, g_51_5 hz, p_51_5 hz, g_51_6 hz, p_51_6 hz, l_52 hz, s_52 hz, n_52 hz, l_53 hz, s_53 hz, n_53 hz, l_54 hz, s_54 hz, n_54 hz, l_55 hz, s_55 hz, n_55 hz, l_56 hz, s_56 hz, n_56 hz, l_57 hz, s_57 hz, n_57 hz, hO_s, hI_s, hL_s, hQ_s, hQ_n, hR_s, hV_s, hN_n, hN_s, cond_true, lI_0, lI_1, sI_0, sI_1, lL_0, lL_1, ↓reduceIte, not_true_eq_false, not_false_eq_true, Nat.reduceEqDiff, Nat.reduceAdd, Nat.reduceMul, Nat.reduceSub, Nat.reduceLeDiff, Nat.reduceLT, li_2, li_3, li_4, li_5, li_6, li_7, li_8, li_9, li_10, li_11, li_12, li_13, li_14, li_15, li_16, li_17, li_18, li_19, li_20, li_21, li_22, li_23, li_24, li_25, li_26, li_27, li_28, li_29, li_30, li_31, li_32, li_33, li_34, li_35, li_36, li_37, li_38, li_39, li_40, li_41, li_42, li_43, li_44, li_45, li_46, li_47, li_48, li_49, li_50, li_51, li_52, li_53, li_54, li_55, li_56, li_57, li_58, li_59, li_60, li_61, li_62, li_63, li_64, li_65, li_66, li_67, li_68, li_69, li_70, li_71, li_72, li_73, li_74, li_75, li_76, li_77, li_78, li_79, li_80, li_81, li_82, li_83, li_84, li_85, li_86, li_87, li_88, li_89, li_90, li_91, li_92, li_93, li_94, li_95, li_96, li_97, li_98, li_99, li_100, li_101, li_102, li_103, li_104, li_105, li_106, li_107, li_108, li_109, li_110, li_111, li_112, li_113, li_114, li_115, li_116, li_117, li_118, li_119, li_120, li_121, li_122, li_255, li_400, li_608, li_998, li_999, li_1000, li_1024, li_1103, li_2400, li_2911, li_4095, li_4096, li_5711, li_9999, li_12345, li_1000000, li_1000003, li_252645135, li_858993459, li_1431655765, wI_add, wI_mul, wI_add1, wI_1add, t1, wI_le, eq_true hL, i1, i2, i3, i4, i5, e7]
    · obtain ⟨b5, b6⟩ := hg.2.2.2.2.1
      obtain ⟨g2, i1, i2, i3⟩ := feed_55 (F := up g 66 (upd (upd (upd (upd (upd (g 66) 0 x0) 1 x1) 2 x2) 3 x3) 4 x4)) hz hL (by rw [up_ne _ _ _ (by decide)]; exact b5) (d := d) 20 0 (g 65) rfl
      have e65 : up (up g 66 (upd (upd (upd (upd (upd (g 66) 0 x0) 1 x1) 2 x2) 3 x3) 4 x4)) 65 (g 65) = up g 66 (upd (upd (upd (upd (upd (g 66) 0 x0) 1 x1) 2 x2) 3 x3) 4 x4) := by
        have : up g 66 (upd (upd (upd (upd (upd (g 66) 0 x0) 1 x1) 2 x2) 3 x3) 4 x4) 65 = g 65 := up_ne _ _ _ (by decide)
        rw [← this, up_same]
      rw [e65, up_ne _ _ _ (by decide), show wI 0 = (0 : Int32) from rfl] at i1
      refine ⟨up (up (up g 66 (upd (upd (upd (upd (upd (g 66) 0 x0) 1 x1) 2 x2) 3 x3) 4 x4)) 65 g2) 58 (upd (g 58) 13 (wI (L + 20))), ?_, ?_, fun a ha => ?_⟩
      · rw [q_M_feed]
        simp -dsimp (disch := omega) only [↓c_58 hz, g_58_0 hz, p_58_0 hz, r_58_1 hz, r_58_2 hz, r_58_3 hz, r_58_4 hz, r_58_5 hz, g_58_6 hz, p_58_6 hz, r_58_7 hz, g_58_8 hz, p_58_8 hz, g_58_9 hz, p_58_9 hz, g_58_10 hz, p_58_10 hz, r_58_11 hz, r_58_12 hz, g_58_13 hz, p_58_13 hz, g_58_14 hz, p_58_14 hz, r_58_15 hz, r_58_16 hz, r_58_17 hz, g_58_18 hz, p_58_18 hz, g_58_19 hz, p_58_19 hz, g_58_20 hz, p_58_20 hz, g_58_21 hz, p_58_21 hz, g_58_22 hz, p_58_22 hz, g_58_23 hz, p_58_23 hz, g_58_24 hz, p_58_24 hz, g_58_25 hz, p_58_25 hz, r_58_26 hz, g_58_27 hz, p_58_27 hz, g_58_28 hz, p_58_28 hz, r_58_29 hz, r_58_30 hz, g_58_31 hz, p_58_31 hz, r_58_32 hz, r_58_33 hz, r_58_34 hz, r_58_35 hz, r_58_36 hz, r_58_37 hz, g_58_38 hz, p_58_38 hz, r_58_39 hz, r_58_40 hz, r_58_41 hz, g_58_42 hz, p_58_42 hz, g_58_43 hz, p_58_43 hz, g_58_44 hz, p_58_44 hz, g_58_45 hz, p_58_45 hz, g_58_46 hz, p_58_46 hz, g_58_47 hz, p_58_47 hz, g_58_48 hz, p_58_48 hz, r_58_49 hz, r_58_50 hz, r_58_51 hz, r_58_52 hz, g_58_53 hz, p_58_53 hz, g_58_54 hz, p_58_54 hz, g_58_55 hz, p_58_55 hz, l_59 hz, s_59 hz, n_59 hz, l_60 hz, s_60 hz, n_60 hz, l_61 hz, s_61 hz, n_61 hz, l_62 hz, s_62 hz, n_62 hz, l_63 hz, s_63 hz, n_63 hz, l_64 hz, s_64 hz, n_64 hz, l_65 hz, s_65 hz, n_65 hz, l_66 hz, s_66 hz, n_66 hz, l_67 hz, s_67 hz, n_67 hz, l_68 hz, s_68 hz, n_68 hz, l_69 hz, s_69 hz, n_69 hz, l_70 hz, s_70 hz, n_70 hz, l_71 hz, s_71 hz, n_71 hz, l_72 hz, s_72 hz, n_72 hz, l_73 hz, s_73 hz, n_73 hz, l_74 hz, s_74 hz, n_74 hz, l_75 hz, s_75 hz, n_75 hz, l_76 hz, s_76 hz, n_76 hz, l_77 hz, s_77 hz, n_77 hz, l_78 hz, s_78 hz, n_78 hz, l_79 hz, s_79 hz, n_79 hz, l_80 hz, s_80 hz, n_80 hz, l_81 hz, s_81 hz, n_81 hz, l_82 hz, s_82 hz, l_83 hz, s_83 hz, n_83 hz, l_84 hz, s_84 hz, n_84 hz, l_85 hz, s_85 hz, n_85 hz, hO_s, hI_s, hL_s, hQ_s, hQ_n, hR_s, hV_s, hN_n, hN_s, cond_true, lI_0, lI_1, sI_0, sI_1, lL_0, lL_1, ↓reduceIte, not_true_eq_false, not_false_eq_true, Nat.reduceEqDiff, Nat.reduceAdd, Nat.reduceMul, Nat.reduceSub, Nat.reduceLeDiff, Nat.reduceLT, li_2, li_3, li_4, li_5, li_6, li_7, li_8, li_9, li_10, li_11, li_12, li_13, li_14, li_15, li_16, li_17, li_18, li_19, li_20, li_21, li_22, li_23, li_24, li_25, li_26, li_27, li_28, li_29, li_30, li_31, li_32, li_33, li_34, li_35, li_36, li_37, li_38, li_39, li_40, li_41, li_42, li_43, li_44, li_45, li_46, li_47, li_48, li_49, li_50, li_51, li_52, li_53, li_54, li_55, li_56, li_57, li_58, li_59, li_60, li_61, li_62, li_63, li_64, li_65, li_66, li_67, li_68, li_69, li_70, li_71, li_72, li_73, li_74, li_75, li_76, li_77, li_78, li_79, li_80, li_81, li_82, li_83, li_84, li_85, li_86, li_87, li_88, li_89, li_90, li_91, li_92, li_93, li_94, li_95, li_96, li_97, li_98, li_99, li_100, li_101, li_102, li_103, li_104, li_105, li_106, li_107, li_108, li_109, li_110, li_111, li_112, li_113, li_114, li_115, li_116, li_117, li_118, li_119, li_120, li_121, li_122, li_255, li_400, li_608, li_998, li_999, li_1000, li_1024, li_1103, li_2400, li_2911, li_4095, li_4096, li_5711, li_9999, li_12345, li_1000000, li_1000003, li_252645135, li_858993459, li_1431655765, wI_add, wI_mul, wI_add1, wI_1add, b5, wI_le, eq_true hL, up_eq, up_up, i1]
      · have hs : ∀ a, a ≠ 58 → a ≠ 65 → a ≠ 66 → up (up (up g 66 (upd (upd (upd (upd (upd (g 66) 0 x0) 1 x1) 2 x2) 3 x3) 4 x4)) 65 g2) 58 (upd (g 58) 13 (wI (L + 20))) a = g a := fun a q1 q2 q3 => by rw [up_ne _ _ _ q1, up_ne _ _ _ q2, up_ne _ _ _ q3]
        have h0 : ∀ k, k ≠ 13 → up (up (up g 66 (upd (upd (upd (upd (upd (g 66) 0 x0) 1 x1) 2 x2) 3 x3) 4 x4)) 65 g2) 58 (upd (g 58) 13 (wI (L + 20))) 58 k = g 58 k := fun k hk => by rw [up_eq, upd_ne _ _ _ hk]
        obtain ⟨b1, b2, b3, b4, -, b7⟩ := hg
        refine ⟨⟨MK_60 b1.1 (hs 60 (by decide) (by decide) (by decide)), b1.2.1, b1.2.2.1, by rw [h0 24 (by decide)]; exact b1.2.2.2⟩, UM_c b2 (h0 31 (by decide)) (hs 71 (by decide) (by decide) (by decide)), ?_, IGM_c b4 (hs _ (by decide) (by decide) (by decide)) (hs _ (by decide) (by decide) (by decide)) (h0 _ (by decide)) (h0 _ (by decide)) (hs _ (by decide) (by decide) (by decide)) (hs _ (by decide) (by decide) (by decide)) (hs _ (by decide) (by decide) (by decide)), ⟨by rw [up_eq, upd_eq], fun k hk => ?_⟩, CM_c b7 (hs _ (by decide) (by decide) (by decide)) (fun k hk => h0 k (by omega))⟩
        · unfold WRD
          rw [hs 64 (by decide) (by decide) (by decide)]
          exact b3
        · rw [up_ne _ _ _ (by decide), up_eq]
          unfold feedT
          by_cases e : k < L
          · rw [i2 k (by omega), putT_ne (Or.inl (by omega)), putT_ne (Or.inl (by omega)), putT_ne (Or.inl (by omega)), putT_ne (Or.inl (by omega)), putT_ne (Or.inl (by omega))]
            exact b6 k e
          · obtain ⟨j, rfl⟩ : ∃ j, k = L + j := ⟨k - L, by omega⟩
            rw [i3 j (by omega) (by omega), up_eq]
            rcases (show j / 4 = 0 ∨ j / 4 = 1 ∨ j / 4 = 2 ∨ j / 4 = 3 ∨ j / 4 = 4 by omega) with e1 | e1 | e1 | e1 | e1 <;> rw [e1]
            · rw [putT_ne (Or.inl (by omega)), putT_ne (Or.inl (by omega)), putT_ne (Or.inl (by omega)), putT_ne (Or.inl (by omega)), show L + j = L + (j % 4) by omega, putT_in (by omega)]
              rfl
            · rw [putT_ne (Or.inl (by omega)), putT_ne (Or.inl (by omega)), putT_ne (Or.inl (by omega)), show L + j = L + 4 + (j % 4) by omega, putT_in (by omega)]
              rfl
            · rw [putT_ne (Or.inl (by omega)), putT_ne (Or.inl (by omega)), show L + j = L + 8 + (j % 4) by omega, putT_in (by omega)]
              rfl
            · rw [putT_ne (Or.inl (by omega)), show L + j = L + 12 + (j % 4) by omega, putT_in (by omega)]
              rfl
            · rw [show L + j = L + 16 + (j % 4) by omega, putT_in (by omega)]
              rfl
      · rw [up_ne _ _ _ (by omega), up_ne _ _ _ (by omega), up_ne _ _ _ (by omega)]
  · refine stp_r (r := -1) h hM ?_ (fun g hg => ?_)
    · rw [q_X_feed]
      simp -dsimp (disch := omega) only [↓c_0 hz, r_0_0 hz, r_0_1 hz, r_0_2 hz, v_0_3 hz, w_0_3 hz, p_0_3 hz, r_0_4 hz, r_0_5 hz, r_0_6 hz, g_0_7 hz, p_0_7 hz, r_0_8 hz, r_0_9 hz, r_0_10 hz, r_0_11 hz, r_0_12 hz, g_0_13 hz, p_0_13 hz, g_0_14 hz, p_0_14 hz, g_0_15 hz, p_0_15 hz, g_0_16 hz, p_0_16 hz, g_0_17 hz, p_0_17 hz, g_0_18 hz, p_0_18 hz, r_0_19 hz, ↓c_1 hz, g_1_0 hz, p_1_0 hz, r_1_1 hz, g_1_2 hz, p_1_2 hz, r_1_3 hz, r_1_4 hz, r_1_5 hz, r_1_6 hz, r_1_7 hz, r_1_8 hz, r_1_9 hz, g_1_10 hz, p_1_10 hz, r_1_11 hz, r_1_12 hz, r_1_13 hz, g_1_14 hz, p_1_14 hz, r_1_15 hz, g_1_16 hz, p_1_16 hz, l_2 hz, s_2 hz, n_2 hz, l_3 hz, s_3 hz, n_3 hz, l_4 hz, s_4 hz, n_4 hz, l_5 hz, s_5 hz, n_5 hz, l_6 hz, s_6 hz, n_6 hz, l_7 hz, s_7 hz, n_7 hz, l_8 hz, s_8 hz, n_8 hz, l_9 hz, s_9 hz, n_9 hz, l_10 hz, s_10 hz, n_10 hz, l_11 hz, s_11 hz, n_11 hz, l_12 hz, s_12 hz, n_12 hz, l_13 hz, ↓c_14 hz, g_14_0 hz, p_14_0 hz, r_14_1 hz, g_14_2 hz, p_14_2 hz, r_14_3 hz, r_14_4 hz, r_14_5 hz, r_14_6 hz, r_14_7 hz, r_14_8 hz, r_14_9 hz, g_14_10 hz, p_14_10 hz, r_14_11 hz, r_14_12 hz, r_14_13 hz, g_14_14 hz, p_14_14 hz, r_14_15 hz, g_14_16 hz, p_14_16 hz, l_15 hz, s_15 hz, n_15 hz, l_16 hz, s_16 hz, n_16 hz, l_17 hz, s_17 hz, n_17 hz, l_18 hz, s_18 hz, n_18 hz, l_19 hz, s_19 hz, n_19 hz, l_20 hz, s_20 hz, n_20 hz, l_21 hz, s_21 hz, n_21 hz, l_22 hz, s_22 hz, n_22 hz, l_23 hz, s_23 hz, n_23 hz, l_24 hz, s_24 hz, n_24 hz, l_25 hz, s_25 hz, n_25 hz, l_26 hz, l_27 hz, ↓c_28 hz, r_28_0 hz, g_28_1 hz, p_28_1 hz, g_28_2 hz, p_28_2 hz, l_29 hz, s_29 hz, n_29 hz, ↓c_30 hz, r_30_0 hz, g_30_1 hz, p_30_1 hz, g_30_2 hz, p_30_2 hz, l_31 hz, s_31 hz, n_31 hz, l_32 hz, s_32 hz, n_32 hz, ↓c_33 hz, r_33_0 hz, v_33_1 hz, w_33_1 hz, p_33_1 hz, g_33_2 hz, p_33_2 hz, g_33_3 hz, p_33_3 hz, g_33_4 hz, p_33_4 hz, g_33_5 hz, p_33_5 hz, g_33_6 hz, p_33_6 hz, g_33_7 hz, p_33_7 hz, g_33_8 hz, p_33_8 hz, g_33_9 hz, p_33_9 hz, ↓c_34 hz, g_34_0 hz, p_34_0 hz, g_34_1 hz, p_34_1 hz, r_34_2 hz, r_34_3 hz, l_35 hz, s_35 hz, n_35 hz, l_36 hz, s_36 hz, n_36 hz, ↓c_38 hz, r_38_0 hz, v_38_1 hz, w_38_1 hz, p_38_1 hz, g_38_2 hz, p_38_2 hz, g_38_3 hz, p_38_3 hz, g_38_4 hz, p_38_4 hz, g_38_5 hz, p_38_5 hz, l_39 hz, s_39 hz, n_39 hz, ↓c_40 hz, r_40_0 hz, r_40_1 hz, r_40_2 hz, r_40_3 hz, g_40_4 hz, p_40_4 hz, l_41 hz, s_41 hz, n_41 hz, l_42 hz, s_42 hz, n_42 hz, l_43 hz, s_43 hz, n_43 hz, l_44 hz, s_44 hz, n_44 hz, ↓c_45 hz, r_45_0 hz, r_45_1 hz, r_45_2 hz, r_45_3 hz, r_45_4 hz, g_45_5 hz, p_45_5 hz, l_46 hz, s_46 hz, n_46 hz, l_47 hz, s_47 hz, n_47 hz, l_48 hz, s_48 hz, n_48 hz, l_49 hz, s_49 hz, n_49 hz, l_50 hz, s_50 hz, n_50 hz, ↓c_51 hz, r_51_0 hz, r_51_1 hz, r_51_2 hz, r_51_3 hz, r_51_4 hz, g_51_5 hz, p_51_5 hz, g_51_6 hz, p_51_6 hz, l_52 hz, s_52 hz, n_52 hz, l_53 hz, s_53 hz, n_53 hz, l_54 hz, s_54 hz, n_54 hz, l_55 hz, s_55 hz, n_55 hz, l_56 hz, s_56 hz, n_56 hz, l_57 hz, s_57 hz, n_57 hz, hO_s, hI_s, hL_s, hQ_s, hQ_n, hR_s, hV_s, hN_n, hN_s, cond_true, lI_0, lI_1, sI_0, sI_1, lL_0, lL_1, ↓reduceIte, not_true_eq_false, not_false_eq_true, Nat.reduceEqDiff, Nat.reduceAdd, Nat.reduceMul, Nat.reduceSub, Nat.reduceLeDiff, Nat.reduceLT, li_2, li_3, li_4, li_5, li_6, li_7, li_8, li_9, li_10, li_11, li_12, li_13, li_14, li_15, li_16, li_17, li_18, li_19, li_20, li_21, li_22, li_23, li_24, li_25, li_26, li_27, li_28, li_29, li_30, li_31, li_32, li_33, li_34, li_35, li_36, li_37, li_38, li_39, li_40, li_41, li_42, li_43, li_44, li_45, li_46, li_47, li_48, li_49, li_50, li_51, li_52, li_53, li_54, li_55, li_56, li_57, li_58, li_59, li_60, li_61, li_62, li_63, li_64, li_65, li_66, li_67, li_68, li_69, li_70, li_71, li_72, li_73, li_74, li_75, li_76, li_77, li_78, li_79, li_80, li_81, li_82, li_83, li_84, li_85, li_86, li_87, li_88, li_89, li_90, li_91, li_92, li_93, li_94, li_95, li_96, li_97, li_98, li_99, li_100, li_101, li_102, li_103, li_104, li_105, li_106, li_107, li_108, li_109, li_110, li_111, li_112, li_113, li_114, li_115, li_116, li_117, li_118, li_119, li_120, li_121, li_122, li_255, li_400, li_608, li_998, li_999, li_1000, li_1024, li_1103, li_2400, li_2911, li_4095, li_4096, li_5711, li_9999, li_12345, li_1000000, li_1000003, li_252645135, li_858993459, li_1431655765, wI_add, wI_mul, wI_add1, wI_1add, t1, wI_le, eq_false hL]
    · have b5 := hg.2.2.2.2.1.1
      rw [q_M_feed]
      simp -dsimp (disch := omega) only [↓c_58 hz, g_58_0 hz, p_58_0 hz, r_58_1 hz, r_58_2 hz, r_58_3 hz, r_58_4 hz, r_58_5 hz, g_58_6 hz, p_58_6 hz, r_58_7 hz, g_58_8 hz, p_58_8 hz, g_58_9 hz, p_58_9 hz, g_58_10 hz, p_58_10 hz, r_58_11 hz, r_58_12 hz, g_58_13 hz, p_58_13 hz, g_58_14 hz, p_58_14 hz, r_58_15 hz, r_58_16 hz, r_58_17 hz, g_58_18 hz, p_58_18 hz, g_58_19 hz, p_58_19 hz, g_58_20 hz, p_58_20 hz, g_58_21 hz, p_58_21 hz, g_58_22 hz, p_58_22 hz, g_58_23 hz, p_58_23 hz, g_58_24 hz, p_58_24 hz, g_58_25 hz, p_58_25 hz, r_58_26 hz, g_58_27 hz, p_58_27 hz, g_58_28 hz, p_58_28 hz, r_58_29 hz, r_58_30 hz, g_58_31 hz, p_58_31 hz, r_58_32 hz, r_58_33 hz, r_58_34 hz, r_58_35 hz, r_58_36 hz, r_58_37 hz, g_58_38 hz, p_58_38 hz, r_58_39 hz, r_58_40 hz, r_58_41 hz, g_58_42 hz, p_58_42 hz, g_58_43 hz, p_58_43 hz, g_58_44 hz, p_58_44 hz, g_58_45 hz, p_58_45 hz, g_58_46 hz, p_58_46 hz, g_58_47 hz, p_58_47 hz, g_58_48 hz, p_58_48 hz, r_58_49 hz, r_58_50 hz, r_58_51 hz, r_58_52 hz, g_58_53 hz, p_58_53 hz, g_58_54 hz, p_58_54 hz, g_58_55 hz, p_58_55 hz, l_59 hz, s_59 hz, n_59 hz, l_60 hz, s_60 hz, n_60 hz, l_61 hz, s_61 hz, n_61 hz, l_62 hz, s_62 hz, n_62 hz, l_63 hz, s_63 hz, n_63 hz, l_64 hz, s_64 hz, n_64 hz, l_65 hz, s_65 hz, n_65 hz, l_66 hz, s_66 hz, n_66 hz, l_67 hz, s_67 hz, n_67 hz, l_68 hz, s_68 hz, n_68 hz, l_69 hz, s_69 hz, n_69 hz, l_70 hz, s_70 hz, n_70 hz, l_71 hz, s_71 hz, n_71 hz, l_72 hz, s_72 hz, n_72 hz, l_73 hz, s_73 hz, n_73 hz, l_74 hz, s_74 hz, n_74 hz, l_75 hz, s_75 hz, n_75 hz, l_76 hz, s_76 hz, n_76 hz, l_77 hz, s_77 hz, n_77 hz, l_78 hz, s_78 hz, n_78 hz, l_79 hz, s_79 hz, n_79 hz, l_80 hz, s_80 hz, n_80 hz, l_81 hz, s_81 hz, n_81 hz, l_82 hz, s_82 hz, l_83 hz, s_83 hz, n_83 hz, l_84 hz, s_84 hz, n_84 hz, l_85 hz, s_85 hz, n_85 hz, hO_s, hI_s, hL_s, hQ_s, hQ_n, hR_s, hV_s, hN_n, hN_s, cond_true, lI_0, lI_1, sI_0, sI_1, lL_0, lL_1, ↓reduceIte, not_true_eq_false, not_false_eq_true, Nat.reduceEqDiff, Nat.reduceAdd, Nat.reduceMul, Nat.reduceSub, Nat.reduceLeDiff, Nat.reduceLT, li_2, li_3, li_4, li_5, li_6, li_7, li_8, li_9, li_10, li_11, li_12, li_13, li_14, li_15, li_16, li_17, li_18, li_19, li_20, li_21, li_22, li_23, li_24, li_25, li_26, li_27, li_28, li_29, li_30, li_31, li_32, li_33, li_34, li_35, li_36, li_37, li_38, li_39, li_40, li_41, li_42, li_43, li_44, li_45, li_46, li_47, li_48, li_49, li_50, li_51, li_52, li_53, li_54, li_55, li_56, li_57, li_58, li_59, li_60, li_61, li_62, li_63, li_64, li_65, li_66, li_67, li_68, li_69, li_70, li_71, li_72, li_73, li_74, li_75, li_76, li_77, li_78, li_79, li_80, li_81, li_82, li_83, li_84, li_85, li_86, li_87, li_88, li_89, li_90, li_91, li_92, li_93, li_94, li_95, li_96, li_97, li_98, li_99, li_100, li_101, li_102, li_103, li_104, li_105, li_106, li_107, li_108, li_109, li_110, li_111, li_112, li_113, li_114, li_115, li_116, li_117, li_118, li_119, li_120, li_121, li_122, li_255, li_400, li_608, li_998, li_999, li_1000, li_1024, li_1103, li_2400, li_2911, li_4095, li_4096, li_5711, li_9999, li_12345, li_1000000, li_1000003, li_252645135, li_858993459, li_1431655765, wI_add, wI_mul, wI_add1, wI_1add, b5, wI_le, eq_false hL]
end
