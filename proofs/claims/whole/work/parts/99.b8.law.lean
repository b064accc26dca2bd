/-! ===== law ===== -/
section
variable {z : Mem} {S : Nat} {xs : Nat → Int32} {f f' : Nat → Nat → Int32} {N N' : Nat → Nat} {U : US} {Z : Nat → Option (Nat → Nat)} {T : Nat → Nat} {L : Nat} {c c' : Nat → Int32} {d : Nat}
/-- the tape is emptied, numbers change -/
theorem IY_t (h : IY S xs f z N U Z T L c) (h7 : f' 0 7 = 0) (h3 : f' 0 3 = f 0 3) (hs : ∀ a, (1 ≤ a ∧ a ≤ 13) ∨ (27 ≤ a ∧ a ≤ 29) ∨ a = 38 ∨ 86 ≤ a → f' a = f a) (hx : CX f' c') : IY S xs f' z N U Z T 0 c' := by
  obtain ⟨a1, a2, a3, a4, a5, a6, a7, a8, a9⟩ := h
  exact ⟨a1, a2, KH_lo a3 (fun a ha => hs a (by omega)), RI_c a4 (hs 38 (by omega)), UX_c a5 (hs 28 (by omega)) (hs 29 (by omega)) (fun _ _ => rfl), a6, IG_ZX a2 (ZX_rf z) a7 (fun a _ ha => hs a (by omega)) (hs 27 (by omega)) h3, ⟨h7, Nat.zero_le _, a8.2.2.1, fun k hk => absurd hk (Nat.not_lt_zero _)⟩, hx⟩
theorem IM_t (h : IM f N U Z T L c) (hm : MH f' N') (h31 : f' 58 31 = f 58 31) (h71 : f' 71 = f 71) (h64 : f' 64 = f 64) (h62 : f' 62 = f 62) (h61 : f' 61 = f 61) (h3 : f' 58 53 = f 58 53) (h4 : f' 58 54 = f 58 54) (h5 : f' 83 = f 83) (h6 : f' 84 = f 84) (h7 : f' 85 = f 85) (h13 : f' 58 13 = 0) (hc : CM f' c') : IM f' N' U Z T 0 c' := by
  obtain ⟨a1, a2, a3, a4, a5, a6⟩ := h
  refine ⟨hm, UM_c a2 h31 h71, ?_, IGM_c a4 h62 h61 h3 h4 h5 h6 h7, ⟨h13, fun k hk => absurd hk (Nat.not_lt_zero _)⟩, hc⟩
  unfold WRD; rw [h64]; exact a3
theorem s_law (h : IY S xs f z N U Z T L c) (hM : IM f N U Z T L c) (hd : 100 ≤ d) (hz1 : z.1 ≤ 90000) : STP S xs d mX_law mM_law [] f z N := by
  have hz := h.1
  have hv := h.2.2.1.2.2.1
  have hck := h.2.2.1.2.1
  have hx := h.2.2.2.2.2.2.2.2
  have ht := XT_Tx h.2.1
  obtain ⟨t1, t2, t3, t4⟩ := h.2.2.2.2.2.2.2.1
  have h102 := hv.2.2.2.2.1
  by_cases h6 : N 102 = 6
  · refine stp_z (N' := N) (U' := U) (Z' := Z) (T' := T) (L' := 0) (c' := refC c 5) (r := -5) hM ?_ (fun g hz hg => ?_)
    · refine ⟨_, t_X_law_full hz hck h6 (by omega), ?_, fun a ha => by rw [up_ne _ _ _ (by omega), up_ne _ _ _ (by omega)], Or.inr ⟨rfl, ?_, ?_, ?_⟩⟩
      · refine IY_t h (by rw [up_ne _ _ _ (by decide), up_eq, upd_ne _ _ _ (by decide), upd_eq]) (by rw [up_ne _ _ _ (by decide), up_eq, upd_ne _ _ _ (by decide), upd_ne _ _ _ (by decide)]) (fun a ha => by rw [up_ne _ _ _ (by omega), up_ne _ _ _ (by omega)]) ?_
        unfold CX refC at *
        obtain ⟨x0, x1, x2, x3, x4, x5, x6, x7, x8⟩ := hx
        simp (disch := decide) only [up_eq, up_ne, upd_ne, upd_eq, show ixC 5 = 4 from rfl, x0, x1, x2, x3, x4, x5, x6, x7, x8, and_self]
        exact ⟨rfl, trivial⟩
      · rw [up_ne _ _ _ (by decide), up_eq, upd_ne _ _ _ (by decide), upd_ne _ _ _ (by decide)]
      · rw [up_ne _ _ _ (by decide), up_eq, upd_ne _ _ _ (by decide), upd_ne _ _ _ (by decide)]
      · rw [up_ne _ _ _ (by decide), up_ne _ _ _ (by decide)]
    · have k : ∀ j, j ≠ 0 → j ≠ 13 → up (up g 58 (upd (upd (g 58) 13 0) 0 (-5))) 59 (upd (g 59) 5 (g 59 5 + 1)) 58 j = g 58 j := fun j h1 h2 => by rw [up_ne _ _ _ (by decide), up_eq, upd_ne _ _ _ h1, upd_ne _ _ _ h2]
      have n : ∀ a, a ≠ 58 → a ≠ 59 → up (up g 58 (upd (upd (g 58) 13 0) 0 (-5))) 59 (upd (g 59) 5 (g 59 5 + 1)) a = g a := fun a h1 h2 => by rw [up_ne _ _ _ h2, up_ne _ _ _ h1]
      refine ⟨_, m_law_full hz hg.1.1 h6 (by omega), ?_, fun a ha => n a (by omega) (by omega)⟩
      refine IM_t hg ⟨MK_60 hg.1.1 (n 60 (by decide) (by decide)), hg.1.2.1, hg.1.2.2.1, by rw [k 24 (by decide) (by decide)]; exact hg.1.2.2.2⟩ (k _ (by decide) (by decide)) (n _ (by decide) (by decide)) (n _ (by decide) (by decide)) (n _ (by decide) (by decide)) (n _ (by decide) (by decide)) (k _ (by decide) (by decide)) (k _ (by decide) (by decide)) (n _ (by decide) (by decide)) (n _ (by decide) (by decide)) (n _ (by decide) (by decide)) (by rw [up_ne _ _ _ (by decide), up_eq, upd_ne _ _ _ (by decide), upd_eq]) ?_
      have hy := hg.2.2.2.2.2
      unfold CM refC at *
      obtain ⟨x0, x1, x2, x3, x4, x5, x6, x7, x8⟩ := hy
      simp (disch := decide) only [up_eq, up_ne, upd_ne, upd_eq, show ixC 5 = 4 from rfl, x0, x1, x2, x3, x4, x5, x6, x7, x8, and_self]
      exact ⟨rfl, trivial⟩
  · cases hp : pText (cdT T L) (pLawC (cdT T L) (vlT T L)) (nT T L) 12 0 0 0 with
    | inl e =>
      refine stp_z (N' := N) (U' := U) (Z' := Z) (T' := T) (L' := 0) (c' := refC (upd c 6 (wI (plB T L e))) 6) (r := -6) hM ?_ (fun g hz hg => ?_)
      · obtain ⟨f2, i1, i2, i3, i4⟩ := t_X_law_bad hz ht hck (by omega) t2 t3 t4 t1 hp (d := d) (by omega)
        refine ⟨f2, i1, ?_, fun a ha => i2 a (by omega) (by omega) (by omega) (by omega) (by omega) (by omega), Or.inr ⟨rfl, ?_, ?_, ?_⟩⟩
        · refine IY_t h (by rw [i3, upd_ne _ _ _ (by decide), upd_ne _ _ _ (by decide), upd_eq]) (by rw [i3, upd_ne _ _ _ (by decide), upd_ne _ _ _ (by decide), upd_ne _ _ _ (by decide)]) (fun a ha => i2 a (by omega) (by omega) (by omega) (by omega) (by omega) (by omega)) ?_
          unfold CX refC at *
          obtain ⟨x0, x1, x2, x3, x4, x5, x6, x7, x8⟩ := hx
          rw [i3, i4]
          simp (disch := decide) only [upd_ne, upd_eq, show ixC 6 = 5 from rfl, x0, x1, x2, x3, x4, x5, x6, x7, x8, and_self]
          exact ⟨rfl, trivial⟩
        · rw [i3, upd_ne _ _ _ (by decide), upd_ne _ _ _ (by decide), upd_ne _ _ _ (by decide)]
        · rw [i3, upd_ne _ _ _ (by decide), upd_ne _ _ _ (by decide), upd_ne _ _ _ (by decide)]
        · exact i2 54 (by decide) (by decide) (by decide) (by decide) (by decide) (by decide)
      · obtain ⟨g2, i1, i2, i3, i4, i5, i6, i7⟩ := m_law_bad hz hg.1.1 (by omega) t2 t3 hg.2.2.1 hg.2.2.2.2.1.2 hg.2.2.2.2.1.1 hp (d := d) (by omega)
        obtain ⟨n, k⟩ := i2
        have n' : ∀ a, a < 58 ∨ 86 ≤ a ∨ (60 < a ∧ a < 67) ∨ (69 < a ∧ a < 86) → g2 a = g a := fun a ha => n a (by omega) (by omega) (by omega) (by omega) (by omega) (by omega)
        refine ⟨g2, i1, ?_, fun a ha => n' a (by omega)⟩
        have k' : ∀ j, j = 24 ∨ j = 31 ∨ j = 53 ∨ j = 54 ∨ j = 43 ∨ j = 6 → g2 58 j = g 58 j := fun j hj => k j (by omega) (by omega) (by omega) (by omega) (by omega) (by omega) (by omega) (by omega) (by omega) (by omega)
        refine IM_t hg ⟨MK_60 hg.1.1 i3, hg.1.2.1, hg.1.2.2.1, by rw [k' 24 (by omega)]; exact hg.1.2.2.2⟩ (k' _ (by omega)) (n' _ (by omega)) (n' _ (by omega)) (n' _ (by omega)) (n' _ (by omega)) (k' _ (by omega)) (k' _ (by omega)) (n' _ (by omega)) (n' _ (by omega)) (n' _ (by omega)) i4 ?_
        have hy := hg.2.2.2.2.2
        unfold CM refC at *
        obtain ⟨x0, x1, x2, x3, x4, x5, x6, x7, x8⟩ := hy
        rw [i5, i6, i7, k' 43 (by omega), k' 6 (by omega)]
        simp (disch := decide) only [upd_ne, upd_eq, show ixC 6 = 5 from rfl, x0, x1, x2, x3, x4, x5, x6, x7, x8, and_self]
        exact ⟨rfl, trivial⟩
    | inr cls =>
      have hLV : VK (lawN N T L) := lawN_VK hv (by omega) t2 t3
      refine stp_of (N' := lawN N T L) (U' := U) (Z' := Z) (T' := T) (L' := 0) (c' := okC (upd c 6 (-1))) (r := wI (N 102)) hM ?_ (fun g z' hz' hg => ?_)
      · have h86 := h.2.1.1.1
        obtain ⟨f2, Z2, i1, i2, i3, i4, i5, i6, i7, i8, hl, sl, i9, i10⟩ := t_X_law_ok hz ht hck (by omega) t2 t3 t4 t1 hp (q := z.1) rfl h86 (by omega) (d := d) (by omega)
        have hzx : ZX z Z2 := ⟨by omega, fun a ha => i6 a (by omega)⟩
        refine ⟨f2, Z2, i1, ?_, fun a ha => i2 a (by omega) (by omega) (by omega) (by omega) (by omega) (by omega) (by omega) (by omega), Or.inl (by rw [i3, upd_eq]), by omega, by omega⟩
        obtain ⟨a1, a2, a3, a4, a5, a6, a7, a8, a9⟩ := h
        have s1 : ∀ a, a < z.1 → a ≠ 0 → a ≠ 1 → a ≠ 13 → (a < 33 ∨ 36 < a) → f2 a = f a := fun a q0 q1 q2 q3 q4 => i2 a q0 q1 q2 q3 (by omega) (by omega) (by omega) (by omega)
        have hck2 : CK f2 1 (lawN N T L) := by
          have w := CK_n102 hck (v := N 102 + 1)
          refine CK_N (N := upN N 102 (N 102 + 1)) (CK_c (f := up f 1 (upd (f 1) 14 (wI (N 102 + 1)))) (fun j hj => ?_) w) (fun j hj => ?_)
          · by_cases e : j = 0
            · subst e; rw [show (1 + 0 : Nat) = 1 from rfl, i4, up_eq]
            · rw [up_ne _ _ _ (by omega)]
              exact s1 _ (by omega) (by omega) (by omega) (by omega) (by omega)
          · by_cases e : j = 102
            · subst e; rw [lawN_102, upN_eq]
            · rw [lawN_lo hj e, upN_ne e]
        refine ⟨Sh_ZX a1 h86 hzx, XT_ZX a2 hzx (by omega), ⟨Ch_ZX a3.1 (Ch_lt a2 a3.1) hzx, hck2, hLV, fun i hi => ?_, fun i hi => ?_⟩, RI_c a4 (s1 38 (by omega) (by decide) (by decide) (by decide) (by decide)), UX_c a5 (s1 28 (by omega) (by decide) (by decide) (by decide) (by decide)) (s1 29 (by omega) (by decide) (by decide) (by decide) (by decide)) (fun k hk => lawN_lo (by omega) (by omega)), fun i hi => ?_, IG_ZX a2 hzx a7 (fun a q1 q2 => s1 a q1 (by omega) (by omega) (by omega) (by omega)) (s1 27 (by omega) (by decide) (by decide) (by decide) (by decide)) (by rw [i3, upd_ne _ _ _ (by decide), upd_ne _ _ _ (by decide), upd_ne _ _ _ (by decide), upd_ne _ _ _ (by decide)]), ⟨by rw [i3, upd_ne _ _ _ (by decide), upd_ne _ _ _ (by decide), upd_ne _ _ _ (by decide), upd_eq]; rfl, Nat.zero_le _, t3, fun k hk => absurd hk (Nat.not_lt_zero _)⟩, ?_⟩
        · rw [lawN_102] at hi
          by_cases e : i = N 102
          · subst e
            exact ⟨z.1, hl, sl, cls, by rw [show (1 + 12 : Nat) = 13 from rfl, i5, upd_eq], h86, by omega, i9, i10, lawN_LT (by omega) t2 hp⟩
          · obtain ⟨q, hl', sl', cls', b1, b2, b3, b4, b5, b6⟩ := a3.2.2.2.1 i (by omega)
            have hq := Pg_lt a2 b4
            exact ⟨q, hl', sl', cls', by rw [show (1 + 12 : Nat) = 13 from rfl, i5, upd_ne _ _ _ e]; exact b1, b2, b3, Pg_ZX b4 hq hzx, PT_c b5 (s1 _ (by omega) (by omega) (by omega) (by omega) (by omega)) (s1 _ (by omega) (by omega) (by omega) (by omega) (by omega)) (s1 _ (by omega) (by omega) (by omega) (by omega) (by omega)), lawN_LT2 (by omega) (by omega) t2 b6⟩
        · rw [show (1 + 12 : Nat) = 13 from rfl, i5]
          by_cases e : i = N 102
          · subst e
            exact Or.inr ⟨z.1, hl, sl, by rw [upd_eq], h86, by omega, i9⟩
          · rw [upd_ne _ _ _ e]
            rcases a3.2.2.2.2 i hi with e | ⟨q, hl, sl, b1, b2, b3, b4⟩
            · exact Or.inl e
            · exact Or.inr ⟨q, hl, sl, b1, b2, b3, Pg_ZX b4 (Pg_lt a2 b4) hzx⟩
        · rw [lawN_mrg]
          exact ⟨(a6 i hi).1, lawN_VK (a6 i hi).2 (by rw [mrg_hi (by decide)]; omega) t2 t3⟩
        · unfold CX okC at *
          obtain ⟨x0, x1, x2, x3, x4, x5, x6, x7, x8⟩ := a9
          rw [i3, s1 57 (by omega) (by decide) (by decide) (by decide) (by decide)]
          simp (disch := decide) only [upd_ne, upd_eq, x0, x1, x2, x3, x4, x5, x6, x7, x8, and_self]
      · obtain ⟨g2, i1, i2, i3, i4, i5, i6, i7⟩ := m_law_ok hz' hg.1.1 hv (by omega) t2 t3 hg.2.2.1 hg.2.2.2.2.1.2 hg.2.2.2.2.1.1 hp (d := d) (by omega)
        obtain ⟨n, k⟩ := i2
        have n' : ∀ a, a < 58 ∨ 86 ≤ a ∨ (60 < a ∧ a < 67) ∨ (69 < a ∧ a < 86) → g2 a = g a := fun a ha => n a (by omega) (by omega) (by omega) (by omega) (by omega) (by omega)
        refine ⟨g2, i1, ?_, fun a ha => n' a (by omega)⟩
        have k' : ∀ j, j = 24 ∨ j = 31 ∨ j = 53 ∨ j = 54 ∨ j = 43 ∨ j = 6 → g2 58 j = g 58 j := fun j hj => k j (by omega) (by omega) (by omega) (by omega) (by omega) (by omega) (by omega) (by omega) (by omega) (by omega)
        have hLL : LL (lawN N T L) := fun i hi => by
          rw [lawN_102] at hi
          by_cases e : i = N 102
          · subst e
            exact ⟨cls, lawN_LT (by omega) t2 hp⟩
          · obtain ⟨cls', b6⟩ := hg.1.2.2.1 i (by omega)
            exact ⟨cls', lawN_LT2 (by omega) (by omega) t2 b6⟩
        refine IM_t hg ⟨i3, hLV, hLL, by rw [k' 24 (by omega)]; exact hg.1.2.2.2⟩ (k' _ (by omega)) (n' _ (by omega)) (n' _ (by omega)) (n' _ (by omega)) (n' _ (by omega)) (k' _ (by omega)) (k' _ (by omega)) (n' _ (by omega)) (n' _ (by omega)) (n' _ (by omega)) i4 ?_
        have hy := hg.2.2.2.2.2
        unfold CM okC at *
        obtain ⟨x0, x1, x2, x3, x4, x5, x6, x7, x8⟩ := hy
        rw [i5, i6, i7, k' 43 (by omega), k' 6 (by omega)]
        simp (disch := decide) only [upd_ne, upd_eq, x0, x1, x2, x3, x4, x5, x6, x7, x8, and_self]
end
