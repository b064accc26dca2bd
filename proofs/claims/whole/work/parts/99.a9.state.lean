/-! ===== the whole state, on both sides ===== -/
/-- beyond the cells: the script and the texts -/
def XT (z : Mem) (S : Nat) (xs : Nat → Int32) : Prop := (86 ≤ z.1 ∧ z.1 ≤ 100000) ∧ ∀ a, z.1 ≤ a → z.2.2 a = extc S xs a
theorem XT_Tx {z : Mem} {S : Nat} {xs : Nat → Int32} (h : XT z S xs) : Tx z := fun k hk => by
  have h1 := h.1.2
  rw [h.2 _ (by omega)]
  unfold extc
  rw [if_neg (by omega), if_pos (by omega), Nat.add_sub_cancel_left]
theorem ext_no {S : Nat} {xs : Nat → Int32} {q : Nat × Nat × Nat × List Nat} {a : Nat} (h : okCl q (extc S xs a) = true) (h9 : q.2.1 < 6) : False := by
  unfold extc at h
  split at h
  · simp only [okCl, Bool.and_eq_true, beq_iff_eq] at h
    omega
  · split at h
    · simp only [okCl, Bool.and_eq_true, beq_iff_eq] at h
      omega
    · simp only [okCl, Bool.and_eq_true, beq_iff_eq] at h
      omega
theorem Pg_lt {z : Mem} {S : Nat} {xs : Nat → Int32} (h : XT z S xs) {q hl sl : Nat} (hq : Pg z q hl sl) : q + 2 < z.1 := by
  rcases Nat.lt_or_ge (q + 2) z.1 with e | e
  · exact e
  · exfalso
    have := hq.2.2.1
    rw [h.2 _ e] at this
    exact ext_no this (show (0 : Nat) < 6 by decide)
theorem Ch_lt {z : Mem} {S : Nat} {xs : Nat → Int32} (h : XT z S xs) {b : Nat} (hb : Ch z b) : b + 12 < z.1 := by
  rcases Nat.lt_or_ge (b + 12) z.1 with e | e
  · exact e
  · exfalso
    have := hb 12 (by decide)
    rw [h.2 _ e] at this
    exact ext_no this (show (4 : Nat) < 6 by decide)
/-- the cells grow -/
def ZX (z z' : Mem) : Prop := z.1 ≤ z'.1 ∧ ∀ a, a < z.1 ∨ z'.1 ≤ a → z'.2.2 a = z.2.2 a
theorem ZX_rf (z : Mem) : ZX z z := ⟨Nat.le_refl _, fun _ _ => rfl⟩
theorem XT_ZX {z z' : Mem} {S : Nat} {xs : Nat → Int32} (h : XT z S xs) (hx : ZX z z') (hn : z'.1 ≤ 100000) : XT z' S xs := ⟨⟨Nat.le_trans h.1.1 hx.1, hn⟩, fun a ha => by rw [hx.2 a (Or.inr ha), h.2 a (Nat.le_trans hx.1 ha)]⟩
theorem Sh_ZX {z z' : Mem} (h : Sh z) (h8 : 86 ≤ z.1) (hx : ZX z z') : Sh z' := fun a ha => by
  rw [hx.2 a (Or.inl (by omega))]
  exact h a ha
theorem Ch_ZX {z z' : Mem} {b : Nat} (h : Ch z b) (hb : b + 12 < z.1) (hx : ZX z z') : Ch z' b := fun j hj => by
  rw [hx.2 _ (Or.inl (by omega))]
  exact h j hj
theorem Pg_ZX {z z' : Mem} {q hl sl : Nat} (h : Pg z q hl sl) (hb : q + 2 < z.1) (hx : ZX z z') : Pg z' q hl sl := by
  unfold Pg
  rw [hx.2 q (Or.inl (by omega)), hx.2 (q + 1) (Or.inl (by omega)), hx.2 (q + 2) (Or.inl (by omega))]
  exact h
theorem KH_ZX {f f' : Nat → Nat → Int32} {z z' : Mem} {S : Nat} {xs : Nat → Int32} (ht : XT z S xs) (hx : ZX z z') {b : Nat} {N : Nat → Nat} (h : KH f z b N) (hf : ∀ a, a < z.1 → (b ≤ a ∧ a ≤ b + 12) ∨ 86 ≤ a → f' a = f a) : KH f' z' b N := by
  have hb := Ch_lt ht h.1
  refine ⟨Ch_ZX h.1 hb hx, CK_c (fun j hj => hf _ (by omega) (by omega)) h.2.1, h.2.2.1, fun i hi => ?_, fun i hi => ?_⟩
  rotate_left
  · rw [hf _ (by omega) (by omega)]
    rcases h.2.2.2.2 i hi with e | ⟨q, hl, sl, a1, a2, a3, a4⟩
    · exact Or.inl e
    · exact Or.inr ⟨q, hl, sl, a1, a2, a3, Pg_ZX a4 (Pg_lt ht a4) hx⟩
  obtain ⟨q, hl, sl, cls, a1, a2, a3, a4, a5, a6⟩ := h.2.2.2.1 i hi
  have hq := Pg_lt ht a4
  exact ⟨q, hl, sl, cls, by rw [hf _ (by omega) (by omega)]; exact a1, a2, a3, Pg_ZX a4 hq hx, PT_c a5 (hf _ (by omega) (by omega)) (hf _ (by omega) (by omega)) (hf _ (by omega) (by omega)), a6⟩
def rfC (f : Nat → Nat → Int32) (k : Nat) : Int32 := if k < 2 then f 27 k else f 0 3
/-- chests that may be there: images 0 and 1, behind years 2 -/
def IO (f : Nat → Nat → Int32) (z : Mem) (k b : Nat) (M : Option (Nat → Nat)) : Prop := match M with
  | none => rfC f k = 0
  | some M => rfC f k = wI b ∧ 86 ≤ b ∧ KH f z b M
def IG (f : Nat → Nat → Int32) (z : Mem) (Z : Nat → Option (Nat → Nat)) : Prop := ∃ B : Nat → Nat, (∀ k, k < 3 → IO f z k (B k) (Z k)) ∧ ∀ i j, i < 3 → j < 3 → i ≠ j → Z i ≠ none → Z j ≠ none → B i ≠ B j
theorem IO_ZX {f f' : Nat → Nat → Int32} {z z' : Mem} {S : Nat} {xs : Nat → Int32} (ht : XT z S xs) (hx : ZX z z') {k b : Nat} {M : Option (Nat → Nat)} (h : IO f z k b M) (hf : ∀ a, a < z.1 → 86 ≤ a → f' a = f a) (hr : rfC f' k = rfC f k) : IO f' z' k b M := by
  cases M with
  | none => show rfC f' k = 0; rw [hr]; exact h
  | some M =>
    obtain ⟨a1, a2, a3⟩ := h
    exact ⟨by rw [hr]; exact a1, a2, KH_ZX ht hx a3 (fun a h1 h2 => hf a h1 (by omega))⟩
theorem IG_ZX {f f' : Nat → Nat → Int32} {z z' : Mem} {S : Nat} {xs : Nat → Int32} (ht : XT z S xs) (hx : ZX z z') {Z : Nat → Option (Nat → Nat)} (h : IG f z Z) (hf : ∀ a, a < z.1 → 86 ≤ a → f' a = f a) (h27 : f' 27 = f 27) (h3 : f' 0 3 = f 0 3) : IG f' z' Z := by
  obtain ⟨B, h1, h2⟩ := h
  refine ⟨B, fun k hk => IO_ZX ht hx (h1 k hk) hf ?_, h2⟩
  unfold rfC
  rw [h27, h3]
/-- numbers of both: status, how often refused (1 .. 5), fault, stopped, chips -/
def CX (f : Nat → Nat → Int32) (c : Nat → Int32) : Prop := f 0 18 = c 0 ∧ f 57 0 = c 1 ∧ f 57 1 = c 2 ∧ f 57 2 = c 3 ∧ f 57 3 = c 4 ∧ f 57 4 = c 5 ∧ f 0 15 = c 6 ∧ f 0 16 = c 7 ∧ f 0 17 = c 8
def CM (f : Nat → Nat → Int32) (c : Nat → Int32) : Prop := f 58 0 = c 0 ∧ f 59 1 = c 1 ∧ f 59 2 = c 2 ∧ f 59 3 = c 3 ∧ f 59 5 = c 4 ∧ f 59 6 = c 5 ∧ f 58 14 = c 6 ∧ f 58 43 = c 7 ∧ f 58 6 = c 8
def TP (f : Nat → Nat → Int32) (T : Nat → Nat) (L : Nat) : Prop := f 0 7 = wI L ∧ L ≤ 400 ∧ (∀ k, T k < 256) ∧ ∀ k, k < L → f 32 k = wI (T k)
section
variable {z : Mem} {S : Nat} {xs : Nat → Int32} {f f' : Nat → Nat → Int32} {N N' : Nat → Nat} {U U' : US} {Z : Nat → Option (Nat → Nat)} {T : Nat → Nat} {L : Nat} {c c' : Nat → Int32}
/-- the program -/
def IY (S : Nat) (xs : Nat → Int32) (f : Nat → Nat → Int32) (z : Mem) (N : Nat → Nat) (U : US) (Z : Nat → Option (Nat → Nat)) (T : Nat → Nat) (L : Nat) (c : Nat → Int32) : Prop :=
  Sh z ∧ XT z S xs ∧ KH f z 1 N ∧ RI f ∧ UX f U N ∧ UV U N ∧ IG f z Z ∧ TP f T L ∧ CX f c
/-- the reference -/
def IGM (f : Nat → Nat → Int32) (Z : Nat → Option (Nat → Nat)) : Prop := (∀ k, k < 2 → match Z k with
    | none => f 62 k = 0
    | some M => f 62 k = 1 ∧ (∀ j, j < 5711 → j ≠ 103 → f 61 (5711 * k + j) = wI (M j)) ∧ f 61 (5711 * k + 103) = wI (M 103) - 1) ∧
  match Z 2 with
    | none => f 58 53 = -1
    | some M => f 58 53 = wI (M 99) ∧ f 58 54 = wI (M 100) ∧ (∀ p, p < M 99 → f 83 p = wI (M p)) ∧ ∀ s, s < M 100 → f 84 s = wI (M (6 + s)) ∧ f 85 s = wI (M (26 + s))
def IM (f : Nat → Nat → Int32) (N : Nat → Nat) (U : US) (Z : Nat → Option (Nat → Nat)) (T : Nat → Nat) (L : Nat) (c : Nat → Int32) : Prop :=
  MH f N ∧ UM f U ∧ WRD f ∧ IGM f Z ∧ (f 58 13 = wI L ∧ ∀ k, k < L → f 65 k = sgb (T k)) ∧ CM f c
def QX (f f' : Nat → Nat → Int32) : Prop := ∀ a, 58 ≤ a ∧ a < 86 → f' a = f a
def QM (f f' : Nat → Nat → Int32) : Prop := ∀ a, a < 58 ∨ 86 ≤ a → f' a = f a
/-- the row of CALLED IN that is kept stays -/
def CQ (f f' : Nat → Nat → Int32) : Prop := f' 0 13 = f 0 13 ∧ f' 0 14 = f 0 14 ∧ f' 54 = f 54
theorem QX.tr {f g h : Nat → Nat → Int32} (h1 : QX f g) (h2 : QX g h) : QX f h := fun a ha => by rw [h2 a ha, h1 a ha]
theorem QM.tr {f g h : Nat → Nat → Int32} (h1 : QM f g) (h2 : QM g h) : QM f h := fun a ha => by rw [h2 a ha, h1 a ha]
theorem CQ.tr {f g h : Nat → Nat → Int32} (h1 : CQ f g) (h2 : CQ g h) : CQ f h := ⟨by rw [h2.1, h1.1], by rw [h2.2.1, h1.2.1], by rw [h2.2.2, h1.2.2]⟩
theorem IY_mk (h : IY S xs f z N U Z T L c) (hc : KH f' z 1 N') (hr : RI f') (hu : UX f' U' N') (hv : UV U' N') (h86 : ∀ a, 86 ≤ a → f' a = f a) (h27 : f' 27 = f 27) (h3 : f' 0 3 = f 0 3) (h7 : f' 0 7 = f 0 7) (h32 : f' 32 = f 32) (hx : CX f' c') : IY S xs f' z N' U' Z T L c' := by
  obtain ⟨a1, a2, a3, a4, a5, a6, a7, a8, a9⟩ := h
  refine ⟨a1, a2, hc, hr, hu, hv, IG_ZX a2 (ZX_rf z) a7 (fun a _ h => h86 a h) h27 h3, ?_, hx⟩
  unfold TP
  rw [h7, h32]
  exact a8
/-- cells that are not among what is kept changed -/
theorem IY_s (h : IY S xs f z N U Z T L c) (h0 : f' 0 3 = f 0 3 ∧ f' 0 7 = f 0 7) (hr : RI f') (hs : ∀ a, (1 ≤ a ∧ a ≤ 13) ∨ (27 ≤ a ∧ a ≤ 29) ∨ a = 32 ∨ 86 ≤ a → f' a = f a) (hx : CX f' c') : IY S xs f' z N U Z T L c' :=
  IY_mk h (KH_lo h.2.2.1 (fun a ha => hs a (by omega))) hr (UX_c h.2.2.2.2.1 (hs 28 (by omega)) (hs 29 (by omega)) (fun _ _ => rfl)) h.2.2.2.2.2.1 (fun a ha => hs a (by omega)) (hs 27 (by omega)) h0.1 h0.2 (hs 32 (by omega)) hx
theorem CX_s (h : CX f c) (h0 : f' 0 = f 0) (h57 : f' 57 = f 57) : CX f' c := by
  unfold CX
  rw [h0, h57]
  exact h
theorem IY_QM (h : IY S xs f z N U Z T L c) (hq : QM f f') : IY S xs f' z N U Z T L c :=
  IY_s h ⟨by rw [hq 0 (by omega)], by rw [hq 0 (by omega)]⟩ (RI_c h.2.2.2.1 (hq 38 (by omega))) (fun a ha => hq a (by omega)) (CX_s h.2.2.2.2.2.2.2.2 (hq 0 (by omega)) (hq 57 (by omega)))
/-- how often it was refused -/
def ixC (e : Nat) : Nat := if e < 4 then e else e - 1
def refC (c : Nat → Int32) (e : Nat) : Nat → Int32 := upd (upd c 0 (-(wI e))) (ixC e) (c (ixC e) + 1)
def okC (c : Nat → Int32) : Nat → Int32 := upd c 0 0
theorem x_accept (h : IY S xs f z N U Z T L c) {d : Nat} (hd : 1 ≤ d) (a : Int32) : ∃ f', EC d mX_accept [.ref 0, .int a] (mkM f z) = some (some (.int a), mkM f' z) ∧ IY S xs f' z N U Z T L (okC c) ∧ f' 0 13 = 0 ∧ QX f f' := by
  have i1 := t_X_accept (f := f) h.1 hd a
  refine ⟨_, i1, ?_, by rw [up_eq, upd_eq], fun b hb => up_ne _ _ _ (by omega)⟩
  have hx := h.2.2.2.2.2.2.2.2
  refine IY_s h ⟨by rw [up_eq, upd_ne _ _ _ (by decide), upd_ne _ _ _ (by decide)], by rw [up_eq, upd_ne _ _ _ (by decide), upd_ne _ _ _ (by decide)]⟩ (RI_c h.2.2.2.1 (up_ne _ _ _ (by decide))) (fun b hb => up_ne _ _ _ (by omega)) ?_
  unfold CX okC at *
  simp (disch := decide) only [up_eq, up_ne, upd_ne, upd_eq]
  simp only [hx, and_self]
theorem x_refuse (h : IY S xs f z N U Z T L c) {e : Nat} (he : e = 1 ∨ e = 2 ∨ e = 3 ∨ e = 5 ∨ e = 6) {d : Nat} (hd : 1 ≤ d) : ∃ f', EC d mX_refuse [.ref 0, .int (-(wI e))] (mkM f z) = some (some (.int (-(wI e))), mkM f' z) ∧ IY S xs f' z N U Z T L (refC c e) ∧ CQ f f' ∧ QX f f' := by
  have hx := h.2.2.2.2.2.2.2.2
  have key : ∀ j, f 57 j = c (j + 1) → ixC e = j + 1 → j < 5 → ∃ f', mkM (up (up f 0 (upd (f 0) 18 (-(wI e)))) 57 (upd (f 57) j (f 57 j + 1))) z = mkM f' z ∧ IY S xs f' z N U Z T L (refC c e) ∧ CQ f f' ∧ QX f f' := by
    intro j hj hi h5
    refine ⟨_, rfl, ?_, ⟨?_, ?_, ?_⟩, fun b hb => by rw [up_ne _ _ _ (by omega), up_ne _ _ _ (by omega)]⟩
    · refine IY_s h ⟨by rw [up_ne _ _ _ (by decide), up_eq, upd_ne _ _ _ (by decide)], by rw [up_ne _ _ _ (by decide), up_eq, upd_ne _ _ _ (by decide)]⟩ (RI_c h.2.2.2.1 (by rw [up_ne _ _ _ (by decide), up_ne _ _ _ (by decide)])) (fun b hb => by rw [up_ne _ _ _ (by omega), up_ne _ _ _ (by omega)]) ?_
      unfold CX refC at *
      rw [hi, hj]
      rcases (show j = 0 ∨ j = 1 ∨ j = 2 ∨ j = 3 ∨ j = 4 by omega) with rfl | rfl | rfl | rfl | rfl <;>
      · simp (disch := decide) only [up_eq, up_ne, upd_ne, upd_eq]
        simp only [hx, and_self]
    · rw [up_ne _ _ _ (by decide), up_eq, upd_ne _ _ _ (by decide)]
    · rw [up_ne _ _ _ (by decide), up_eq, upd_ne _ _ _ (by decide)]
    · rw [up_ne _ _ _ (by decide), up_ne _ _ _ (by decide)]
  obtain ⟨x0, x1, x2, x3, x4, x5, x6, x7, x8⟩ := hx
  rcases he with rfl | rfl | rfl | rfl | rfl
  · obtain ⟨f', k1, k2⟩ := key 0 x1 rfl (by decide)
    exact ⟨f', by rw [t_X_refuse_1 h.1 hd, ← k1], k2⟩
  · obtain ⟨f', k1, k2⟩ := key 1 x2 rfl (by decide)
    exact ⟨f', by rw [t_X_refuse_2 h.1 hd, ← k1], k2⟩
  · obtain ⟨f', k1, k2⟩ := key 2 x3 rfl (by decide)
    exact ⟨f', by rw [t_X_refuse_3 h.1 hd, ← k1], k2⟩
  · obtain ⟨f', k1, k2⟩ := key 3 x4 rfl (by decide)
    exact ⟨f', by rw [t_X_refuse_5 h.1 hd, ← k1], k2⟩
  · obtain ⟨f', k1, k2⟩ := key 4 x5 rfl (by decide)
    exact ⟨f', by rw [t_X_refuse_6 h.1 hd, ← k1], k2⟩
theorem IGM_c (h : IGM f Z) (h1 : f' 62 = f 62) (h2 : f' 61 = f 61) (h3 : f' 58 53 = f 58 53) (h4 : f' 58 54 = f 58 54) (h5 : f' 83 = f 83) (h6 : f' 84 = f 84) (h7 : f' 85 = f 85) : IGM f' Z := by
  unfold IGM
  rw [h1, h2, h3, h4, h5, h6, h7]
  exact h
theorem IM_mk (h : IM f N U Z T L c) (hm : MH f' N') (hu : UM f' U') (h64 : f' 64 = f 64) (h62 : f' 62 = f 62) (h61 : f' 61 = f 61) (h3 : f' 58 53 = f 58 53) (h4 : f' 58 54 = f 58 54) (h5 : f' 83 = f 83) (h6 : f' 84 = f 84) (h7 : f' 85 = f 85) (h13 : f' 58 13 = f 58 13) (h65 : f' 65 = f 65) (hc : CM f' c') : IM f' N' U' Z T L c' := by
  obtain ⟨a1, a2, a3, a4, a5, a6⟩ := h
  refine ⟨hm, hu, ?_, IGM_c a4 h62 h61 h3 h4 h5 h6 h7, ?_, hc⟩
  · unfold WRD; rw [h64]; exact a3
  · rw [h13, h65]; exact a5
theorem IM_QX (h : IM f N U Z T L c) (hq : QX f f') : IM f' N U Z T L c := by
  have q : ∀ a, 58 ≤ a → a < 86 → f' a = f a := fun a h1 h2 => hq a ⟨h1, h2⟩
  refine IM_mk h ⟨MK_60 h.1.1 (q 60 (by decide) (by decide)), h.1.2.1, h.1.2.2.1, by rw [q 58 (by decide) (by decide)]; exact h.1.2.2.2⟩ (UM_c h.2.1 (by rw [q 58 (by decide) (by decide)]) (q 71 (by decide) (by decide))) (q _ (by decide) (by decide)) (q _ (by decide) (by decide)) (q _ (by decide) (by decide)) (by rw [q 58 (by decide) (by decide)]) (by rw [q 58 (by decide) (by decide)]) (q _ (by decide) (by decide)) (q _ (by decide) (by decide)) (q _ (by decide) (by decide)) (by rw [q 58 (by decide) (by decide)]) (q _ (by decide) (by decide)) ?_
  unfold CM
  rw [q 58 (by decide) (by decide), q 59 (by decide) (by decide)]
  exact h.2.2.2.2.2
theorem CM_c (h : CM f c) (h59 : f' 59 = f 59) (h58 : ∀ k, k = 0 ∨ k = 14 ∨ k = 43 ∨ k = 6 → f' 58 k = f 58 k) : CM f' c := by
  unfold CM
  rw [h59, h58 0 (by decide), h58 14 (by decide), h58 43 (by decide), h58 6 (by decide)]
  exact h
/-- what a deed, or asking, changes in the reference -/
theorem IM_MG (h : IM f N U Z T L c) (hg : MG f f') (hm : MH f' N') (hu : UM f' U') : IM f' N' U' Z T L c := by
  refine IM_mk h hm hu (hg.1 _ (by decide) (by decide) (by decide) (by decide)) (hg.1 _ (by decide) (by decide) (by decide) (by decide)) (hg.1 _ (by decide) (by decide) (by decide) (by decide)) (hg.2 _ (by decide) (by decide) (by decide) (by decide) (by decide)) (hg.2 _ (by decide) (by decide) (by decide) (by decide) (by decide)) (hg.1 _ (by decide) (by decide) (by decide) (by decide)) (hg.1 _ (by decide) (by decide) (by decide) (by decide)) (hg.1 _ (by decide) (by decide) (by decide) (by decide)) (hg.2 _ (by decide) (by decide) (by decide) (by decide) (by decide)) (hg.1 _ (by decide) (by decide) (by decide) (by decide)) (CM_c h.2.2.2.2.2 (hg.1 _ (by decide) (by decide) (by decide) (by decide)) (fun k hk => hg.2 _ (by omega) (by omega) (by omega) (by omega) (by omega)))
theorem MG_QM {f f' : Nat → Nat → Int32} (h : MG f f') : QM f f' := fun a ha => h.1 a (by omega) (by omega) (by omega) (by omega)
theorem m_good (hz : Sh z) (h : IM f N U Z T L c) {d : Nat} (hd : 1 ≤ d) (a : Int32) : ∃ f', EC d mM_good [.ref 58, .int a] (mkM f z) = some (some (.int a), mkM f' z) ∧ IM f' N U Z T L (okC c) ∧ QM f f' := by
  refine ⟨_, t_M_good hz hd a, ?_, fun b hb => up_ne _ _ _ (by omega)⟩
  have k : ∀ j, j ≠ 0 → up f 58 (upd (f 58) 0 0) 58 j = f 58 j := fun j hj => by rw [up_eq, upd_ne _ _ _ hj]
  refine IM_mk h ⟨MK_up h.1.1 (by decide) _, h.1.2.1, h.1.2.2.1, by rw [k 24 (by decide)]; exact h.1.2.2.2⟩ (UM_c h.2.1 (k 31 (by decide)) (up_ne _ _ _ (by decide))) (up_ne _ _ _ (by decide)) (up_ne _ _ _ (by decide)) (up_ne _ _ _ (by decide)) (k _ (by decide)) (k _ (by decide)) (up_ne _ _ _ (by decide)) (up_ne _ _ _ (by decide)) (up_ne _ _ _ (by decide)) (k _ (by decide)) (up_ne _ _ _ (by decide)) ?_
  have hx := h.2.2.2.2.2
  unfold CM okC at *
  simp (disch := decide) only [up_eq, up_ne, upd_ne, upd_eq]
  simp only [hx, and_self]
theorem m_refuses (hz : Sh z) (h : IM f N U Z T L c) {e : Nat} (he : e = 1 ∨ e = 2 ∨ e = 3 ∨ e = 5 ∨ e = 6) {d : Nat} (hd : 1 ≤ d) : ∃ f', EC d mM_refuses [.ref 58, .int (-(wI e))] (mkM f z) = some (some (.int (-(wI e))), mkM f' z) ∧ IM f' N U Z T L (refC c e) ∧ QM f f' := by
  refine ⟨_, t_M_refuses hz hd (k := e) (by omega), ?_, fun b hb => by rw [up_ne _ _ _ (by omega), up_ne _ _ _ (by omega)]⟩
  have k : ∀ j, j ≠ 0 → up (up f 58 (upd (f 58) 0 (-(wI e)))) 59 (upd (f 59) e (f 59 e + 1)) 58 j = f 58 j := fun j hj => by rw [up_ne _ _ _ (by decide), up_eq, upd_ne _ _ _ hj]
  have n : ∀ a, a ≠ 58 → a ≠ 59 → up (up f 58 (upd (f 58) 0 (-(wI e)))) 59 (upd (f 59) e (f 59 e + 1)) a = f a := fun a h1 h2 => by rw [up_ne _ _ _ h2, up_ne _ _ _ h1]
  refine IM_mk h ⟨MK_60 h.1.1 (n 60 (by decide) (by decide)), h.1.2.1, h.1.2.2.1, by rw [k 24 (by decide)]; exact h.1.2.2.2⟩ (UM_c h.2.1 (k 31 (by decide)) (n _ (by decide) (by decide))) (n _ (by decide) (by decide)) (n _ (by decide) (by decide)) (n _ (by decide) (by decide)) (k _ (by decide)) (k _ (by decide)) (n _ (by decide) (by decide)) (n _ (by decide) (by decide)) (n _ (by decide) (by decide)) (k _ (by decide)) (n _ (by decide) (by decide)) ?_
  have hx := h.2.2.2.2.2
  unfold CM refC at *
  obtain ⟨x0, x1, x2, x3, x4, x5, x6, x7, x8⟩ := hx
  rcases he with rfl | rfl | rfl | rfl | rfl <;>
  · simp (disch := decide) only [up_eq, up_ne, upd_ne, upd_eq, show ixC 1 = 1 from rfl, show ixC 2 = 2 from rfl, show ixC 3 = 3 from rfl, show ixC 5 = 4 from rfl, show ixC 6 = 5 from rfl, x0, x1, x2, x3, x4, x5, x6, x7, x8, and_self]
end
