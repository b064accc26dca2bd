/-! ===== chests with their laws; what is asked of them, on both sides ===== -/
def LR (f : Nat → Nat → Int32) (z : Mem) (b : Nat) (N : Nat → Nat) : Prop := (∀ i, i < N 102 → ∃ q hl sl cls, f (b + 12) i = wI q ∧ 86 ≤ q ∧ q < 2147480000 ∧ Pg z q hl sl ∧ PT f q hl sl cls ∧ LT N i cls) ∧ ∀ i, i < 6 → f (b + 12) i = 0 ∨ ∃ q hl sl, f (b + 12) i = wI q ∧ 86 ≤ q ∧ q < 2147480000 ∧ Pg z q hl sl
def KH (f : Nat → Nat → Int32) (z : Mem) (b : Nat) (N : Nat → Nat) : Prop := Ch z b ∧ CK f b N ∧ VK N ∧ LR f z b N
/-- the rules' own fields -/
def RI (f : Nat → Nat → Int32) : Prop := ∃ dn lt : Int, f 38 4 = jI dn ∧ f 38 5 = jI lt ∧ (-1000000000 ≤ dn ∧ dn ≤ 1000000000) ∧ (-1000000000 ≤ lt ∧ lt ≤ 1000000000) ∧ S2 f
def bOK (b : Nat) : Prop := b ≠ 0 ∧ b < 2147480000 ∧ (b + 12 < 38 ∨ 86 ≤ b)
/-- what changes: the rules' rows, and the chest at b -/
def FX (b : Nat) (f f' : Nat → Nat → Int32) : Prop := ∀ a, a ≠ 38 → a ≠ 39 → (a < b ∨ b + 12 < a) → f' a = f a
theorem FX.tr {b : Nat} {f g h : Nat → Nat → Int32} (h1 : FX b f g) (h2 : FX b g h) : FX b f h := fun a a1 a2 a3 => by rw [h2 a a1 a2 a3, h1 a a1 a2 a3]
theorem FX.rf (b : Nat) (f : Nat → Nat → Int32) : FX b f f := fun _ _ _ _ => rfl
theorem FX_up {b : Nat} {f : Nat → Nat → Int32} {a : Nat} (ha : b ≤ a) (hb : a ≤ b + 12) (g : Nat → Int32) : FX b f (up f a g) := fun c _ _ h => up_ne _ _ _ (by omega)
theorem okCl_ob {n m : Nat} {l k : List Nat} {c : MCQ} {x y : Nat} (h1 : okCl (0, n, x, l) c = true) (h2 : okCl (0, m, y, k) c = true) : n = m := by
  obtain ⟨fs, e, _⟩ := okO h1 rfl
  obtain ⟨gs, e', _⟩ := okO h2 rfl
  rw [e] at e'
  cases e'
  rfl
theorem okCl_01 {n m x y t : Nat} {l k : List Nat} {c : MCQ} (ht : t ≠ 0) (h1 : okCl (0, n, x, l) c = true) (h2 : okCl (t, m, y, k) c = true) : False := by
  obtain ⟨fs, e, _⟩ := okO h1 rfl
  rw [e] at h2
  simp only [okCl, Bool.and_eq_true, beq_iff_eq] at h2
  exact ht h2.1.1
theorem Ch_arr {z : Mem} {b j : Nat} (h : Ch z b) (h1 : 1 ≤ j) (h2 : j < 13) : ∃ t m y k, t ≠ 0 ∧ okCl (t, m, y, k) (z.2.2 (b + j)) = true := by
  have := h j h2
  rcases (show j = 1 ∨ j = 2 ∨ j = 3 ∨ j = 4 ∨ j = 5 ∨ j = 6 ∨ j = 7 ∨ j = 8 ∨ j = 9 ∨ j = 10 ∨ j = 11 ∨ j = 12 by omega) with rfl | rfl | rfl | rfl | rfl | rfl | rfl | rfl | rfl | rfl | rfl | rfl
  all_goals exact ⟨_, _, _, _, by decide, this⟩
theorem Ch_dis {z : Mem} {b c : Nat} (h : Ch z b) (h' : Ch z c) (hn : b ≠ c) : b + 12 < c ∨ c + 12 < b := by
  rcases Nat.lt_or_ge b c with e | e
  · rcases Nat.lt_or_ge (b + 12) c with e2 | e2
    · exact Or.inl e2
    · exfalso
      obtain ⟨t, m, y, k, ht, q⟩ := Ch_arr h (j := c - b) (by omega) (by omega)
      rw [show b + (c - b) = c by omega] at q
      exact okCl_01 ht (h' 0 (by decide)) q
  · rcases Nat.lt_or_ge (c + 12) b with e2 | e2
    · exact Or.inr e2
    · exfalso
      obtain ⟨t, m, y, k, ht, q⟩ := Ch_arr h' (j := b - c) (by omega) (by omega)
      rw [show c + (b - c) = b by omega] at q
      exact okCl_01 ht (h 0 (by decide)) q
theorem Pg_dis {z : Mem} {b q hl sl : Nat} (h : Ch z b) (hq : Pg z q hl sl) : q + 2 < b ∨ b + 12 < q := by
  rcases Nat.lt_or_ge (b + 12) q with e | e
  · exact Or.inr e
  · rcases Nat.lt_or_ge (q + 2) b with e2 | e2
    · exact Or.inl e2
    · exfalso
      rcases Nat.lt_or_ge q b with e3 | e3
      · rcases (show b = q + 1 ∨ b = q + 2 by omega) with e4 | e4
        · have := hq.2.1
          rw [← e4] at this
          exact okCl_01 (by decide) (h 0 (by decide)) this
        · have := hq.2.2.1
          rw [← e4] at this
          exact okCl_01 (by decide) (h 0 (by decide)) this
      · rcases Nat.eq_or_lt_of_le e3 with e4 | e4
        · have := hq.1
          rw [← e4] at this
          have := okCl_ob (h 0 (by decide)) this
          exact absurd this (by decide)
        · obtain ⟨t, m, y, k, ht, w⟩ := Ch_arr h (j := q - b) (by omega) (by omega)
          rw [show b + (q - b) = q by omega] at w
          exact okCl_01 ht hq.1 w
theorem PT_c {f f' : Nat → Nat → Int32} {q hl sl : Nat} {cls : List CL} (h : PT f q hl sl cls) (h0 : f' q = f q) (h1 : f' (q + 1) = f (q + 1)) (h2 : f' (q + 2) = f (q + 2)) : PT f' q hl sl cls := by
  unfold PT
  rw [h0, h1, h2]
  exact h
theorem LR_c {f f' : Nat → Nat → Int32} {z : Mem} {b : Nat} {N M : Nat → Nat} (h : LR f z b N) (h12 : f' (b + 12) = f (b + 12)) (hq : ∀ q hl sl, 86 ≤ q → Pg z q hl sl → ∀ j, j ≤ 2 → f' (q + j) = f (q + j)) (hN : M 102 = N 102) (hT : ∀ i cls, i < N 102 → LT N i cls → LT M i cls) : LR f' z b M := by
  refine ⟨fun i hi => ?_, fun i hi => by rw [h12]; exact h.2 i hi⟩
  rw [hN] at hi
  obtain ⟨q, hl, sl, cls, a1, a2, a3, a4, a5, a6⟩ := h.1 i hi
  exact ⟨q, hl, sl, cls, by rw [h12]; exact a1, a2, a3, a4, PT_c a5 (hq q hl sl a2 a4 0 (by decide)) (hq q hl sl a2 a4 1 (by decide)) (hq q hl sl a2 a4 2 (by decide)), hT i cls hi a6⟩
/-- programs are not touched by what changes a chest -/
theorem FX_q {z : Mem} {b : Nat} {f f' : Nat → Nat → Int32} (h : Ch z b) (hf : FX b f f') : ∀ q hl sl, 86 ≤ q → Pg z q hl sl → ∀ j, j ≤ 2 → f' (q + j) = f (q + j) := by
  intro q hl sl h86 hq j hj
  have := Pg_dis h hq
  exact hf _ (by omega) (by omega) (by omega)
theorem LT_m {N M : Nat → Nat} (h : ∀ j, 104 ≤ j → M j = N j) : ∀ i cls, LT N i cls → LT M i cls := fun i cls hl => LT_cg hl (h _ (by omega)) (fun t _ => ⟨h _ (by omega), h _ (by omega)⟩)
theorem KH_FX {f f' : Nat → Nat → Int32} {z : Mem} {b : Nat} {N M : Nat → Nat} (h : KH f z b N) (hf : FX b f f') (h12 : f' (b + 12) = f (b + 12)) (hc : CK f' b M) (hv : VK M) (h102 : M 102 = N 102) (hm : ∀ j, 104 ≤ j → M j = N j) : KH f' z b M := ⟨h.1, hc, hv, LR_c h.2.2.2 h12 (FX_q h.1 hf) h102 (fun i cls _ => LT_m hm i cls)⟩
/-- another chest is not touched -/
theorem KH_oth {f f' : Nat → Nat → Int32} {z : Mem} {b c : Nat} {N : Nat → Nat} (h : KH f z c N) (hb : Ch z b) (hn : b ≠ c) (hc : bOK c) (hf : FX b f f') : KH f' z c N := by
  have hd := Ch_dis hb h.1 hn
  have hc2 := hc.2.2
  exact ⟨h.1, CK_c (fun j hj => hf _ (by omega) (by omega) (by omega)) h.2.1, h.2.2.1, LR_c h.2.2.2 (hf _ (by omega) (by omega) (by omega)) (FX_q hb hf) rfl (fun _ _ _ q => q)⟩
theorem LR_LA {f : Nat → Nat → Int32} {z : Mem} {b : Nat} {N : Nat → Nat} (hv : VK N) (h : LR f z b N) : ∃ cls, LA f z b N cls := by
  have h102 := hv.2.2.2.2.1
  have h103 := hv.2.2.2.2.2.1
  cases e : N 103 with
  | zero => exact ⟨[], Or.inl ⟨e, rfl⟩⟩
  | succ i =>
    obtain ⟨q, hl, sl, cls, a1, a2, a3, a4, a5, a6⟩ := h.1 i (by omega)
    exact ⟨cls, Or.inr ⟨i, q, hl, sl, e, by omega, a1, a2, a3, a4, a5, a6⟩⟩
/-- the laws of what is kept can be read -/
def LL (N : Nat → Nat) : Prop := ∀ i, i < N 102 → ∃ cls, LT N i cls
theorem LR_LL {f : Nat → Nat → Int32} {z : Mem} {b : Nat} {N : Nat → Nat} (h : LR f z b N) : LL N := fun i hi => by
  obtain ⟨q, hl, sl, cls, a1, a2, a3, a4, a5, a6⟩ := h.1 i hi
  exact ⟨cls, a6⟩
theorem LL_LM {N : Nat → Nat} (hv : VK N) (h : LL N) : ∃ cls, LM N cls := by
  have h102 := hv.2.2.2.2.1
  have h103 := hv.2.2.2.2.2.1
  cases e : N 103 with
  | zero => exact ⟨[], Or.inl ⟨e, rfl⟩⟩
  | succ i =>
    obtain ⟨cls, a6⟩ := h i (by omega)
    exact ⟨cls, Or.inr ⟨i, e, by omega, a6⟩⟩
theorem LL_c {N M : Nat → Nat} (h : LL N) (h102 : M 102 = N 102) (hm : ∀ j, 104 ≤ j → M j = N j) : LL M := fun i hi => by
  obtain ⟨cls, a⟩ := h i (by omega)
  exact ⟨cls, LT_m hm i cls a⟩
theorem RF_FX {b : Nat} {f f' : Nat → Nat → Int32} (h : RF b f f') : FX b f f' := fun a h1 h2 _ => h.1 a h1 h2
theorem RF_RI {b : Nat} {f f' : Nat → Nat → Int32} (h : RF b f f') (hr : RI f) : RI f' := by
  obtain ⟨dn, lt, a1, a2, a3, a4, _⟩ := hr
  exact ⟨dn, lt, by rw [h.2.1, a1], by rw [h.2.2.1, a2], a3, a4, h.2.2.2.1⟩
section
variable {z : Mem} {f : Nat → Nat → Int32} {N : Nat → Nat} {b : Nat}
theorem RF_KH (hc : KH f z b N) (hb : bOK b) {f' : Nat → Nat → Int32} (h : RF b f f') : KH f' z b N := by
  have := hb.2.2
  refine KH_FX hc (RF_FX h) (h.1 _ (by omega) (by omega)) (CK_c (fun j hj => h.1 _ (by omega) (by omega)) hc.2.1) hc.2.2.1 rfl (fun _ _ => rfl)
theorem x_pay (hz : Sh z) (hc : KH f z b N) (hb : bOK b) (hr : RI f) {s : Nat} (hs : s < N 100) {d : Nat} (hd : 5 ≤ d) :
    ∃ f', EC d mRules_payOf [.ref 38, .ref b, .int (wI s)] (mkM f z) = some (some (.int (wI (payP N s))), mkM f' z) ∧ RF b f f' := by
  obtain ⟨cls, hl⟩ := LR_LA hc.2.2.1 hc.2.2.2
  obtain ⟨dn, lt, a1, a2, a3, a4, a5⟩ := hr
  obtain ⟨f', i1, r⟩ := t_payOf hz hc.1 hc.2.1 hc.2.2.1 hl a1 a2 a3 a4 a5 hb.1 hb.2.1 hb.2.2 hs hd
  rw [payP_eq (LA_LM hl)] at i1
  exact ⟨f', i1, r⟩
theorem x_wear (hz : Sh z) (hc : KH f z b N) (hb : bOK b) (hr : RI f) {s : Nat} (hs : s < N 100) {d : Nat} (hd : 5 ≤ d) :
    ∃ f', EC d mRules_wearOf [.ref 38, .ref b, .int (wI s)] (mkM f z) = some (some (.int (wI (wearP N s))), mkM f' z) ∧ RF b f f' := by
  obtain ⟨cls, hl⟩ := LR_LA hc.2.2.1 hc.2.2.2
  obtain ⟨dn, lt, a1, a2, a3, a4, a5⟩ := hr
  obtain ⟨f', i1, r⟩ := t_wearOf hz hc.1 hc.2.1 hc.2.2.1 hl a1 a2 a3 a4 a5 hb.1 hb.2.1 hb.2.2 hs hd
  rw [wearP_eq (LA_LM hl)] at i1
  exact ⟨f', i1, r⟩
noncomputable def barI (N : Nat → Nat) (s p : Nat) : Int32 := by
  classical
  exact bz (barP N s p)
theorem bz_cg {p q : Prop} [d1 : Decidable p] [d2 : Decidable q] (h : p = q) : @bz p d1 = @bz q d2 := bz_congr (by rw [h])
theorem barI_0 (N : Nat → Nat) (s p : Nat) : (barI N s p = 0) = ¬ barP N s p := by
  classical
  exact (congrArg (· = 0) (bz_cg rfl)).trans (bz_0 _)
theorem x_bar (hz : Sh z) (hc : KH f z b N) (hb : bOK b) (hr : RI f) {s p : Nat} (hs : s < N 100) (hp : p < 6) {d : Nat} (hd : 5 ≤ d) :
    ∃ f', EC d mRules_isBarred [.ref 38, .ref b, .int (wI s), .int (wI p)] (mkM f z) = some (some (.int (barI N s p)), mkM f' z) ∧ RF b f f' := by
  obtain ⟨cls, hl⟩ := LR_LA hc.2.2.1 hc.2.2.2
  obtain ⟨dn, lt, a1, a2, a3, a4, a5⟩ := hr
  obtain ⟨f', i1, r⟩ := t_isBarred hz hc.1 hc.2.1 hc.2.2.1 hl a1 a2 a3 a4 a5 hb.1 hb.2.1 hb.2.2 hs hp (d := d) (by omega)
  refine ⟨f', ?_, r⟩
  rw [i1]
  congr 4
  classical
  exact bz_cg (barP_eq (LA_LM hl) s p dn lt)
/-- the reference: what it keeps, and that the law can be read -/
def MH (f : Nat → Nat → Int32) (N : Nat → Nat) : Prop := MK f N ∧ VK N ∧ LL N ∧ ∃ br : Bool, f 58 24 = bz (br = true)
theorem EF_MH (hm : MH f N) {f' : Nat → Nat → Int32} (h : EF f f') : MH f' N := ⟨h.mk hm.1, hm.2.1, hm.2.2.1, h.2.2⟩
theorem m_pay (hz : Sh z) (hm : MH f N) {s : Nat} (hs : s < N 100) {d : Nat} (hd : 45 ≤ d) :
    ∃ f', EC d mM_paysBy [.ref 58, .int (wI s)] (mkM f z) = some (some (.int (wI (payP N s))), mkM f' z) ∧ EF f f' := by
  obtain ⟨cls, hl⟩ := LL_LM hm.2.1 hm.2.2.1
  obtain ⟨f', i1, r⟩ := t_M_paysBy (dn := 0) (lt := 0) hz hm.1 hm.2.1 hl (by decide) (by decide) hm.2.2.2 hs hd
  rw [payP_eq hl] at i1
  exact ⟨f', i1, r⟩
theorem m_wear (hz : Sh z) (hm : MH f N) {s : Nat} (hs : s < N 100) {d : Nat} (hd : 45 ≤ d) :
    ∃ f', EC d mM_wornIn [.ref 58, .int (wI s)] (mkM f z) = some (some (.int (wI (wearP N s))), mkM f' z) ∧ EF f f' := by
  obtain ⟨cls, hl⟩ := LL_LM hm.2.1 hm.2.2.1
  obtain ⟨f', i1, r⟩ := t_M_wornIn (dn := 0) (lt := 0) hz hm.1 hm.2.1 hl (by decide) (by decide) hm.2.2.2 hs hd
  rw [wearP_eq hl] at i1
  exact ⟨f', i1, r⟩
theorem m_bar (hz : Sh z) (hm : MH f N) {s p : Nat} (hs : s < N 100) (hp : p < 6) {d : Nat} (hd : 45 ≤ d) :
    ∃ f', EC d mM_isBarred [.ref 58, .int (wI s), .int (wI p)] (mkM f z) = some (some (.int (barI N s p)), mkM f' z) ∧ EF f f' := by
  obtain ⟨cls, hl⟩ := LL_LM hm.2.1 hm.2.2.1
  obtain ⟨f', i1, r⟩ := t_M_isBarred (dn := 0) (lt := 0) hz hm.1 hm.2.1 hl (by decide) (by decide) hm.2.2.2 hs hp hd
  refine ⟨f', ?_, r⟩
  rw [i1]
  congr 4
  classical
  exact bz_cg (barP_eq hl s p 0 0)
theorem wearP_le (hv : VK N) (s : Nat) : wearP N s ≤ 12 := tellN_le hv.2.2.2.2.2.2.2.1
theorem payP_le (hv : VK N) {s : Nat} (hs : s < 10) : payP N s ≤ 9999 := tellN_le (Nat.le_trans (hv.2.2.2.2.2.2.2.2.2.2.1 s hs).2.1 (by decide))
end
