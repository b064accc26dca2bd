/-! ===== match: as many as the reference's table says ===== -/
def mfP (A : Nat → Nat) (x : Nat) : Nat → Nat → (Nat → Nat) → Nat → Nat × (Nat → Nat)
  | 0, _, st, k => (k, st)
  | c + 1, s, st, k => mfP A x c (s + 1) (kuP A 11 s st x).2.1 (if (kuP A 11 s st x).1 = true then k + 1 else k)
theorem cn_ext {P : Nat → Bool} (F : Nat) : ∀ c, cn P F 0 ≤ cn P (F + c) 0 := by
  intro c
  induction c with
  | zero => exact Nat.le_refl _
  | succ c ih => rw [show F + (c + 1) = F + c + 1 by omega, cn_snoc]; omega
section
variable {A : Nat → Nat} {X a : Nat}
def MJ (A : Nat → Nat) (X a s : Nat) (st : Nat → Nat) (k : Nat) : Prop :=
  (∀ g t, st g = t + 1 → g < 10 ∧ (A t).testBit g = true ∧ ¬ X.testBit g = true ∧ a ≤ t ∧ t < s) ∧
  k = cn (fun g => decide (st g ≠ 0)) 10 0 ∧
  k ≤ cn (fun t => exB st (fun _ => true) t 10) (s - a) a ∧
  ∃ R, ClR A X st R ∧ ∀ t, a ≤ t → t < s → (∃ g, st g = t + 1) ∨ ∀ h, h < 10 → (A t).testBit h = true → ¬ X.testBit h = true → R h = true
theorem MJ_step {s : Nat} {st : Nat → Nat} {k : Nat} (ha : a ≤ s) (h : MJ A X a s st k) : MJ A X a (s + 1) (kuP A 11 s st X).2.1 (if (kuP A 11 s st X).1 = true then k + 1 else k) := by
  obtain ⟨v, k1, k2, R, hR, hA⟩ := h
  obtain ⟨pf, ps⟩ := ku_P (A := A) (X := X) (st := st) 11 s X (fun _ q => q) (by omega)
  rcases hr : kuP A 11 s st X with ⟨b, st2, B2⟩
  rw [hr] at pf ps
  cases b with
  | true =>
    obtain ⟨p1, ⟨w, w1, w2⟩, p3, ⟨q0, q1, q2, q3, q4⟩, p5, p6⟩ := ps rfl
    have v' : ∀ g t, st2 g = t + 1 → g < 10 ∧ (A t).testBit g = true ∧ ¬ X.testBit g = true ∧ a ≤ t ∧ t < s + 1 := by
      intro g t hg
      rcases p5 g t hg with e | ⟨e1, e2, e3, e4⟩
      · have := v g t e; exact ⟨this.1, this.2.1, this.2.2.1, this.2.2.2.1, by omega⟩
      · refine ⟨e1, e2, e3, ?_⟩
        rcases e4 with e4 | ⟨q, e4⟩
        · omega
        · have := v q t e4; omega
    refine ⟨v', ?_, ?_, R, ?_, ?_⟩
    · show k + 1 = cn (fun g => decide (st2 g ≠ 0)) 10 0
      have l1 := cn_lt (P := fun g => decide (st g ≠ 0)) (Q := fun g => decide (st2 g ≠ 0)) (s := q0) (decide_eq_false (fun q => q q2)) (decide_eq_true q3) 10 0 (fun j _ _ hj => by
        have hj := of_decide_eq_true hj
        refine decide_eq_true (fun e => ?_)
        by_cases e2 : j = q0
        · rw [e2] at hj; exact hj q2
        · exact hj ((q4 j e2).mp e)) (by omega) (by omega)
      have l2 := cn_one (P := fun g => decide (st2 g ≠ 0)) (Q := fun g => decide (st g ≠ 0)) (v := q0) 10 0 (fun j _ _ hj => by
        have hj := of_decide_eq_true hj
        by_cases e2 : j = q0
        · exact Or.inr e2
        · exact Or.inl (decide_eq_true (fun e => hj ((q4 j e2).mpr e))))
      omega
    · show k + 1 ≤ cn (fun t => exB st2 (fun _ => true) t 10) (s + 1 - a) a
      have l1 := cn_le (P := fun t => exB st (fun _ => true) t 10) (Q := fun t => exB st2 (fun _ => true) t 10) (s - a) a (fun t _ _ ht => by
        obtain ⟨g, _, _, g3⟩ := (exB_t 10).mp ht
        obtain ⟨g', g4⟩ := p3 t ⟨g, g3⟩
        exact (exB_t 10).mpr ⟨g', (v' g' t g4).1, rfl, g4⟩)
      rw [show s + 1 - a = (s - a) + 1 by omega, cn_snoc, show a + (s - a) = s by omega, if_pos ((exB_t 10).mpr ⟨w, (v' w s w2).1, rfl, w2⟩)]
      omega
    · intro g hg
      have e : st2 g = st g := (p6 R hR).1 g hg
      show st2 g ≠ 0 ∧ ∀ h, h < 10 → (A (st2 g - 1)).testBit h = true → ¬ X.testBit h = true → R h = true
      rw [e]; exact hR g hg
    · intro t h1 h2
      by_cases e : t = s
      · rw [e]; exact Or.inl ⟨w, w2⟩
      · rcases hA t h1 (by omega) with q | q
        · exact Or.inl (p3 t q)
        · exact Or.inr q
  | false =>
    obtain ⟨f1, f2, f3, f4⟩ := pf rfl
    have f1' : st2 = st := f1
    subst f1'
    refine ⟨fun g t hg => by have := v g t hg; exact ⟨this.1, this.2.1, this.2.2.1, this.2.2.2.1, by omega⟩, k1, ?_, fun g => R g || (B2.testBit g && !X.testBit g), ?_, ?_⟩
    · show k ≤ cn (fun t => exB st2 (fun _ => true) t 10) (s + 1 - a) a
      rw [show s + 1 - a = (s - a) + 1 by omega, cn_snoc]; omega
    · intro g hg
      have put : ∀ h, B2.testBit h = true → ¬ X.testBit h = true → (R h || (B2.testBit h && !X.testBit h)) = true := fun h a b => by
        rw [a]
        cases hx : X.testBit h
        · cases R h <;> rfl
        · exact absurd hx b
      rcases (Bool.or_eq_true _ _).mp hg with q | q
      · exact ⟨(hR g q).1, fun h a b c => by
          show (R h || _) = true
          rw [(hR g q).2 h a b c]; rfl⟩
      · have q := (Bool.and_eq_true _ _).mp q
        have := f3 g q.1 (by rw [Bool.not_eq_true'] at q; rw [q.2]; decide)
        exact ⟨this.1, fun h a b c => put h (this.2 h a b) c⟩
    · intro t h1 h2
      by_cases e : t = s
      · rw [e]
        refine Or.inr (fun h a b c => ?_)
        show (R h || (B2.testBit h && !X.testBit h)) = true
        have hb : B2.testBit h = true := f4 h a b
        rw [hb]
        cases hx : X.testBit h
        · cases R h <;> rfl
        · exact absurd hx c
      · rcases hA t h1 (by omega) with q | q
        · exact Or.inl q
        · exact Or.inr (fun h a b c => by show (R h || _) = true; rw [q h a b c]; rfl)
theorem MJ_all : ∀ c s st k, a ≤ s → MJ A X a s st k → MJ A X a (s + c) (mfP A X c s st k).2 (mfP A X c s st k).1 := by
  intro c
  induction c with
  | zero => intro s st k _ h; exact h
  | succ c ih =>
    intro s st k ha h
    rw [mfP, show s + (c + 1) = s + 1 + c by omega]
    exact ih (s + 1) _ _ (by omega) (MJ_step ha h)
theorem mf_dp {F n : Nat} (hF : F ≤ 10) (hA : ∀ t g, (A t).testBit g = true → g < F) : (mfP A X n a (fun _ => 0) 0).1 = dpD A F n a X := by
  have z : ∀ c i, cn (fun _ => false) c i = 0 := by
    intro c
    induction c with
    | zero => intro i; rfl
    | succ c ih => intro i; rw [cn, ih]; rfl
  have h0 : MJ A X a a (fun _ => 0) 0 := ⟨fun g t h => by have h : 0 = t + 1 := h; omega, (z 10 0).symm, Nat.zero_le _, fun _ => false, fun g hg => (by cases hg), fun t h1 h2 => by omega⟩
  obtain ⟨v, k1, k2, R, hR, hN⟩ := MJ_all n a (fun _ => 0) 0 (Nat.le_refl _) h0
  generalize (mfP A X n a (fun _ => 0) 0).2 = st at *
  generalize (mfP A X n a (fun _ => 0) 0).1 = k at *
  rw [show a + n - a = n by omega] at k2
  have lo := dp_lo (A := A) (F := F) (m := fun t => exB st (fun _ => true) t 10) (st := st) n a X (fun t _ _ ht => by
    obtain ⟨g, _, _, g3⟩ := (exB_t 10).mp ht
    have := v g t g3
    exact ⟨g, hA t g this.2.1, g3, this.2.1, this.2.2.1⟩)
  have up1 := dp_up (A := A) (F := F) (C := fun t => !exB st (fun g => !R g && decide (st g ≠ 0)) t 10) (R := R) n a X (fun t h1 h2 hC g hg f1 f2 => by
    have hC' : exB st (fun g => !R g && decide (st g ≠ 0)) t 10 = false := by
      cases hh : exB st (fun g => !R g && decide (st g ≠ 0)) t 10
      · rfl
      · rw [hh] at hC; cases hC
    rcases hN t h1 h2 with ⟨q, hq⟩ | hq
    · have vq := v q t hq
      by_cases e : R q = true
      · refine (hR q e).2 g (by omega) ?_ f2
        rw [hq, Nat.add_sub_cancel]; exact f1
      · exfalso
        have : exB st (fun g => !R g && decide (st g ≠ 0)) t 10 = true := (exB_t 10).mpr ⟨q, vq.1, by
          show (!R q && decide (st q ≠ 0)) = true
          rw [decide_eq_true (show st q ≠ 0 by omega)]
          cases hh : R q
          · rfl
          · exact absurd hh e, hq⟩
        rw [hC'] at this; cases this
    · exact hq g (by omega) f1 f2)
  have l1 := cn_le (P := fun t => !!exB st (fun g => !R g && decide (st g ≠ 0)) t 10) (Q := fun t => exB st (fun g => !R g && decide (st g ≠ 0)) t 10) n a (fun j _ _ h => by rw [Bool.not_not] at h; exact h)
  have l2 := cn_img (st := st) (Q := fun g => !R g && decide (st g ≠ 0)) n a 10
  have l3 := cn_ext (P := fun g => R g && !X.testBit g) F (10 - F)
  rw [show F + (10 - F) = 10 by omega] at l3
  have l4 := cn_add (P := fun g => R g && !X.testBit g) (Q := fun g => !R g && decide (st g ≠ 0)) (W := fun g => decide (st g ≠ 0)) 10 0 (fun j _ _ h => by
    have := (Bool.and_eq_true _ _).mp h
    refine ⟨decide_eq_true (hR j this.1).1, ?_⟩
    show (!R j && _) = false
    rw [this.1]; rfl) (fun j _ _ h => ((Bool.and_eq_true _ _).mp h).2)
  omega
end
