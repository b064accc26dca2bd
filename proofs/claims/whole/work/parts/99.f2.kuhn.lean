/-! ===== match: augmenting paths, in pure ===== -/
abbrev KR := Bool × (Nat → Nat) × Nat
def kuL (A : Nat → Nat) (P : Nat → (Nat → Nat) → Nat → KR) (s : Nat) : Nat → Nat → (Nat → Nat) → Nat → KR
  | 0, _, st, B => (false, st, B)
  | c + 1, g, st, B => if (A s).testBit g = true ∧ ¬ B.testBit g = true then (if st g = 0 then (true, rgU st g (s + 1), B ||| 2 ^ g) else match P (st g - 1) st (B ||| 2 ^ g) with
      | (true, st2, B2) => (true, rgU st2 g (s + 1), B2)
      | (false, st2, B2) => kuL A P s c (g + 1) st2 B2) else kuL A P s c (g + 1) st B
def kuP (A : Nat → Nat) : Nat → Nat → (Nat → Nat) → Nat → KR
  | 0, _, st, B => (false, st, B)
  | m + 1, s, st, B => kuL A (kuP A m) s 10 0 st B
section
variable {A : Nat → Nat} {P : Nat → (Nat → Nat) → Nat → KR} {s : Nat}
theorem kuL_n {c g B : Nat} {st : Nat → Nat} (h : ¬ ((A s).testBit g = true ∧ ¬ B.testBit g = true)) : kuL A P s (c + 1) g st B = kuL A P s c (g + 1) st B := by rw [kuL, if_neg h]
theorem kuL_0 {c g B : Nat} {st : Nat → Nat} (h : (A s).testBit g = true ∧ ¬ B.testBit g = true) (h0 : st g = 0) : kuL A P s (c + 1) g st B = (true, rgU st g (s + 1), B ||| 2 ^ g) := by rw [kuL, if_pos h, if_pos h0]
theorem kuL_t {c g B : Nat} {st st2 : Nat → Nat} {B2 : Nat} (h : (A s).testBit g = true ∧ ¬ B.testBit g = true) (h0 : ¬ st g = 0) (e : P (st g - 1) st (B ||| 2 ^ g) = (true, st2, B2)) : kuL A P s (c + 1) g st B = (true, rgU st2 g (s + 1), B2) := by rw [kuL, if_pos h, if_neg h0, e]
theorem kuL_f {c g B : Nat} {st st2 : Nat → Nat} {B2 : Nat} (h : (A s).testBit g = true ∧ ¬ B.testBit g = true) (h0 : ¬ st g = 0) (e : P (st g - 1) st (B ||| 2 ^ g) = (false, st2, B2)) : kuL A P s (c + 1) g st B = kuL A P s c (g + 1) st2 B2 := by rw [kuL, if_pos h, if_neg h0, e]
end
/-- foils that are all held, and whose holders fit nothing else -/
def ClR (A : Nat → Nat) (X : Nat) (st : Nat → Nat) (R : Nat → Bool) : Prop := ∀ g, R g = true → st g ≠ 0 ∧ ∀ h, h < 10 → (A (st g - 1)).testBit h = true → ¬ X.testBit h = true → R h = true
def dead (A : Nat → Nat) (st : Nat → Nat) (B B' : Nat) : Prop := ∀ g, B'.testBit g = true → ¬ B.testBit g = true → st g ≠ 0 ∧ ∀ h, h < 10 → (A (st g - 1)).testBit h = true → B'.testBit h = true
def sub (B B' : Nat) : Prop := ∀ g, B.testBit g = true → B'.testBit g = true
def KFQ (A : Nat → Nat) (s : Nat) (st : Nat → Nat) (B : Nat) (r : KR) : Prop := r.1 = false → r.2.1 = st ∧ sub B r.2.2 ∧ dead A st B r.2.2 ∧ ∀ h, h < 10 → (A s).testBit h = true → r.2.2.testBit h = true
def KS (A : Nat → Nat) (X s : Nat) (st : Nat → Nat) (B : Nat) (r : KR) : Prop := r.1 = true → (∀ g, B.testBit g = true → r.2.1 g = st g) ∧ (∃ g, ¬ B.testBit g = true ∧ r.2.1 g = s + 1) ∧ (∀ t, (∃ g, st g = t + 1) → ∃ g, r.2.1 g = t + 1) ∧
  (∃ q, q < 10 ∧ st q = 0 ∧ r.2.1 q ≠ 0 ∧ ∀ g, g ≠ q → (r.2.1 g = 0 ↔ st g = 0)) ∧
  (∀ g t, r.2.1 g = t + 1 → st g = t + 1 ∨ (g < 10 ∧ (A t).testBit g = true ∧ ¬ B.testBit g = true ∧ (t = s ∨ ∃ q, st q = t + 1))) ∧
  ∀ R, ClR A X st R → (∀ g, R g = true → r.2.1 g = st g) ∧ ¬ (∀ h, h < 10 → (A s).testBit h = true → ¬ X.testBit h = true → R h = true)
theorem ku_L {A : Nat → Nat} {P : Nat → (Nat → Nat) → Nat → KR} {X s m : Nat} {st : Nat → Nat}
    (hP : ∀ t B, sub X B → 11 ≤ cn (fun g => B.testBit g) 10 0 + m → KFQ A t st B (P t st B) ∧ KS A X t st B (P t st B)) {B0 : Nat} (h0 : 11 ≤ cn (fun g => B0.testBit g) 10 0 + (m + 1)) : ∀ c g B, g + c = 10 → sub B0 B → sub X B → dead A st B0 B → (∀ h, h < g → (A s).testBit h = true → B.testBit h = true) → KFQ A s st B0 (kuL A P s c g st B) ∧ KS A X s st B0 (kuL A P s c g st B) := by
  intro c
  induction c with
  | zero =>
    intro g B hg hs hX hd hn
    rw [kuL]
    exact ⟨fun _ => ⟨rfl, hs, hd, fun h hh => hn h (by omega)⟩, fun h => by cases h⟩
  | succ c ih =>
    intro g B hg hs hX hd hn
    by_cases hf : (A s).testBit g = true ∧ ¬ B.testBit g = true
    case neg =>
      rw [kuL_n hf]
      refine ih (g + 1) B (by omega) hs hX hd (fun h hh hA => ?_)
      by_cases e : h = g
      · subst e
        rcases Bool.eq_false_or_eq_true (B.testBit h) with q | q
        · exact q
        · exact absurd ⟨hA, by rw [q]; decide⟩ hf
      · exact hn h (by omega) hA
    have gB0 : ¬ B0.testBit g = true := fun q => hf.2 (hs g q)
    have gX : ¬ X.testBit g = true := fun q => hf.2 (hX g q)
    by_cases hz : st g = 0
    · rw [kuL_0 hf hz]
      refine ⟨fun h => (by cases h), fun _ => ⟨fun q hq => ?_, ⟨g, gB0, ?_⟩, fun t ⟨q, hq⟩ => ⟨q, ?_⟩, ⟨g, by omega, hz, ?_, fun q hq => ?_⟩, fun q t hq => ?_, fun R hR => ⟨fun q hq => ?_, fun hall => ?_⟩⟩⟩
      · exact if_neg (fun e => by rw [e] at hq; exact gB0 hq)
      · exact if_pos rfl
      · show rgU st g (s + 1) q = _
        rw [rgU, if_neg (fun e => by rw [e, hz] at hq; omega)]; exact hq
      · show rgU st g (s + 1) g ≠ 0
        rw [rgU, if_pos rfl]; omega
      · show rgU st g (s + 1) q = 0 ↔ _
        rw [rgU, if_neg hq]
      · have hq' : rgU st g (s + 1) q = t + 1 := hq
        rw [rgU] at hq'
        by_cases e : q = g
        · rw [if_pos e] at hq'
          refine Or.inr ⟨by omega, ?_, by rw [e]; exact gB0, Or.inl (by omega)⟩
          rw [e, show t = s by omega]; exact hf.1
        · rw [if_neg e] at hq'; exact Or.inl hq'
      · show rgU st g (s + 1) q = _
        rw [rgU, if_neg (fun e => by rw [e] at hq; exact (hR g hq).1 hz)]
      · exact (hR g (hall g (by omega) hf.1 gX)).1 hz
    · have hB1 : sub X (B ||| 2 ^ g) := fun q hq => or_tb.mpr (Or.inl (hX q hq))
      have hcn : 11 ≤ cn (fun q => (B ||| 2 ^ g).testBit q) 10 0 + m := by
        have h1 := cn_le (P := fun q => B0.testBit q) (Q := fun q => B.testBit q) 10 0 (fun j _ _ h => hs j h)
        have h2 := cn_lt (P := fun q => B.testBit q) (Q := fun q => (B ||| 2 ^ g).testBit q) (s := g) (by
          rcases Bool.eq_false_or_eq_true (B.testBit g) with q | q
          · exact absurd q hf.2
          · exact q) (or_tb.mpr (Or.inr rfl)) 10 0 (fun j _ _ h => or_tb.mpr (Or.inl h)) (by omega) (by omega)
        omega
      obtain ⟨pf, ps⟩ := hP (st g - 1) (B ||| 2 ^ g) hB1 hcn
      have ng : ∀ R, ClR A X st R → R g = true → ∀ h, h < 10 → (A (st g - 1)).testBit h = true → ¬ X.testBit h = true → R h = true := fun R hR hg => (hR g hg).2
      rcases hr : P (st g - 1) st (B ||| 2 ^ g) with ⟨b, st2, B2⟩
      rw [hr] at pf ps
      cases b with
      | true =>
        obtain ⟨p1, ⟨w, w1, w2⟩, p3, ⟨q0, q1, q2, q3, q4⟩, p5, p6⟩ := ps rfl
        have st2g : st2 g = st g := p1 g (or_tb.mpr (Or.inr rfl))
        have wg : w ≠ g := fun e => w1 (by rw [e]; exact or_tb.mpr (Or.inr rfl))
        have q0g : q0 ≠ g := fun e => by rw [e] at q2; exact hz q2
        rw [kuL_t hf hz hr]
        refine ⟨fun h => (by cases h), fun _ => ⟨fun q hq => ?_, ⟨g, gB0, ?_⟩, fun t ht => ?_, ⟨q0, q1, q2, ?_, fun q hq => ?_⟩, fun q t hq => ?_, fun R hR => ⟨fun q hq => ?_, fun hall => ?_⟩⟩⟩
        · show rgU st2 g (s + 1) q = _
          rw [rgU, if_neg (fun e => by rw [e] at hq; exact gB0 hq)]
          exact p1 q (or_tb.mpr (Or.inl (hs q hq)))
        · exact if_pos rfl
        · obtain ⟨q, hq⟩ := p3 t ht
          have hq : st2 q = t + 1 := hq
          by_cases e : q = g
          · refine ⟨w, ?_⟩
            show rgU st2 g (s + 1) w = _
            rw [rgU, if_neg wg]
            have w2' : st2 w = st g - 1 + 1 := w2
            rw [e, st2g] at hq
            omega
          · refine ⟨q, ?_⟩
            show rgU st2 g (s + 1) q = _
            rw [rgU, if_neg e]; exact hq
        · show rgU st2 g (s + 1) q0 ≠ 0
          rw [rgU, if_neg q0g]; exact q3
        · show rgU st2 g (s + 1) q = 0 ↔ _
          rw [rgU]
          by_cases e : q = g
          · rw [if_pos e, e]
            constructor
            · intro h; omega
            · intro h; exact absurd h hz
          · rw [if_neg e]; exact q4 q hq
        · have hq' : rgU st2 g (s + 1) q = t + 1 := hq
          rw [rgU] at hq'
          by_cases e : q = g
          · rw [if_pos e] at hq'
            refine Or.inr ⟨by omega, ?_, by rw [e]; exact gB0, Or.inl (by omega)⟩
            rw [e, show t = s by omega]; exact hf.1
          · rw [if_neg e] at hq'
            rcases p5 q t hq' with a | ⟨a1, a2, a3, a4⟩
            · exact Or.inl a
            · refine Or.inr ⟨a1, a2, fun h => a3 (or_tb.mpr (Or.inl (hs q h))), Or.inr ?_⟩
              rcases a4 with a4 | a4
              · exact ⟨g, by omega⟩
              · exact a4
        · have gR : ¬ R g = true := fun h => (p6 R hR).2 (ng R hR h)
          show rgU st2 g (s + 1) q = _
          rw [rgU, if_neg (fun e => by rw [e] at hq; exact gR hq)]
          exact (p6 R hR).1 q hq
        · exact (p6 R hR).2 (ng R hR (hall g (by omega) hf.1 gX))
      | false =>
        obtain ⟨f1, f2, f3, f4⟩ := pf rfl
        have f1' : st2 = st := f1
        rw [kuL_f hf hz hr, f1']
        refine ih (g + 1) B2 (by omega) (fun q hq => f2 q (or_tb.mpr (Or.inl (hs q hq)))) (fun q hq => f2 q (or_tb.mpr (Or.inl (hX q hq)))) (fun q hq hq0 => ?_) (fun h hh hA => ?_)
        · by_cases e1 : (B ||| 2 ^ g).testBit q = true
          · rcases or_tb.mp e1 with e2 | e2
            · have := hd q e2 hq0
              exact ⟨this.1, fun h hh hA => f2 h (or_tb.mpr (Or.inl (this.2 h hh hA)))⟩
            · rw [e2]; exact ⟨hz, f4⟩
          · exact f3 q hq e1
        · by_cases e : h = g
          · rw [e]; exact f2 g (or_tb.mpr (Or.inr rfl))
          · exact f2 h (or_tb.mpr (Or.inl (hn h (by omega) hA)))
theorem ku_P {A : Nat → Nat} {X : Nat} {st : Nat → Nat} : ∀ m s B, sub X B → 11 ≤ cn (fun g => B.testBit g) 10 0 + m → KFQ A s st B (kuP A m s st B) ∧ KS A X s st B (kuP A m s st B) := by
  intro m
  induction m with
  | zero =>
    intro s B _ h
    have := cn_max (P := fun g => B.testBit g) 10 0
    omega
  | succ m ih =>
    intro s B hX h
    rw [kuP]
    exact ku_L (fun t B hX h => ih t B hX h) h 10 0 B (by omega) (fun _ q => q) hX (fun _ a b => absurd a b) (fun h hh => by omega)
