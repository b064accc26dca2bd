/-! ===== CLAUSES and TEXTS ===== -/
/-- where it ends, PARTS, head (kind, times, first, second, test, stop), steps, first SUM, second SUM, TEST -/
abbrev CL : Type := Nat × Nat × List Nat × List Nat × (EnvT → Option Int) × (EnvT → Option Int) × (EnvT → Option Bool)
def one1 : EnvT → Option Int := fun _ => some 1
def yes1 : EnvT → Option Bool := fun _ => some true
section
variable (o : Bool) (C V : Nat → Nat)
def pIf (c t l : Nat) : PR Bool := if C t = 4 then pTest o C V 8 c (t + 1) l else .inr (t, l, [], yes1)
def pLawC (c t l : Nat) : Nat ⊕ CL :=
  if C t = 3 then (match pIf false C V c (t + 1) l with
    | .inl e => .inl e
    | .inr r => .inr (r.1, r.2.1, [6, 1, c, c, c, c + r.2.2.1.length], r.2.2.1, one1, one1, r.2.2.2))
  else if C t = 1 ∨ C t = 2 then (match pSum false C V 8 c (t + 1) l with
    | .inl e => .inl e
    | .inr q => match pIf false C V (c + q.2.2.1.length) q.1 q.2.1 with
      | .inl e => .inl e
      | .inr r => .inr (r.1, r.2.1, [3 + C t, 1, c, c + q.2.2.1.length, c + q.2.2.1.length, c + q.2.2.1.length + r.2.2.1.length], q.2.2.1 ++ r.2.2.1, q.2.2.2, one1, r.2.2.2))
  else .inl t
/-- kind, first SUM's and second SUM's steps and meaning -/
abbrev OH : Type := Nat × Nat × Nat × List Nat × List Nat × (EnvT → Option Int) × (EnvT → Option Int)
def pTwo (w k c t l : Nat) : Nat ⊕ OH := match pSum true C V 8 c t l with
  | .inl e => .inl e
  | .inr q => if C q.1 = w then (match pSum true C V 8 (c + q.2.2.1.length) (q.1 + 1) q.2.1 with
    | .inl e => .inl e
    | .inr r => .inr (r.1, r.2.1, k, q.2.2.1, r.2.2.1, q.2.2.2, r.2.2.2)) else .inl q.1
def pOrdH (c t l : Nat) : Nat ⊕ OH :=
  if C t = 20 then pTwo C V 12 0 c (t + 1) l
  else if C t = 21 then (match pSum true C V 8 c (t + 1) l with
    | .inl e => .inl e
    | .inr q => .inr (q.1, q.2.1, 1, q.2.2.1, [], q.2.2.2, one1))
  else if C t = 22 then pTwo C V 23 2 c (t + 1) l
  else if C t = 24 then .inr (t + 1, l, 3, [], [], one1, one1)
  else .inl t
def pTimes (t : Nat) : Nat ⊕ (Nat × Nat) := if C t = 25 then (if C (t + 1) = 50 ∧ 1 ≤ V (t + 1) ∧ V (t + 1) ≤ 20 then .inr (t + 2, V (t + 1)) else .inl (t + 1)) else .inr (t, 1)
def pOrdC (c t l : Nat) : Nat ⊕ CL := match pOrdH C V c t l with
  | .inl e => .inl e
  | .inr h => match pTimes C V h.1 with
    | .inl e => .inl e
    | .inr m => match pIf true C V (c + h.2.2.2.1.length + h.2.2.2.2.1.length) m.1 h.2.1 with
      | .inl e => .inl e
      | .inr r => .inr (r.1, r.2.1, [h.2.2.1, m.2, c, c + h.2.2.2.1.length, c + h.2.2.2.1.length + h.2.2.2.2.1.length, c + h.2.2.2.1.length + h.2.2.2.2.1.length + r.2.2.1.length], h.2.2.2.1 ++ (h.2.2.2.2.1 ++ r.2.2.1), h.2.2.2.2.2.1, h.2.2.2.2.2.2, r.2.2.2)
def pText (cl : Nat → Nat → Nat → Nat ⊕ CL) (n : Nat) : Nat → Nat → Nat → Nat → Nat ⊕ List CL
  | 0, _, t, _ => .inl t
  | m + 1, c, t, l => match cl c t l with
    | .inl e => .inl e
    | .inr q => if q.1 = n then .inr [q] else if C q.1 = 159 then (match pText cl n m (c + q.2.2.2.1.length) (q.1 + 1) q.2.1 with
      | .inl e => .inl e
      | .inr qs => .inr (q :: qs)) else .inl q.1
end
theorem ok_if {o : Bool} {C V : Nat → Nat} {c t l : Nat} {q : _} (h : pIf o C V c t l = .inr q) : Okp C t l q := by
  unfold pIf at h
  split at h
  · rename_i h4
    obtain ⟨⟨a1, a2, a3, a4, a5⟩, a6, a7⟩ := ok_test 8 _ _ _ _ h
    refine ⟨by omega, a2, a3, by omega, fun i h1 h2 => ?_⟩
    rcases Nat.lt_or_ge i (t + 1) with h3 | h3
    · have : i = t := by omega
      subst this; omega
    · exact a5 i h3 h2
  · cases h
    exact ⟨Nat.le_refl _, Nat.le_refl _, fun h => h, Nat.le_refl _, fun i h1 h2 => by dsimp only at h2; omega⟩
/-- a CLAUSE went over TOKENS alone, its steps are no more than they -/
def Okc (C : Nat → Nat) (cl : Nat → Nat → Nat → Nat ⊕ CL) : Prop := ∀ c t l q, cl c t l = .inr q → t < q.1 ∧ (l ≤ 50 → q.2.1 ≤ 50) ∧ t + q.2.2.2.1.length ≤ q.1 ∧ (∀ i, t ≤ i → i < q.1 → C i ≠ 0)
theorem ok_lawC {C V : Nat → Nat} : Okc C (pLawC C V) := by
  intro c t l q h
  unfold pLawC at h
  split at h
  · rename_i h3
    cases e1 : pIf false C V c (t + 1) l with
    | inl e => rw [e1] at h; cases h
    | inr r =>
      rw [e1] at h
      cases h
      obtain ⟨a1, a2, a3, a4, a5⟩ := ok_if e1
      refine ⟨by dsimp only; omega, a3, by dsimp only; omega, fun i h1 h2 => ?_⟩
      rcases Nat.lt_or_ge i (t + 1) with h4 | h4
      · have : i = t := by omega
        subst this; omega
      · exact a5 i h4 h2
  · split at h
    · rename_i h12
      cases e1 : pSum false C V 8 c (t + 1) l with
      | inl e => rw [e1] at h; cases h
      | inr q1 =>
        rw [e1] at h
        dsimp only at h
        cases e2 : pIf false C V (c + q1.2.2.1.length) q1.1 q1.2.1 with
        | inl e => rw [e2] at h; cases h
        | inr r =>
          rw [e2] at h
          cases h
          obtain ⟨⟨a1, a2, a3, a4, a5⟩, a6, a7⟩ := ok_sum 8 _ _ _ _ e1
          obtain ⟨b1, b2, b3, b4, b5⟩ := ok_if e2
          refine ⟨by dsimp only; omega, fun h => b3 (a3 h), ?_, fun i h1 h2 => ?_⟩
          · simp only [List.length_append]; omega
          · rcases Nat.lt_or_ge i (t + 1) with h4 | h4
            · have : i = t := by omega
              subst this; omega
            · rcases Nat.lt_or_ge i q1.1 with h5 | h5
              · exact a5 i h4 h5
              · exact b5 i h5 h2
    · cases h
theorem ok_two {C V : Nat → Nat} {w k c t l : Nat} {q : OH} (hw : w ≠ 0) (h : pTwo C V w k c t l = .inr q) : t < q.1 ∧ (l ≤ 50 → q.2.1 ≤ 50) ∧ t + q.2.2.2.1.length + q.2.2.2.2.1.length ≤ q.1 ∧ (∀ i, t ≤ i → i < q.1 → C i ≠ 0) := by
  unfold pTwo at h
  cases e1 : pSum true C V 8 c t l with
  | inl e => rw [e1] at h; cases h
  | inr q1 =>
    rw [e1] at h
    dsimp only at h
    split at h
    · rename_i hw1
      cases e2 : pSum true C V 8 (c + q1.2.2.1.length) (q1.1 + 1) q1.2.1 with
      | inl e => rw [e2] at h; cases h
      | inr r =>
        rw [e2] at h
        cases h
        obtain ⟨⟨a1, a2, a3, a4, a5⟩, a6, a7⟩ := ok_sum 8 _ _ _ _ e1
        obtain ⟨⟨b1, b2, b3, b4, b5⟩, b6, b7⟩ := ok_sum 8 _ _ _ _ e2
        refine ⟨by dsimp only; omega, fun h => b3 (a3 h), by dsimp only; omega, fun i h1 h2 => ?_⟩
        rcases Nat.lt_or_ge i q1.1 with h4 | h4
        · exact a5 i h1 h4
        · rcases Nat.lt_or_ge i (q1.1 + 1) with h5 | h5
          · have : i = q1.1 := by omega
            subst this; omega
          · exact b5 i h5 h2
    · cases h
theorem ok_ordH {C V : Nat → Nat} {c t l : Nat} {q : OH} (h : pOrdH C V c t l = .inr q) : t < q.1 ∧ (l ≤ 50 → q.2.1 ≤ 50) ∧ t + q.2.2.2.1.length + q.2.2.2.2.1.length ≤ q.1 ∧ (∀ i, t ≤ i → i < q.1 → C i ≠ 0) := by
  have key : ∀ {q' : OH}, C t ≠ 0 → (t + 1 < q'.1 ∧ (l ≤ 50 → q'.2.1 ≤ 50) ∧ t + 1 + q'.2.2.2.1.length + q'.2.2.2.2.1.length ≤ q'.1 ∧ (∀ i, t + 1 ≤ i → i < q'.1 → C i ≠ 0)) → t < q'.1 ∧ (l ≤ 50 → q'.2.1 ≤ 50) ∧ t + q'.2.2.2.1.length + q'.2.2.2.2.1.length ≤ q'.1 ∧ (∀ i, t ≤ i → i < q'.1 → C i ≠ 0) := by
    intro q' h0 hh
    refine ⟨by omega, hh.2.1, by omega, fun i h1 h2 => ?_⟩
    rcases Nat.lt_or_ge i (t + 1) with h4 | h4
    · have : i = t := by omega
      subst this; exact h0
    · exact hh.2.2.2 i h4 h2
  unfold pOrdH at h
  split at h
  · exact key (by omega) (ok_two (by decide) h)
  · split at h
    · cases e1 : pSum true C V 8 c (t + 1) l with
      | inl e => rw [e1] at h; cases h
      | inr q1 =>
        rw [e1] at h
        cases h
        obtain ⟨⟨a1, a2, a3, a4, a5⟩, a6, a7⟩ := ok_sum 8 _ _ _ _ e1
        exact key (by omega) ⟨a6, a3, a4, a5⟩
    · split at h
      · exact key (by omega) (ok_two (by decide) h)
      · split at h
        · rename_i h24
          cases h
          refine ⟨by dsimp only; omega, fun h => h, by simp, fun i h1 h2 => ?_⟩
          dsimp only at h2
          have : i = t := by omega
          subst this; omega
        · cases h
theorem ok_times {C V : Nat → Nat} {t : Nat} {q : Nat × Nat} (h : pTimes C V t = .inr q) : t ≤ q.1 ∧ 1 ≤ q.2 ∧ q.2 ≤ 20 ∧ (∀ i, t ≤ i → i < q.1 → C i ≠ 0) := by
  unfold pTimes at h
  split at h
  · rename_i h25
    split at h
    · rename_i hh
      cases h
      refine ⟨by dsimp only; omega, hh.2.1, hh.2.2, fun i h1 h2 => ?_⟩
      dsimp only at h2
      rcases Nat.lt_or_ge i (t + 1) with h4 | h4
      · have : i = t := by omega
        subst this; omega
      · have : i = t + 1 := by omega
        subst this; omega
    · cases h
  · cases h
    exact ⟨Nat.le_refl _, by dsimp only; omega, by dsimp only; omega, fun i h1 h2 => by dsimp only at h2; omega⟩
theorem ok_ordC {C V : Nat → Nat} : Okc C (pOrdC C V) := by
  intro c t l q h
  unfold pOrdC at h
  cases e1 : pOrdH C V c t l with
  | inl e => rw [e1] at h; cases h
  | inr h1 =>
    rw [e1] at h
    dsimp only at h
    cases e2 : pTimes C V h1.1 with
    | inl e => rw [e2] at h; cases h
    | inr m =>
      rw [e2] at h
      dsimp only at h
      cases e3 : pIf true C V (c + h1.2.2.2.1.length + h1.2.2.2.2.1.length) m.1 h1.2.1 with
      | inl e => rw [e3] at h; cases h
      | inr r =>
        rw [e3] at h
        cases h
        obtain ⟨a1, a2, a3, a4⟩ := ok_ordH e1
        obtain ⟨b1, b2, b3, b4⟩ := ok_times e2
        obtain ⟨c1, c2, c3, c4, c5⟩ := ok_if e3
        refine ⟨by dsimp only; omega, fun h => c3 (a2 h), ?_, fun i h1' h2 => ?_⟩
        · simp only [List.length_append]; omega
        · rcases Nat.lt_or_ge i h1.1 with h4 | h4
          · exact a4 i h1' h4
          · rcases Nat.lt_or_ge i m.1 with h5 | h5
            · exact b4 i h4 h5
            · exact c5 i h5 h2
/-- what a CLAUSE's steps do -/
def Good (st : Nat → Nat) (sl : Nat) (q : CL) : Prop := ∃ k tm a b c d, q.2.2.1 = [k, tm, a, b, c, d] ∧ a ≤ b ∧ b ≤ c ∧ c ≤ d ∧ d ≤ sl ∧ k ≤ 6 ∧ 1 ≤ tm ∧ tm ≤ 20 ∧
  ((a < b ∧ ∀ e, envB e → PreQ eI st b 64 a b e [] (q.2.2.2.2.1 e)) ∨ (a = b ∧ q.2.2.2.2.1 = one1)) ∧
  ((b < c ∧ ∀ e, envB e → PreQ eI st c 64 b c e [] (q.2.2.2.2.2.1 e)) ∨ (b = c ∧ q.2.2.2.2.2.1 = one1)) ∧
  ((c < d ∧ ∀ e, envB e → PreQ eB st d 64 c d e [] (q.2.2.2.2.2.2 e)) ∨ (c = d ∧ q.2.2.2.2.2.2 = yes1))
theorem sem_if {o : Bool} {C V : Nat → Nat} {c t l : Nat} {r : _} (h : pIf o C V c t l = .inr r) (hct : c ≤ t) (hr : r.1 ≤ 400) {st : Nat → Nat} (hs : Sat st c r.2.2.1) : (c < c + r.2.2.1.length ∧ ∀ e, envB e → PreQ eB st (c + r.2.2.1.length) 64 c (c + r.2.2.1.length) e [] (r.2.2.2 e)) ∨ (c = c + r.2.2.1.length ∧ r.2.2.2 = yes1) := by
  unfold pIf at h
  split at h
  · obtain ⟨-, -, a7⟩ := ok_test 8 _ _ _ _ h
    refine Or.inl ⟨by omega, fun e he => ?_⟩
    exact PreQ.mono (Nat.le_refl _) (by simp) (sem_test 8 c (t + 1) l r (by omega) hr h st hs e [] he skB_nil)
  · cases h
    exact Or.inr ⟨rfl, rfl⟩
theorem sem_s8 {o : Bool} {C V : Nat → Nat} {c t l : Nat} {r : _} (h : pSum o C V 8 c t l = .inr r) (hct : c ≤ t) (hr : r.1 ≤ 400) {st : Nat → Nat} (hs : Sat st c r.2.2.1) : c < c + r.2.2.1.length ∧ ∀ e, envB e → PreQ eI st (c + r.2.2.1.length) 64 c (c + r.2.2.1.length) e [] (r.2.2.2 e) := by
  obtain ⟨-, -, a7⟩ := ok_sum 8 _ _ _ _ h
  refine ⟨by omega, fun e he => ?_⟩
  exact PreQ.mono (Nat.le_refl _) (by simp) (sem_sum 8 c t l r hct hr h st hs e [] he skB_nil)
theorem good_law {C V : Nat → Nat} {c t l : Nat} {q : CL} (h : pLawC C V c t l = .inr q) (hct : c ≤ t) (hq : q.1 ≤ 400) {st : Nat → Nat} (hs : Sat st c q.2.2.2.1) {sl : Nat} (hsl : c + q.2.2.2.1.length ≤ sl) : Good st sl q := by
  have hq' := ok_lawC _ _ _ _ h
  unfold pLawC at h
  split at h
  · cases e1 : pIf false C V c (t + 1) l with
    | inl e => rw [e1] at h; cases h
    | inr r =>
      rw [e1] at h
      cases h
      dsimp only at hs hsl hq
      exact ⟨6, 1, c, c, c, c + r.2.2.1.length, rfl, by omega, by omega, by omega, by omega, by omega, by omega, by omega, Or.inr ⟨rfl, rfl⟩, Or.inr ⟨rfl, rfl⟩, sem_if e1 (by omega) hq hs⟩
  · split at h
    · rename_i h12
      cases e1 : pSum false C V 8 c (t + 1) l with
      | inl e => rw [e1] at h; cases h
      | inr q1 =>
        rw [e1] at h
        dsimp only at h
        cases e2 : pIf false C V (c + q1.2.2.1.length) q1.1 q1.2.1 with
        | inl e => rw [e2] at h; cases h
        | inr r =>
          rw [e2] at h
          cases h
          dsimp only at hs hsl hq hq'
          obtain ⟨⟨a1, a2, a3, a4, a5⟩, a6, a7⟩ := ok_sum 8 _ _ _ _ e1
          obtain ⟨b1, -⟩ := ok_if e2
          obtain ⟨s1, s2⟩ := Sat.app hs
          simp only [List.length_append] at hsl
          exact ⟨3 + C t, 1, c, c + q1.2.2.1.length, c + q1.2.2.1.length, c + q1.2.2.1.length + r.2.2.1.length, rfl, by omega, by omega, by omega, by omega, by omega, by omega, by omega, Or.inl (sem_s8 e1 (by omega) (by omega) s1), Or.inr ⟨rfl, rfl⟩, sem_if e2 (by omega) hq s2⟩
    · cases h
theorem good_ordH {C V : Nat → Nat} {c t l : Nat} {q : OH} (h : pOrdH C V c t l = .inr q) (hct : c ≤ t) (hq : q.1 ≤ 400) {st : Nat → Nat} (hs1 : Sat st c q.2.2.2.1) (hs2 : Sat st (c + q.2.2.2.1.length) q.2.2.2.2.1) : q.2.2.1 ≤ 3 ∧
    ((c < c + q.2.2.2.1.length ∧ ∀ e, envB e → PreQ eI st (c + q.2.2.2.1.length) 64 c (c + q.2.2.2.1.length) e [] (q.2.2.2.2.2.1 e)) ∨ (c = c + q.2.2.2.1.length ∧ q.2.2.2.2.2.1 = one1)) ∧
    ((c + q.2.2.2.1.length < c + q.2.2.2.1.length + q.2.2.2.2.1.length ∧ ∀ e, envB e → PreQ eI st (c + q.2.2.2.1.length + q.2.2.2.2.1.length) 64 (c + q.2.2.2.1.length) (c + q.2.2.2.1.length + q.2.2.2.2.1.length) e [] (q.2.2.2.2.2.2 e)) ∨ (c + q.2.2.2.1.length = c + q.2.2.2.1.length + q.2.2.2.2.1.length ∧ q.2.2.2.2.2.2 = one1)) := by
  have two : ∀ {w k : Nat}, w ≠ 0 → k ≤ 3 → pTwo C V w k c (t + 1) l = .inr q → q.2.2.1 ≤ 3 ∧
    ((c < c + q.2.2.2.1.length ∧ ∀ e, envB e → PreQ eI st (c + q.2.2.2.1.length) 64 c (c + q.2.2.2.1.length) e [] (q.2.2.2.2.2.1 e)) ∨ (c = c + q.2.2.2.1.length ∧ q.2.2.2.2.2.1 = one1)) ∧
    ((c + q.2.2.2.1.length < c + q.2.2.2.1.length + q.2.2.2.2.1.length ∧ ∀ e, envB e → PreQ eI st (c + q.2.2.2.1.length + q.2.2.2.2.1.length) 64 (c + q.2.2.2.1.length) (c + q.2.2.2.1.length + q.2.2.2.2.1.length) e [] (q.2.2.2.2.2.2 e)) ∨ (c + q.2.2.2.1.length = c + q.2.2.2.1.length + q.2.2.2.2.1.length ∧ q.2.2.2.2.2.2 = one1)) := by
    intro w k hw hk h
    unfold pTwo at h
    cases e1 : pSum true C V 8 c (t + 1) l with
    | inl e => rw [e1] at h; cases h
    | inr q1 =>
      rw [e1] at h
      dsimp only at h
      split at h
      · cases e2 : pSum true C V 8 (c + q1.2.2.1.length) (q1.1 + 1) q1.2.1 with
        | inl e => rw [e2] at h; cases h
        | inr r =>
          rw [e2] at h
          cases h
          dsimp only at hs1 hs2 hq ⊢
          obtain ⟨⟨a1, a2, a3, a4, a5⟩, a6, a7⟩ := ok_sum 8 _ _ _ _ e1
          obtain ⟨⟨b1, b2, b3, b4, b5⟩, b6, b7⟩ := ok_sum 8 _ _ _ _ e2
          exact ⟨hk, Or.inl (sem_s8 e1 (by omega) (by omega) hs1), Or.inl (sem_s8 e2 (by omega) (by omega) hs2)⟩
      · cases h
  unfold pOrdH at h
  split at h
  · exact two (by decide) (by decide) h
  · split at h
    · cases e1 : pSum true C V 8 c (t + 1) l with
      | inl e => rw [e1] at h; cases h
      | inr q1 =>
        rw [e1] at h
        cases h
        dsimp only at hs1 hs2 hq ⊢
        exact ⟨by decide, Or.inl (sem_s8 e1 (by omega) (by omega) hs1), Or.inr ⟨rfl, rfl⟩⟩
    · split at h
      · exact two (by decide) (by decide) h
      · split at h
        · cases h
          exact ⟨Nat.le_refl _, Or.inr ⟨rfl, rfl⟩, Or.inr ⟨rfl, rfl⟩⟩
        · cases h
theorem good_ord {C V : Nat → Nat} {c t l : Nat} {q : CL} (h : pOrdC C V c t l = .inr q) (hct : c ≤ t) (hq : q.1 ≤ 400) {st : Nat → Nat} (hs : Sat st c q.2.2.2.1) {sl : Nat} (hsl : c + q.2.2.2.1.length ≤ sl) : Good st sl q := by
  unfold pOrdC at h
  cases e1 : pOrdH C V c t l with
  | inl e => rw [e1] at h; cases h
  | inr h1 =>
    rw [e1] at h
    dsimp only at h
    cases e2 : pTimes C V h1.1 with
    | inl e => rw [e2] at h; cases h
    | inr m =>
      rw [e2] at h
      dsimp only at h
      cases e3 : pIf true C V (c + h1.2.2.2.1.length + h1.2.2.2.2.1.length) m.1 h1.2.1 with
      | inl e => rw [e3] at h; cases h
      | inr r =>
        rw [e3] at h
        cases h
        dsimp only at hs hsl hq
        obtain ⟨a1, a2, a3, a4⟩ := ok_ordH e1
        obtain ⟨b1, b2, b3, b4⟩ := ok_times e2
        obtain ⟨c1, c2, c3, c4, c5⟩ := ok_if e3
        obtain ⟨s1, s2⟩ := Sat.app hs
        obtain ⟨s3, s4⟩ := Sat.app s2
        simp only [List.length_append] at hsl
        obtain ⟨g1, g2, g3⟩ := good_ordH e1 hct (by omega) s1 s3
        exact ⟨h1.2.2.1, m.2, c, c + h1.2.2.2.1.length, c + h1.2.2.2.1.length + h1.2.2.2.2.1.length, c + h1.2.2.2.1.length + h1.2.2.2.2.1.length + r.2.2.1.length, rfl, by omega, by omega, by omega, by omega, by omega, b2, b3, g2, g3, sem_if e3 (by omega) hq s4⟩
