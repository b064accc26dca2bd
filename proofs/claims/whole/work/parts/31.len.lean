/-! ===== both languages: how far a reading goes; what the steps do ===== -/
def Okp {α : Type} (C : Nat → Nat) (t l : Nat) (q : Nat × Nat × List Nat × (EnvT → Option α)) : Prop := t ≤ q.1 ∧ l ≤ q.2.1 ∧ (l ≤ 50 → q.2.1 ≤ 50) ∧ t + q.2.2.1.length ≤ q.1 ∧ (∀ i, t ≤ i → i < q.1 → C i ≠ 0)
def Okq {α : Type} (C : Nat → Nat) (item : Nat → Nat → Nat → PR α) : Prop := ∀ c t l q, item c t l = .inr q → Okp C t l q ∧ t < q.1 ∧ 0 < q.2.2.1.length
theorem ok_chain {C : Nat → Nat} {sg : Nat → Nat} {item : Nat → Nat → Nat → PR Int} (hi : Okq C item) (h0 : sg 0 = 0) : ∀ (m c t l : Nat) (dn : EnvT → Option Int) (q : _), pChain C sg item m c t l dn = .inr q → Okp C t l q := by
  intro m
  induction m with
  | zero =>
    intro c t l dn q h
    cases h
    exact ⟨Nat.le_refl _, Nat.le_refl _, fun h => h, Nat.le_refl _, fun i h1 h2 => by dsimp only at h2; omega⟩
  | succ m ih =>
    intro c t l dn q h
    rw [pChain] at h
    split at h
    · cases h
      exact ⟨Nat.le_refl _, Nat.le_refl _, fun h => h, Nat.le_refl _, fun i h1 h2 => by dsimp only at h2; omega⟩
    · rename_i hs
      cases e1 : item c (t + 1) l with
      | inl e => rw [e1] at h; cases h
      | inr q1 =>
        rw [e1] at h
        dsimp only at h
        cases e2 : pChain C sg item m (c + q1.2.2.1.length + 1) q1.1 q1.2.1 (bin (sg (C t)) dn q1.2.2.2) with
        | inl e => rw [e2] at h; cases h
        | inr q2 =>
          rw [e2] at h
          cases h
          obtain ⟨⟨a1, a2, a3, a4, a5⟩, a6, a7⟩ := hi _ _ _ _ e1
          obtain ⟨b1, b2, b3, b4, b5⟩ := ih _ _ _ _ _ e2
          refine ⟨by dsimp only; omega, by dsimp only; omega, fun h => by dsimp only; omega, ?_, ?_⟩
          · simp only [List.length_append, List.length_cons]; omega
          · intro i h1 h2
            dsimp only at h2
            rcases Nat.lt_or_ge i (t + 1) with h3 | h3
            · have : i = t := by omega
              subst this
              intro e; rw [e] at hs; exact hs h0
            · rcases Nat.lt_or_ge i q1.1 with h4 | h4
              · exact a5 i h3 h4
              · exact b5 i h4 h2
theorem ok_seq {C : Nat → Nat} {sg : Nat → Nat} {item : Nat → Nat → Nat → PR Int} (hi : Okq C item) (h0 : sg 0 = 0) : Okq C (pSeq C sg item) := by
  intro c t l q h
  unfold pSeq at h
  cases e1 : item c t l with
  | inl e => rw [e1] at h; cases h
  | inr q1 =>
    rw [e1] at h
    dsimp only at h
    cases e2 : pChain C sg item 401 (c + q1.2.2.1.length) q1.1 q1.2.1 q1.2.2.2 with
    | inl e => rw [e2] at h; cases h
    | inr q2 =>
      rw [e2] at h
      cases h
      obtain ⟨⟨a1, a2, a3, a4, a5⟩, a6, a7⟩ := hi _ _ _ _ e1
      obtain ⟨b1, b2, b3, b4, b5⟩ := ok_chain hi h0 _ _ _ _ _ _ e2
      refine ⟨⟨by dsimp only; omega, by dsimp only; omega, fun h => by dsimp only; omega, ?_, ?_⟩, by dsimp only; omega, ?_⟩
      · simp only [List.length_append]; omega
      · intro i h1 h2
        dsimp only at h2
        rcases Nat.lt_or_ge i q1.1 with h4 | h4
        · exact a5 i h1 h4
        · exact b5 i h4 h2
      · simp only [List.length_append]; omega
theorem ok_part {o : Bool} {C V : Nat → Nat} {inner : Option (Nat → Nat → Nat → PR Int)} (hi : ∀ sm, inner = some sm → Okq C sm) : Okq C (pPart o C V inner) := by
  intro c t l q h
  unfold pPart at h
  split at h
  · rename_i hC
    cases inner with
    | none => cases h
    | some sm =>
      dsimp only at h
      cases e1 : sm c (t + 1) l with
      | inl e => rw [e1] at h; cases h
      | inr q1 =>
        rw [e1] at h
        dsimp only at h
        split at h
        · rename_i hD
          cases h
          obtain ⟨⟨a1, a2, a3, a4, a5⟩, a6, a7⟩ := hi sm rfl _ _ _ _ e1
          refine ⟨⟨by dsimp only; omega, a2, a3, by dsimp only; omega, ?_⟩, by dsimp only; omega, a7⟩
          intro i h1 h2
          dsimp only at h2
          rcases Nat.lt_or_ge i (t + 1) with h3 | h3
          · have : i = t := by omega
            subst this; omega
          · rcases Nat.lt_or_ge i q1.1 with h4 | h4
            · exact a5 i h3 h4
            · have : i = q1.1 := by omega
              subst this; omega
        · cases h
  · split at h
    · cases h
    · rename_i hl
      split at h
      · rename_i hC
        split at h
        · cases h
          refine ⟨⟨by dsimp only; omega, by dsimp only; omega, fun _ => by dsimp only; omega, Nat.le_refl _, ?_⟩, by dsimp only; omega, by simp⟩
          intro i h1 h2
          dsimp only at h2
          have : i = t := by omega
          subst this; omega
        · cases h
      · split at h
        · cases h
        · rename_i hw
          have hC0 : C t ≠ 0 := by
            intro e; rw [e] at hw; exact hw (by cases o <;> rfl)
          cases e2 : wlim o (C t) with
          | none =>
            rw [e2] at h
            cases h
            refine ⟨⟨by dsimp only; omega, by dsimp only; omega, fun _ => by dsimp only; omega, Nat.le_refl _, ?_⟩, by dsimp only; omega, by simp⟩
            intro i h1 h2
            dsimp only at h2
            have : i = t := by omega
            subst this; exact hC0
          | some m =>
            rw [e2] at h
            dsimp only at h
            split at h
            · rename_i hD
              cases h
              refine ⟨⟨by dsimp only; omega, by dsimp only; omega, fun _ => by dsimp only; omega, by simp, ?_⟩, by dsimp only; omega, by simp⟩
              intro i h1 h2
              dsimp only at h2
              rcases Nat.lt_or_ge i (t + 1) with h3 | h3
              · have : i = t := by omega
                subst this; exact hC0
              · have : i = t + 1 := by omega
                subst this; omega
            · cases h
theorem ok_sum {o : Bool} {C V : Nat → Nat} : ∀ r, Okq C (pSum o C V r)
  | 0 => ok_seq (ok_seq (ok_part (fun sm h => by cases h)) rfl) rfl
  | r + 1 => ok_seq (ok_seq (ok_part (fun sm h => by cases h; exact ok_sum r)) rfl) rfl
theorem ok_nots {C : Nat → Nat} : ∀ (m t : Nat), t ≤ (pNots C m t).1 ∧ (∀ i, t ≤ i → i < (pNots C m t).1 → C i ≠ 0) ∧ ((pNots C m t).2 = true → t < (pNots C m t).1)
  | 0, t => ⟨Nat.le_refl _, fun i h1 h2 => by unfold pNots at h2; dsimp only at h2; omega, fun h => by cases h⟩
  | m + 1, t => by
    rw [pNots]
    split
    · rename_i hC
      obtain ⟨a1, a2, a3⟩ := ok_nots (C := C) m (t + 1)
      refine ⟨by dsimp only; omega, ?_, fun _ => by dsimp only; omega⟩
      intro i h1 h2
      rcases Nat.lt_or_ge i (t + 1) with h3 | h3
      · have : i = t := by omega
        subst this; omega
      · exact a2 i h3 h2
    · exact ⟨Nat.le_refl _, fun i h1 h2 => by dsimp only at h2; omega, fun h => by cases h⟩
theorem ok_pos {o : Bool} {C V : Nat → Nat} {r : Nat} {inner : Option (Nat → Nat → Nat → PR Bool)} (hi : ∀ sm, inner = some sm → Okq C sm) : Okq C (pPos o C V r inner) := by
  intro c t l q h
  unfold pPos at h
  split at h
  · rename_i hC
    cases inner with
    | none => cases h
    | some sm =>
      dsimp only at h
      cases e1 : sm c (t + 1) l with
      | inl e => rw [e1] at h; cases h
      | inr q1 =>
        rw [e1] at h
        dsimp only at h
        split at h
        · rename_i hD
          cases h
          obtain ⟨⟨a1, a2, a3, a4, a5⟩, a6, a7⟩ := hi sm rfl _ _ _ _ e1
          refine ⟨⟨by dsimp only; omega, a2, a3, by dsimp only; omega, ?_⟩, by dsimp only; omega, a7⟩
          intro i h1 h2
          dsimp only at h2
          rcases Nat.lt_or_ge i (t + 1) with h3 | h3
          · have : i = t := by omega
            subst this; omega
          · rcases Nat.lt_or_ge i q1.1 with h4 | h4
            · exact a5 i h3 h4
            · have : i = q1.1 := by omega
              subst this; omega
        · cases h
  · cases e1 : pSum o C V r c t l with
    | inl e => rw [e1] at h; cases h
    | inr q1 =>
      rw [e1] at h
      dsimp only at h
      split at h
      · cases h
      · rename_i hD
        cases e2 : pSum o C V r (c + q1.2.2.1.length) (q1.1 + 1) q1.2.1 with
        | inl e => rw [e2] at h; cases h
        | inr q2 =>
          rw [e2] at h
          cases h
          obtain ⟨⟨a1, a2, a3, a4, a5⟩, a6, a7⟩ := ok_sum r _ _ _ _ e1
          obtain ⟨⟨b1, b2, b3, b4, b5⟩, b6, b7⟩ := ok_sum r _ _ _ _ e2
          refine ⟨⟨by dsimp only; omega, by dsimp only; omega, fun h => by dsimp only; omega, ?_, ?_⟩, by dsimp only; omega, ?_⟩
          · simp only [List.length_append, List.length_cons, List.length_nil]; omega
          · intro i h1 h2
            dsimp only at h2
            rcases Nat.lt_or_ge i q1.1 with h4 | h4
            · exact a5 i h1 h4
            · rcases Nat.lt_or_ge i (q1.1 + 1) with h3 | h3
              · have : i = q1.1 := by omega
                subst this
                intro e; rw [e] at hD; exact hD rfl
              · exact b5 i h3 h2
          · simp only [List.length_append, List.length_cons, List.length_nil]; omega
theorem ok_plain {o : Bool} {C V : Nat → Nat} {r : Nat} {inner : Option (Nat → Nat → Nat → PR Bool)} (hi : ∀ sm, inner = some sm → Okq C sm) : Okq C (pPlain o C V r inner) := by
  intro c t l q h
  unfold pPlain at h
  obtain ⟨n1, n2, n3⟩ := ok_nots (C := C) 401 t
  cases e1 : pPos o C V r inner c (pNots C 401 t).1 l with
  | inl e => rw [e1] at h; cases h
  | inr q1 =>
    rw [e1] at h
    cases h
    obtain ⟨⟨a1, a2, a3, a4, a5⟩, a6, a7⟩ := ok_pos hi _ _ _ _ e1
    have hn : (notC (pNots C 401 t).2).length + t ≤ (pNots C 401 t).1 := by
      cases e : (pNots C 401 t).2 with
      | false => show 0 + t ≤ _; omega
      | true => have := n3 e; show 1 + t ≤ _; omega
    refine ⟨⟨by dsimp only; omega, a2, a3, ?_, ?_⟩, by dsimp only; omega, ?_⟩
    · simp only [List.length_append]; omega
    · intro i h1 h2
      rcases Nat.lt_or_ge i (pNots C 401 t).1 with h3 | h3
      · exact n2 i h1 h3
      · exact a5 i h3 h2
    · simp only [List.length_append]; omega
theorem ok_log {C : Nat → Nat} {w sg : Nat} {sc : Bool} {item : Nat → Nat → Nat → PR Bool} (hi : Okq C item) (h0 : w ≠ 0) : ∀ (m c t l : Nat) (dn : EnvT → Option Bool) (q : _), pLog C w sg sc item m c t l dn = .inr q → Okp C t l q := by
  intro m
  induction m with
  | zero =>
    intro c t l dn q h
    cases h
    exact ⟨Nat.le_refl _, Nat.le_refl _, fun h => h, Nat.le_refl _, fun i h1 h2 => by dsimp only at h2; omega⟩
  | succ m ih =>
    intro c t l dn q h
    rw [pLog] at h
    split at h
    · rename_i hs
      cases e1 : item (c + 1) (t + 1) l with
      | inl e => rw [e1] at h; cases h
      | inr q1 =>
        rw [e1] at h
        dsimp only at h
        cases e2 : pLog C w sg sc item m (c + 1 + q1.2.2.1.length) q1.1 q1.2.1 (logD sc dn q1.2.2.2) with
        | inl e => rw [e2] at h; cases h
        | inr q2 =>
          rw [e2] at h
          cases h
          obtain ⟨⟨a1, a2, a3, a4, a5⟩, a6, a7⟩ := hi _ _ _ _ e1
          obtain ⟨b1, b2, b3, b4, b5⟩ := ih _ _ _ _ _ e2
          refine ⟨by dsimp only; omega, by dsimp only; omega, fun h => by dsimp only; omega, ?_, ?_⟩
          · simp only [List.length_append, List.length_cons]; omega
          · intro i h1 h2
            dsimp only at h2
            rcases Nat.lt_or_ge i (t + 1) with h3 | h3
            · have : i = t := by omega
              subst this; omega
            · rcases Nat.lt_or_ge i q1.1 with h4 | h4
              · exact a5 i h3 h4
              · exact b5 i h4 h2
    · cases h
      exact ⟨Nat.le_refl _, Nat.le_refl _, fun h => h, Nat.le_refl _, fun i h1 h2 => by dsimp only at h2; omega⟩
theorem ok_join {C : Nat → Nat} {w sg : Nat} {sc : Bool} {item : Nat → Nat → Nat → PR Bool} (hi : Okq C item) (h0 : w ≠ 0) : Okq C (pJoin C w sg sc item) := by
  intro c t l q h
  unfold pJoin at h
  cases e1 : item c t l with
  | inl e => rw [e1] at h; cases h
  | inr q1 =>
    rw [e1] at h
    dsimp only at h
    cases e2 : pLog C w sg sc item 401 (c + q1.2.2.1.length) q1.1 q1.2.1 q1.2.2.2 with
    | inl e => rw [e2] at h; cases h
    | inr q2 =>
      rw [e2] at h
      cases h
      obtain ⟨⟨a1, a2, a3, a4, a5⟩, a6, a7⟩ := hi _ _ _ _ e1
      obtain ⟨b1, b2, b3, b4, b5⟩ := ok_log hi h0 _ _ _ _ _ _ e2
      refine ⟨⟨by dsimp only; omega, by dsimp only; omega, fun h => by dsimp only; omega, ?_, ?_⟩, by dsimp only; omega, ?_⟩
      · simp only [List.length_append]; omega
      · intro i h1 h2
        dsimp only at h2
        rcases Nat.lt_or_ge i q1.1 with h4 | h4
        · exact a5 i h1 h4
        · exact b5 i h4 h2
      · simp only [List.length_append]; omega
theorem ok_test {o : Bool} {C V : Nat → Nat} : ∀ r, Okq C (pTest o C V r)
  | 0 => ok_join (ok_join (ok_plain (fun sm h => by cases h)) (by decide)) (by decide)
  | r + 1 => ok_join (ok_join (ok_plain (fun sm h => by cases h; exact ok_test r)) (by decide)) (by decide)
