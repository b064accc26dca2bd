/-! ===== steps are small ===== -/
def CdB9 {α : Type} (item : Nat → Nat → Nat → PR α) : Prop := ∀ c t l q, c ≤ t → q.1 ≤ 400 → item c t l = .inr q → ∀ x ∈ q.2.2.1, x < 100000
theorem cb_chain {C : Nat → Nat} {sg : Nat → Nat} {item : Nat → Nat → Nat → PR Int} (hk : Okq C item) (hb : CdB9 item) (h5 : ∀ c, sg c ≤ 5) (h00 : sg 0 = 0) : ∀ (m c t l : Nat) (dn : EnvT → Option Int) (q : _), c ≤ t → q.1 ≤ 400 → pChain C sg item m c t l dn = .inr q → ∀ x ∈ q.2.2.1, x < 100000 := by
  intro m
  induction m with
  | zero => intro c t l dn q h1 h2 h; cases h; intro x hx; cases hx
  | succ m ih =>
    intro c t l dn q h1 h2 h
    rw [pChain] at h
    split at h
    · cases h; intro x hx; cases hx
    · cases e1 : item c (t + 1) l with
      | inl e => rw [e1] at h; cases h
      | inr q1 =>
        rw [e1] at h
        dsimp only at h
        cases e2 : pChain C sg item m (c + q1.2.2.1.length + 1) q1.1 q1.2.1 (bin (sg (C t)) dn q1.2.2.2) with
        | inl e => rw [e2] at h; cases h
        | inr q2 =>
          rw [e2] at h
          cases h
          dsimp only at h2 ⊢
          obtain ⟨⟨a1, a2, a3, a4, a5⟩, a6, a7⟩ := hk _ _ _ _ e1
          obtain ⟨b1, -⟩ := ok_chain hk h00 _ _ _ _ _ _ e2
          intro x hx
          rw [List.mem_append, List.mem_cons] at hx
          have := h5 (C t)
          rcases hx with hx | hx | hx
          · exact hb _ _ _ _ (by omega) (by omega) e1 x hx
          · omega
          · exact ih _ _ _ _ _ (by omega) h2 e2 x hx
theorem cb_seq {C : Nat → Nat} {sg : Nat → Nat} {item : Nat → Nat → Nat → PR Int} (hk : Okq C item) (hb : CdB9 item) (h5 : ∀ c, sg c ≤ 5) (h00 : sg 0 = 0) : CdB9 (pSeq C sg item) := by
  intro c t l q h1 h2 h
  unfold pSeq at h
  cases e1 : item c t l with
  | inl e => rw [e1] at h; cases h
  | inr q1 =>
    rw [e1] at h
    dsimp only at h
    cases e2 : pChain C sg item 401 (c + q1.2.2.1.length) q1.1 q1.2.1 q1.2.2.2 with
    | inl e => rw [e2] at h; cases h
    | inr q2 =>
      rw [e2] at h
      cases h
      dsimp only at h2 ⊢
      obtain ⟨⟨a1, a2, a3, a4, a5⟩, a6, a7⟩ := hk _ _ _ _ e1
      obtain ⟨b1, -⟩ := ok_chain hk h00 _ _ _ _ _ _ e2
      intro x hx
      rw [List.mem_append] at hx
      rcases hx with hx | hx
      · exact hb _ _ _ _ h1 (by omega) e1 x hx
      · exact cb_chain hk hb h5 h00 _ _ _ _ _ _ (by omega) h2 e2 x hx
theorem cb_part {o : Bool} {C V : Nat → Nat} {inner : Option (Nat → Nat → Nat → PR Int)} (hi : ∀ sm, inner = some sm → CdB9 sm) : CdB9 (pPart o C V inner) := by
  intro c t l q h1 h2 h
  have hw : ∀ o c, wsg o c ≤ 25 := by
    intro o c
    cases o <;> unfold wsg <;> dsimp only [cond_true, cond_false] <;> split <;> omega
  have hl : ∀ o c m, wlim o c = some m → m ≤ 9 := by
    intro o c m
    cases o <;> unfold wlim <;> dsimp only [cond_true, cond_false]
    · intro h; cases h
    · split <;> intro h <;> cases h <;> omega
  have hw1 := hw o (C t)
  unfold pPart at h
  split at h
  · cases inner with
    | none => cases h
    | some sm =>
      dsimp only at h
      cases e1 : sm c (t + 1) l with
      | inl e => rw [e1] at h; cases h
      | inr q1 =>
        rw [e1] at h
        dsimp only at h
        split at h
        · cases h
          dsimp only at h2 ⊢
          exact hi sm rfl _ _ _ _ (by omega) (by omega) e1
        · cases h
  · split at h
    · cases h
    · split at h
      · split at h
        · cases h
          intro x hx
          rw [List.mem_singleton] at hx
          omega
        · cases h
      · split at h
        · cases h
        · cases e2 : wlim o (C t) with
          | none =>
            rw [e2] at h
            cases h
            intro x hx
            rw [List.mem_singleton] at hx
            omega
          | some m =>
            have hm := hl _ _ _ e2
            rw [e2] at h
            dsimp only at h
            split at h
            · cases h
              intro x hx
              rw [List.mem_singleton] at hx
              omega
            · cases h
theorem cb_sum {o : Bool} {C V : Nat → Nat} : ∀ r, CdB9 (pSum o C V r)
  | 0 => cb_seq (ok_seq (ok_part (fun sm h => by cases h)) rfl) (cb_seq (ok_part (fun sm h => by cases h)) (cb_part (fun sm h => by cases h)) mulS_5 rfl) addS_5 rfl
  | r + 1 => cb_seq (ok_seq (ok_part (fun sm h => by cases h; exact ok_sum r)) rfl) (cb_seq (ok_part (fun sm h => by cases h; exact ok_sum r)) (cb_part (fun sm h => by cases h; exact cb_sum r)) mulS_5 rfl) addS_5 rfl
theorem cmpS_8 (c : Nat) : cmpS c ≤ 8 := by
  unfold cmpS
  repeat' split
  all_goals omega
theorem cb_plain {o : Bool} {C V : Nat → Nat} {r : Nat} {inner : Option (Nat → Nat → Nat → PR Bool)} (hk : ∀ sm, inner = some sm → Okq C sm) (hi : ∀ sm, inner = some sm → CdB9 sm) : CdB9 (pPlain o C V r inner) := by
  intro c t l q h1 h2 h
  unfold pPlain at h
  obtain ⟨n1, -⟩ := ok_nots (C := C) 401 t
  cases e0 : pPos o C V r inner c (pNots C 401 t).1 l with
  | inl e => rw [e0] at h; cases h
  | inr Q =>
    rw [e0] at h
    cases h
    dsimp only at h2 ⊢
    have key : ∀ x ∈ Q.2.2.1, x < 100000 := by
      unfold pPos at e0
      split at e0
      · cases inner with
        | none => cases e0
        | some sm =>
          dsimp only at e0
          cases e1 : sm c ((pNots C 401 t).1 + 1) l with
          | inl e => rw [e1] at e0; cases e0
          | inr q1 =>
            rw [e1] at e0
            dsimp only at e0
            split at e0
            · cases e0
              dsimp only at h2 ⊢
              exact hi sm rfl _ _ _ _ (by omega) (by omega) e1
            · cases e0
      · cases e1 : pSum o C V r c (pNots C 401 t).1 l with
        | inl e => rw [e1] at e0; cases e0
        | inr q1 =>
          rw [e1] at e0
          dsimp only at e0
          split at e0
          · cases e0
          · cases e2 : pSum o C V r (c + q1.2.2.1.length) (q1.1 + 1) q1.2.1 with
            | inl e => rw [e2] at e0; cases e0
            | inr q2 =>
              rw [e2] at e0
              cases e0
              dsimp only at h2 ⊢
              obtain ⟨⟨a1, a2, a3, a4, a5⟩, a6, a7⟩ := ok_sum r _ _ _ _ e1
              obtain ⟨⟨b1, b2, b3, b4, b5⟩, b6, b7⟩ := ok_sum r _ _ _ _ e2
              intro x hx
              rw [List.mem_append, List.mem_append, List.mem_singleton] at hx
              have := cmpS_8 (C q1.1)
              rcases hx with hx | hx | hx
              · exact cb_sum r _ _ _ _ (by omega) (by omega) e1 x hx
              · exact cb_sum r _ _ _ _ (by omega) (by omega) e2 x hx
              · omega
    intro x hx
    rw [List.mem_append] at hx
    rcases hx with hx | hx
    · exact key x hx
    · unfold notC at hx
      cases hh : (pNots C 401 t).2 with
      | false => rw [hh] at hx; cases hx
      | true =>
        rw [hh] at hx
        have : x = 9216 := by simpa using hx
        omega
theorem cb_log {C : Nat → Nat} {w sg : Nat} {sc : Bool} {item : Nat → Nat → Nat → PR Bool} (hk : Okq C item) (hb : CdB9 item) (h0 : w ≠ 0) (hs : sg ≤ 11) : ∀ (m c t l : Nat) (dn : EnvT → Option Bool) (q : _), c ≤ t → q.1 ≤ 400 → pLog C w sg sc item m c t l dn = .inr q → ∀ x ∈ q.2.2.1, x < 100000 := by
  intro m
  induction m with
  | zero => intro c t l dn q h1 h2 h; cases h; intro x hx; cases hx
  | succ m ih =>
    intro c t l dn q h1 h2 h
    rw [pLog] at h
    split at h
    · cases e1 : item (c + 1) (t + 1) l with
      | inl e => rw [e1] at h; cases h
      | inr q1 =>
        rw [e1] at h
        dsimp only at h
        cases e2 : pLog C w sg sc item m (c + 1 + q1.2.2.1.length) q1.1 q1.2.1 (logD sc dn q1.2.2.2) with
        | inl e => rw [e2] at h; cases h
        | inr q2 =>
          rw [e2] at h
          cases h
          dsimp only at h2 ⊢
          obtain ⟨⟨a1, a2, a3, a4, a5⟩, a6, a7⟩ := hk _ _ _ _ e1
          obtain ⟨b1, -⟩ := ok_log hk h0 _ _ _ _ _ _ e2
          intro x hx
          rw [List.mem_cons, List.mem_append] at hx
          rcases hx with hx | hx | hx
          · omega
          · exact hb _ _ _ _ (by omega) (by omega) e1 x hx
          · exact ih _ _ _ _ _ (by omega) h2 e2 x hx
    · cases h; intro x hx; cases hx
theorem cb_join {C : Nat → Nat} {w sg : Nat} {sc : Bool} {item : Nat → Nat → Nat → PR Bool} (hk : Okq C item) (hb : CdB9 item) (h0 : w ≠ 0) (hs : sg ≤ 11) : CdB9 (pJoin C w sg sc item) := by
  intro c t l q h1 h2 h
  unfold pJoin at h
  cases e1 : item c t l with
  | inl e => rw [e1] at h; cases h
  | inr q1 =>
    rw [e1] at h
    dsimp only at h
    cases e2 : pLog C w sg sc item 401 (c + q1.2.2.1.length) q1.1 q1.2.1 q1.2.2.2 with
    | inl e => rw [e2] at h; cases h
    | inr q2 =>
      rw [e2] at h
      cases h
      dsimp only at h2 ⊢
      obtain ⟨⟨a1, a2, a3, a4, a5⟩, a6, a7⟩ := hk _ _ _ _ e1
      obtain ⟨b1, -⟩ := ok_log hk h0 _ _ _ _ _ _ e2
      intro x hx
      rw [List.mem_append] at hx
      rcases hx with hx | hx
      · exact hb _ _ _ _ h1 (by omega) e1 x hx
      · exact cb_log hk hb h0 hs _ _ _ _ _ _ (by omega) h2 e2 x hx
theorem cb_test {o : Bool} {C V : Nat → Nat} : ∀ r, CdB9 (pTest o C V r)
  | 0 => cb_join (ok_join (ok_plain (fun sm h => by cases h)) (by decide)) (cb_join (ok_plain (fun sm h => by cases h)) (cb_plain (fun sm h => by cases h) (fun sm h => by cases h)) (by decide) (by decide)) (by decide) (by decide)
  | r + 1 => cb_join (ok_join (ok_plain (fun sm h => by cases h; exact ok_test r)) (by decide)) (cb_join (ok_plain (fun sm h => by cases h; exact ok_test r)) (cb_plain (fun sm h => by cases h; exact ok_test r) (fun sm h => by cases h; exact cb_test r)) (by decide) (by decide)) (by decide) (by decide)
theorem cb_if {o : Bool} {C V : Nat → Nat} {c t l : Nat} {r : _} (h1 : c ≤ t) (h2 : r.1 ≤ 400) (h : pIf o C V c t l = .inr r) : ∀ x ∈ r.2.2.1, x < 100000 := by
  unfold pIf at h
  split at h
  · exact cb_test 8 _ _ _ _ (by omega) h2 h
  · cases h; intro x hx; cases hx
def CBc (cl : Nat → Nat → Nat → Nat ⊕ CL) : Prop := ∀ c t l q, c ≤ t → q.1 ≤ 400 → cl c t l = .inr q → ∀ x ∈ q.2.2.2.1, x < 100000
theorem cb_lawC {C V : Nat → Nat} : CBc (pLawC C V) := by
  intro c t l q h1 h2 h
  unfold pLawC at h
  split at h
  · cases e1 : pIf false C V c (t + 1) l with
    | inl e => rw [e1] at h; cases h
    | inr r =>
      rw [e1] at h
      cases h
      exact cb_if (by omega) h2 e1
  · split at h
    · cases e1 : pSum false C V 8 c (t + 1) l with
      | inl e => rw [e1] at h; cases h
      | inr q1 =>
        rw [e1] at h
        dsimp only at h
        cases e2 : pIf false C V (c + q1.2.2.1.length) q1.1 q1.2.1 with
        | inl e => rw [e2] at h; cases h
        | inr r =>
          rw [e2] at h
          cases h
          dsimp only at h2 ⊢
          obtain ⟨⟨a1, a2, a3, a4, a5⟩, a6, a7⟩ := ok_sum 8 _ _ _ _ e1
          obtain ⟨b1, -⟩ := ok_if e2
          intro x hx
          rw [List.mem_append] at hx
          rcases hx with hx | hx
          · exact cb_sum 8 _ _ _ _ (by omega) (by omega) e1 x hx
          · exact cb_if (by omega) h2 e2 x hx
    · cases h
theorem cb_two {C V : Nat → Nat} {w k c t l : Nat} {q : OH} (h1 : c ≤ t) (h2 : q.1 ≤ 400) (h : pTwo C V w k c t l = .inr q) : (∀ x ∈ q.2.2.2.1, x < 100000) ∧ ∀ x ∈ q.2.2.2.2.1, x < 100000 := by
  unfold pTwo at h
  cases e1 : pSum true C V 8 c t l with
  | inl e => rw [e1] at h; cases h
  | inr q1 =>
    rw [e1] at h
    dsimp only at h
    split at h
    · cases e2 : pSum true C V 8 (c + q1.2.2.1.length) (q1.1 + 1) q1.2.1 with
      | inl e => rw [e2] at h; cases h
      | inr r =>
        rw [e2] at h
        cases h
        dsimp only at h2 ⊢
        obtain ⟨⟨a1, a2, a3, a4, a5⟩, a6, a7⟩ := ok_sum 8 _ _ _ _ e1
        obtain ⟨⟨b1, b2, b3, b4, b5⟩, b6, b7⟩ := ok_sum 8 _ _ _ _ e2
        exact ⟨cb_sum 8 _ _ _ _ h1 (by omega) e1, cb_sum 8 _ _ _ _ (by omega) (by omega) e2⟩
    · cases h
theorem cb_ordC {C V : Nat → Nat} : CBc (pOrdC C V) := by
  intro c t l q h1 h2 h
  unfold pOrdC at h
  cases e1 : pOrdH C V c t l with
  | inl e => rw [e1] at h; cases h
  | inr h1' =>
    rw [e1] at h
    dsimp only at h
    cases e2 : pTimes C V h1'.1 with
    | inl e => rw [e2] at h; cases h
    | inr m =>
      rw [e2] at h
      dsimp only at h
      cases e3 : pIf true C V (c + h1'.2.2.2.1.length + h1'.2.2.2.2.1.length) m.1 h1'.2.1 with
      | inl e => rw [e3] at h; cases h
      | inr r =>
        rw [e3] at h
        cases h
        dsimp only at h2 ⊢
        obtain ⟨a1, a2, a3, a4⟩ := ok_ordH e1
        obtain ⟨b1, -⟩ := ok_times e2
        obtain ⟨c1, -⟩ := ok_if e3
        have key : (∀ x ∈ h1'.2.2.2.1, x < 100000) ∧ ∀ x ∈ h1'.2.2.2.2.1, x < 100000 := by
          unfold pOrdH at e1
          split at e1
          · exact cb_two (by omega) (by omega) e1
          · split at e1
            · cases e4 : pSum true C V 8 c (t + 1) l with
              | inl e => rw [e4] at e1; cases e1
              | inr q1 =>
                rw [e4] at e1
                cases e1
                exact ⟨cb_sum 8 _ _ _ _ (by omega) (by dsimp only at b1; omega) e4, fun x hx => by cases hx⟩
            · split at e1
              · exact cb_two (by omega) (by omega) e1
              · split at e1
                · cases e1
                  exact ⟨fun x hx => (by cases hx), fun x hx => (by cases hx)⟩
                · cases e1
        intro x hx
        rw [List.mem_append, List.mem_append] at hx
        rcases hx with hx | hx | hx
        · exact key.1 x hx
        · exact key.2 x hx
        · exact cb_if (by omega) h2 e3 x hx
