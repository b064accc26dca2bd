/-! ===== what the steps of a TEST do ===== -/
theorem eB_b (b : Bool) : skB [eB b] := by
  cases b <;> refine skB_cons.mpr ⟨?_, skB_nil⟩ <;> decide
theorem sem_pos {o : Bool} {C V : Nat → Nat} {r : Nat} {inner : Option (Nat → Nat → Nat → PR Bool)} {h : Nat} (h1 : 2 * r + 4 ≤ h) (hi : ∀ sm, inner = some sm → Okq C sm ∧ SemQ eB h sm) : SemQ eB h (pPos o C V r inner) := by
  intro c t l q h1' h2 h3 st h4 e s h5 h6
  unfold pPos at h3
  split at h3
  · cases inner with
    | none => cases h3
    | some sm =>
      dsimp only at h3
      cases e1 : sm c (t + 1) l with
      | inl x => rw [e1] at h3; cases h3
      | inr q1 =>
        rw [e1] at h3
        dsimp only at h3
        split at h3
        · cases h3
          dsimp only at h2 h4 ⊢
          exact (hi sm rfl).2 c (t + 1) l q1 (by omega) (by omega) e1 st h4 e s h5 h6
        · cases h3
  · cases e1 : pSum o C V r c t l with
    | inl x => rw [e1] at h3; cases h3
    | inr q1 =>
      rw [e1] at h3
      dsimp only at h3
      split at h3
      · cases h3
      · rename_i hD
        cases e2 : pSum o C V r (c + q1.2.2.1.length) (q1.1 + 1) q1.2.1 with
        | inl x => rw [e2] at h3; cases h3
        | inr q2 =>
          rw [e2] at h3
          cases h3
          dsimp only at h2 h4 ⊢
          obtain ⟨⟨a1, a2, a3, a4, a5⟩, a6, a7⟩ := ok_sum r _ _ _ _ e1
          obtain ⟨⟨b1, b2, b3, b4, b5⟩, b6, b7⟩ := ok_sum r _ _ _ _ e2
          obtain ⟨s1, s2⟩ := Sat.app h4
          obtain ⟨s3, s4⟩ := Sat.app s2
          obtain ⟨s5, -⟩ := Sat.cons s4
          simp only [List.length_append, List.length_cons, List.length_nil]
          have p1 := PreQ.mono (hi' := c + (q1.2.2.1.length + (q2.2.2.1.length + (0 + 1)))) (H' := s.length + h) (by omega) (by omega) (sem_sum r c t l q1 h1' (by omega) e1 st s1 e s h5 h6)
          unfold cmpD
          cases d1 : q1.2.2.2 e with
          | none => rw [d1] at p1; exact p1
          | some v =>
            rw [d1] at p1
            obtain ⟨v1, v2⟩ := p1
            have hv := skB_cons.mp v1
            have p2 := PreQ.mono (hi' := c + (q1.2.2.1.length + (q2.2.2.1.length + (0 + 1)))) (H' := s.length + h) (by omega) (by simp only [List.length_cons]; omega) (sem_sum r (c + q1.2.2.1.length) (q1.1 + 1) q1.2.1 q2 (by omega) (by omega) e2 st s3 e (v :: s) h5 (skB_cons.mpr ⟨hv.1, h6⟩))
            dsimp only
            cases d2 : q2.2.2.2 e with
            | none => rw [d2] at p2; exact v2.bk p2
            | some w =>
              rw [d2] at p2
              obtain ⟨w1, w2⟩ := p2
              dsimp only
              have hg : 6 ≤ cmpS (C q1.1) ∧ cmpS (C q1.1) ≤ 8 := by
                unfold cmpS at hD ⊢
                repeat' split
                all_goals first | omega | (exfalso; simp_all)
              refine ⟨eB_b _, v2.tr (w2.tr (Rc.one (by omega) ?_ (by omega) (by simp only [List.length_cons]; omega) (skB_cons.mpr ⟨(skB_cons.mp (eB_b _)).1, h6⟩)))⟩
              rw [s5]
              unfold xs1
              rw [show cmpS (C q1.1) * 1024 / 1024 = cmpS (C q1.1) by omega, if_neg (by omega), if_neg (by omega)]
              dsimp only [eI]
              rw [if_neg (by omega), if_neg (by omega), if_neg (by omega)]
              unfold op2
              rw [if_neg (by omega), show c + (q1.2.2.1.length + (q2.2.2.1.length + (0 + 1))) = c + q1.2.2.1.length + q2.2.2.1.length + 1 by omega]
              rfl
theorem sem_plain {o : Bool} {C V : Nat → Nat} {r : Nat} {inner : Option (Nat → Nat → Nat → PR Bool)} {h : Nat} (h1 : 2 * r + 4 ≤ h) (hi : ∀ sm, inner = some sm → Okq C sm ∧ SemQ eB h sm) : SemQ eB h (pPlain o C V r inner) := by
  intro c t l q h1' h2 h3 st h4 e s h5 h6
  unfold pPlain at h3
  obtain ⟨n1, -⟩ := ok_nots (C := C) 401 t
  cases e1 : pPos o C V r inner c (pNots C 401 t).1 l with
  | inl x => rw [e1] at h3; cases h3
  | inr q1 =>
    rw [e1] at h3
    cases h3
    dsimp only at h2 h4 ⊢
    obtain ⟨s1, s2⟩ := Sat.app h4
    simp only [List.length_append]
    have p1 := sem_pos h1 hi c _ l q1 (by omega) (by omega) e1 st s1 e s h5 h6
    cases e2 : (pNots C 401 t).2 with
    | false =>
      have : negD false q1.2.2.2 e = q1.2.2.2 e := by
        unfold negD
        cases q1.2.2.2 e with
        | none => rfl
        | some b => cases b <;> rfl
      rw [this]
      exact p1
    | true =>
      rw [e2] at s2
      obtain ⟨s3, -⟩ := Sat.cons s2
      have p2 := PreQ.mono (hi' := c + (q1.2.2.1.length + 1)) (H' := s.length + h) (by omega) (by omega) p1
      show PreQ eB st (c + (q1.2.2.1.length + 1)) (s.length + h) c (c + (q1.2.2.1.length + 1)) e s (negD true q1.2.2.2 e)
      unfold negD
      cases d1 : q1.2.2.2 e with
      | none => rw [d1] at p2; exact p2
      | some b =>
        rw [d1] at p2
        obtain ⟨v1, v2⟩ := p2
        refine ⟨eB_b _, v2.tr (Rc.one (by omega) ?_ (by omega) (by simp only [List.length_cons]; omega) (skB_cons.mpr ⟨(skB_cons.mp (eB_b _)).1, h6⟩))⟩
        rw [s3]
        cases b <;> rfl
theorem sem_log {C : Nat → Nat} {w sg : Nat} {sc : Bool} {item : Nat → Nat → Nat → PR Bool} {h : Nat} (h1 : 1 ≤ h) (hk : Okq C item) (hs : SemQ eB h item) (h0 : w ≠ 0) (hsg : (sg = 10 ∧ sc = true) ∨ (sg = 11 ∧ sc = false)) : ∀ (m c t l : Nat) (dn : EnvT → Option Bool) (q : _), c ≤ t → q.1 ≤ 400 → pLog C w sg sc item m c t l dn = .inr q → ∀ st, Sat st c q.2.2.1 → ∀ e s hi H c0, envB e → skB s → c + q.2.2.1.length ≤ hi → s.length + h ≤ H → PreQ eB st hi H c0 c e s (dn e) → PreQ eB st hi H c0 (c + q.2.2.1.length) e s (q.2.2.2 e) := by
  intro m
  induction m with
  | zero => intro c t l dn q h1 h2 h3 st h4 e s hi H c0 _ _ h7 h8 h9; cases h3; exact h9
  | succ m ih =>
    intro c t l dn q h1' h2 h3 st h4 e s hi H c0 h5' h6 h7 h8 h9
    rw [pLog] at h3
    split at h3
    · rename_i hg
      cases e1 : item (c + 1) (t + 1) l with
      | inl x => rw [e1] at h3; cases h3
      | inr q1 =>
        rw [e1] at h3
        dsimp only at h3
        cases e2 : pLog C w sg sc item m (c + 1 + q1.2.2.1.length) q1.1 q1.2.1 (logD sc dn q1.2.2.2) with
        | inl x => rw [e2] at h3; cases h3
        | inr q2 =>
          rw [e2] at h3
          cases h3
          dsimp only at h2 h4 h7 ⊢
          obtain ⟨⟨a1, a2, a3, a4, a5⟩, a6, a7⟩ := hk _ _ _ _ e1
          obtain ⟨b1, -⟩ := ok_log hk h0 _ _ _ _ _ _ e2
          obtain ⟨s3, s4⟩ := Sat.cons h4
          obtain ⟨s1, s2⟩ := Sat.app s4
          simp only [List.length_append, List.length_cons] at h7 ⊢
          rw [show c + (q1.2.2.1.length + q2.2.2.1.length + 1) = c + 1 + q1.2.2.1.length + q2.2.2.1.length by omega]
          refine ih _ _ _ _ _ (by omega) h2 e2 st s2 e s hi H c0 h5' h6 (by omega) h8 ?_
          unfold logD
          cases d1 : dn e with
          | none => rw [d1] at h9; exact h9
          | some b =>
            rw [d1] at h9
            obtain ⟨v1, v2⟩ := h9
            have hb := eB_b b
            have hgt : (sg * 1024 + (c + 1 + q1.2.2.1.length)) / 1024 = sg := by rcases hsg with ⟨hsg, -⟩ | ⟨hsg, -⟩ <;> omega
            have hgm : (sg * 1024 + (c + 1 + q1.2.2.1.length)) % 1024 = c + 1 + q1.2.2.1.length := by rcases hsg with ⟨hsg, -⟩ | ⟨hsg, -⟩ <;> omega
            dsimp only
            by_cases hbs : b = sc
            · rw [if_pos hbs]
              subst hbs
              refine ⟨hb, v2.tr (Rc.one (by omega) ?_ (by omega) (by simp only [List.length_cons]; omega) (skB_cons.mpr ⟨(skB_cons.mp hb).1, h6⟩))⟩
              rw [s3]
              unfold xs1
              rw [hgt, hgm]
              have hmx : max c (c + 1 + q1.2.2.1.length - 1) + 1 = c + 1 + q1.2.2.1.length := by omega
              rcases hsg with ⟨rfl, rfl⟩ | ⟨rfl, rfl⟩
              · rw [if_neg (by omega), if_neg (by omega)]
                dsimp only
                rw [if_neg (by omega), if_pos rfl, if_pos (show eB true = 1 from rfl), hmx]
              · rw [if_neg (by omega), if_neg (by omega)]
                dsimp only
                rw [if_neg (by omega), if_neg (by omega), if_pos rfl, if_pos (show eB false = 0 from rfl), hmx]
            · rw [if_neg hbs]
              have hst : xs1 e (st c) c (eB b :: s) = some (c + 1, s) := by
                rw [s3]
                unfold xs1
                rw [hgt]
                rcases hsg with ⟨rfl, rfl⟩ | ⟨rfl, rfl⟩
                · have : b = false := by cases b <;> simp_all
                  subst this
                  rw [if_neg (by omega), if_neg (by omega)]
                  dsimp only [eB]
                  rw [if_neg (by omega), if_pos rfl, if_neg (by decide)]
                · have : b = true := by cases b <;> simp_all
                  subst this
                  rw [if_neg (by omega), if_neg (by omega)]
                  dsimp only [eB]
                  rw [if_neg (by omega), if_neg (by omega), if_pos rfl, if_neg (by decide)]
              have r1 := v2.tr (Rc.one (hi := hi) (H := H) (by omega) hst (by omega) (by omega) h6)
              have p1 := hs (c + 1) (t + 1) l q1 (by omega) (by omega) e1 st s1 e s h5' h6
              have p2 := PreQ.mono (hi' := hi) (H' := H) (by omega) (by omega) p1
              cases d2 : q1.2.2.2 e with
              | none => rw [d2] at p2; exact r1.bk p2
              | some w => rw [d2] at p2; exact ⟨p2.1, r1.tr p2.2⟩
    · cases h3; exact h9
theorem sem_join {C : Nat → Nat} {w sg : Nat} {sc : Bool} {item : Nat → Nat → Nat → PR Bool} {h : Nat} (h1 : 1 ≤ h) (hk : Okq C item) (hs : SemQ eB h item) (h0 : w ≠ 0) (hsg : (sg = 10 ∧ sc = true) ∨ (sg = 11 ∧ sc = false)) : SemQ eB h (pJoin C w sg sc item) := by
  intro c t l q h1' h2 h3 st h4 e s h5' h6
  unfold pJoin at h3
  cases e1 : item c t l with
  | inl x => rw [e1] at h3; cases h3
  | inr q1 =>
    rw [e1] at h3
    dsimp only at h3
    cases e2 : pLog C w sg sc item 401 (c + q1.2.2.1.length) q1.1 q1.2.1 q1.2.2.2 with
    | inl x => rw [e2] at h3; cases h3
    | inr q2 =>
      rw [e2] at h3
      cases h3
      dsimp only at h2 h4 ⊢
      obtain ⟨⟨a1, a2, a3, a4, a5⟩, a6, a7⟩ := hk _ _ _ _ e1
      obtain ⟨b1, b2, b3, b4, b5⟩ := ok_log hk h0 _ _ _ _ _ _ e2
      obtain ⟨s1, s2⟩ := Sat.app h4
      simp only [List.length_append]
      rw [show c + (q1.2.2.1.length + q2.2.2.1.length) = c + q1.2.2.1.length + q2.2.2.1.length by omega]
      refine sem_log h1 hk hs h0 hsg _ _ _ _ _ _ (by omega) h2 e2 st s2 e s _ _ c h5' h6 (Nat.le_refl _) (Nat.le_refl _) ?_
      exact PreQ.mono (by omega) (Nat.le_refl _) (hs c t l q1 h1' (by omega) e1 st s1 e s h5' h6)
theorem SemQ.mono {α : Type} {emb : α → Int} {h h' : Nat} {item : Nat → Nat → Nat → PR α} (hh : h ≤ h') (hs : SemQ emb h item) : SemQ emb h' item := by
  intro c t l q h1 h2 h3 st h4 e s h5 h6
  exact PreQ.mono (Nat.le_refl _) (by omega) (hs c t l q h1 h2 h3 st h4 e s h5 h6)
theorem sem_test {o : Bool} {C V : Nat → Nat} : ∀ r, SemQ eB (2 * r + 4) (pTest o C V r)
  | 0 => sem_join (by omega) (ok_join (ok_plain (fun sm h => by cases h)) (by decide)) (sem_join (by omega) (ok_plain (fun sm h => by cases h)) (sem_plain (Nat.le_refl _) (fun sm h => by cases h)) (by decide) (Or.inr ⟨rfl, rfl⟩)) (by decide) (Or.inl ⟨rfl, rfl⟩)
  | r + 1 => sem_join (by omega) (ok_join (ok_plain (fun sm h => by cases h; exact ok_test r)) (by decide)) (sem_join (by omega) (ok_plain (fun sm h => by cases h; exact ok_test r)) (sem_plain (Nat.le_refl _) (fun sm h => by cases h; exact ⟨ok_test r, SemQ.mono (by omega) (sem_test r)⟩)) (by decide) (Or.inr ⟨rfl, rfl⟩)) (by decide) (Or.inl ⟨rfl, rfl⟩)
