/-! ===== what the steps do: a machine with a stack ===== -/
def skB (s : List Int) : Prop := ∀ x ∈ s, -1000000000 ≤ x ∧ x ≤ 1000000000
theorem skB_cons {x : Int} {s : List Int} : skB (x :: s) ↔ (-1000000000 ≤ x ∧ x ≤ 1000000000) ∧ skB s := by
  unfold skB
  simp only [List.mem_cons, forall_eq_or_imp]
theorem skB_nil : skB [] := fun x h => by cases h
def envB (e : EnvT) : Prop := ∀ a b, -1000000000 ≤ e a b ∧ e a b ≤ 1000000000
def op2 (g : Nat) (a b : Int) : Option Int := if g ≤ 5 then cmb g a b else some (if (if g = 6 then decide (a < b) else if g = 7 then decide (b < a) else decide (a = b)) then 1 else 0)
def xs1 (e : EnvT) (w pc : Nat) (s : List Int) : Option (Nat × List Int) :=
  if w / 1024 = 0 then some (pc + 1, ((w % 1024 : Nat) : Int) :: s) else if 12 ≤ w / 1024 then some (pc + 1, e (w / 1024) (w % 1024) :: s) else
  match s with
  | [] => none
  | x :: s1 => if w / 1024 = 9 then some (pc + 1, (1 - x) :: s1)
    else if w / 1024 = 10 then (if x = 1 then some (max pc (w % 1024 - 1) + 1, x :: s1) else some (pc + 1, s1))
    else if w / 1024 = 11 then (if x = 0 then some (max pc (w % 1024 - 1) + 1, x :: s1) else some (pc + 1, s1))
    else match s1 with
      | [] => none
      | y :: s2 => match op2 (w / 1024) y x with
        | none => none
        | some v => some (pc + 1, v :: s2)
def Rk (e : EnvT) (st : Nat → Nat) (hi H : Nat) : Nat → Nat → List Int → Nat → List Int → Prop
  | 0, pc, s, pc', s' => pc' = pc ∧ s' = s
  | k + 1, pc, s, pc', s' => pc < hi ∧ ∃ pc1 s1, xs1 e (st pc) pc s = some (pc1, s1) ∧ pc < pc1 ∧ s1.length ≤ H ∧ skB s1 ∧ Rk e st hi H k pc1 s1 pc' s'
def Bk (e : EnvT) (st : Nat → Nat) (hi H : Nat) : Nat → Nat → List Int → Prop
  | 0, _, _ => False
  | k + 1, pc, s => pc < hi ∧ (xs1 e (st pc) pc s = none ∨ ∃ pc1 s1, xs1 e (st pc) pc s = some (pc1, s1) ∧ pc < pc1 ∧ s1.length ≤ H ∧ skB s1 ∧ Bk e st hi H k pc1 s1)
def Rc (e : EnvT) (st : Nat → Nat) (hi H : Nat) (pc : Nat) (s : List Int) (pc' : Nat) (s' : List Int) : Prop := ∃ k, Rk e st hi H k pc s pc' s'
def Bc (e : EnvT) (st : Nat → Nat) (hi H : Nat) (pc : Nat) (s : List Int) : Prop := ∃ k, Bk e st hi H k pc s
section
variable {e : EnvT} {st : Nat → Nat} {hi H : Nat}
theorem Rk_trans : ∀ {k k' pc : Nat} {s : List Int} {pc' : Nat} {s' : List Int} {pc'' : Nat} {s'' : List Int}, Rk e st hi H k pc s pc' s' → Rk e st hi H k' pc' s' pc'' s'' → Rk e st hi H (k + k') pc s pc'' s'' := by
  intro k
  induction k with
  | zero =>
    intro k' pc s pc' s' pc'' s'' h1 h2
    obtain ⟨rfl, rfl⟩ := h1
    rw [Nat.zero_add]; exact h2
  | succ k ih =>
    intro k' pc s pc' s' pc'' s'' h1 h2
    obtain ⟨a, pc1, s1, b, b', c, d, h1⟩ := h1
    rw [show k + 1 + k' = (k + k') + 1 by omega]
    exact ⟨a, pc1, s1, b, b', c, d, ih h1 h2⟩
theorem Rk_B : ∀ {k k' pc : Nat} {s : List Int} {pc' : Nat} {s' : List Int}, Rk e st hi H k pc s pc' s' → Bk e st hi H k' pc' s' → Bk e st hi H (k + k') pc s := by
  intro k
  induction k with
  | zero =>
    intro k' pc s pc' s' h1 h2
    obtain ⟨rfl, rfl⟩ := h1
    rw [Nat.zero_add]; exact h2
  | succ k ih =>
    intro k' pc s pc' s' h1 h2
    obtain ⟨a, pc1, s1, b, b', c, d, h1⟩ := h1
    rw [show k + 1 + k' = (k + k') + 1 by omega]
    exact ⟨a, Or.inr ⟨pc1, s1, b, b', c, d, ih h1 h2⟩⟩
theorem Rk_mono {hi' H' : Nat} (h1 : hi ≤ hi') (h2 : H ≤ H') : ∀ {k pc : Nat} {s : List Int} {pc' : Nat} {s' : List Int}, Rk e st hi H k pc s pc' s' → Rk e st hi' H' k pc s pc' s' := by
  intro k
  induction k with
  | zero => intro pc s pc' s' h; exact h
  | succ k ih =>
    intro pc s pc' s' h
    obtain ⟨a, pc1, s1, b, b', c, d, h⟩ := h
    exact ⟨by omega, pc1, s1, b, b', by omega, d, ih h⟩
theorem Bk_mono {hi' H' : Nat} (h1 : hi ≤ hi') (h2 : H ≤ H') : ∀ {k pc : Nat} {s : List Int}, Bk e st hi H k pc s → Bk e st hi' H' k pc s := by
  intro k
  induction k with
  | zero => intro pc s h; exact h
  | succ k ih =>
    intro pc s h
    obtain ⟨a, h⟩ := h
    refine ⟨by omega, ?_⟩
    rcases h with h | ⟨pc1, s1, b, b', c, d, h⟩
    · exact Or.inl h
    · exact Or.inr ⟨pc1, s1, b, b', by omega, d, ih h⟩
theorem Rc.rf {pc : Nat} {s : List Int} : Rc e st hi H pc s pc s := ⟨0, rfl, rfl⟩
theorem Rc.tr {pc : Nat} {s : List Int} {pc' : Nat} {s' : List Int} {pc'' : Nat} {s'' : List Int} (h1 : Rc e st hi H pc s pc' s') (h2 : Rc e st hi H pc' s' pc'' s'') : Rc e st hi H pc s pc'' s'' := by
  obtain ⟨k, h1⟩ := h1
  obtain ⟨k', h2⟩ := h2
  exact ⟨k + k', Rk_trans h1 h2⟩
theorem Rc.bk {pc : Nat} {s : List Int} {pc' : Nat} {s' : List Int} (h1 : Rc e st hi H pc s pc' s') (h2 : Bc e st hi H pc' s') : Bc e st hi H pc s := by
  obtain ⟨k, h1⟩ := h1
  obtain ⟨k', h2⟩ := h2
  exact ⟨k + k', Rk_B h1 h2⟩
theorem Rc.mono {hi' H' : Nat} (h1 : hi ≤ hi') (h2 : H ≤ H') {pc : Nat} {s : List Int} {pc' : Nat} {s' : List Int} (h : Rc e st hi H pc s pc' s') : Rc e st hi' H' pc s pc' s' := by
  obtain ⟨k, h⟩ := h
  exact ⟨k, Rk_mono h1 h2 h⟩
theorem Bc.mono {hi' H' : Nat} (h1 : hi ≤ hi') (h2 : H ≤ H') {pc : Nat} {s : List Int} (h : Bc e st hi H pc s) : Bc e st hi' H' pc s := by
  obtain ⟨k, h⟩ := h
  exact ⟨k, Bk_mono h1 h2 h⟩
theorem Rc.one {pc : Nat} {s : List Int} {pc' : Nat} {s' : List Int} (h1 : pc < hi) (h2 : xs1 e (st pc) pc s = some (pc', s')) (h2' : pc < pc') (h3 : s'.length ≤ H) (h4 : skB s') : Rc e st hi H pc s pc' s' := ⟨1, h1, pc', s', h2, h2', h3, h4, rfl, rfl⟩
theorem Bc.one {pc : Nat} {s : List Int} (h1 : pc < hi) (h2 : xs1 e (st pc) pc s = none) : Bc e st hi H pc s := ⟨1, h1, Or.inl h2⟩
end
/-- the steps cs lie at c -/
def Sat (st : Nat → Nat) (c : Nat) (cs : List Nat) : Prop := ∀ i, i < cs.length → st (c + i) = cs.getD i 0
theorem Sat.app {st : Nat → Nat} {c : Nat} {as bs : List Nat} (h : Sat st c (as ++ bs)) : Sat st c as ∧ Sat st (c + as.length) bs := by
  constructor
  · intro i hi
    rw [h i (by rw [List.length_append]; omega), List.getD_eq_getElem?_getD, List.getD_eq_getElem?_getD, List.getElem?_append_left hi]
  · intro i hi
    have := h (as.length + i) (by rw [List.length_append]; omega)
    rw [show c + as.length + i = c + (as.length + i) by omega, this, List.getD_eq_getElem?_getD, List.getD_eq_getElem?_getD, List.getElem?_append_right (by omega)]
    congr 2
    omega
theorem Sat.cons {st : Nat → Nat} {c a : Nat} {as : List Nat} (h : Sat st c (a :: as)) : st c = a ∧ Sat st (c + 1) as := by
  constructor
  · have := h 0 (by simp)
    exact this
  · intro i hi
    have := h (i + 1) (by rw [List.length_cons]; omega)
    rw [show c + 1 + i = c + (i + 1) by omega, this]
    rfl
/-- from c0 with s the machine comes to c with what dn tells on s, or breaks -/
def PreQ {α : Type} (emb : α → Int) (st : Nat → Nat) (hi H c0 c : Nat) (e : EnvT) (s : List Int) (x : Option α) : Prop := match x with
  | some v => skB [emb v] ∧ Rc e st hi H c0 s c (emb v :: s)
  | none => Bc e st hi H c0 s
theorem PreQ.mono {α : Type} {emb : α → Int} {st : Nat → Nat} {hi H hi' H' c0 c : Nat} {e : EnvT} {s : List Int} {x : Option α} (h1 : hi ≤ hi') (h2 : H ≤ H') (h : PreQ emb st hi H c0 c e s x) : PreQ emb st hi' H' c0 c e s x := by
  cases x with
  | none => exact Bc.mono h1 h2 h
  | some v => exact ⟨h.1, Rc.mono h1 h2 h.2⟩
def SemQ {α : Type} (emb : α → Int) (h : Nat) (item : Nat → Nat → Nat → PR α) : Prop := ∀ c t l q, c ≤ t → q.1 ≤ 400 → item c t l = .inr q → ∀ st, Sat st c q.2.2.1 → ∀ e s, envB e → skB s → PreQ emb st (c + q.2.2.1.length) (s.length + h) c (c + q.2.2.1.length) e s (q.2.2.2 e)
def eI (x : Int) : Int := x
def eB (b : Bool) : Int := if b then 1 else 0
theorem rng_some {x v : Int} (h : rng x = some v) : -1000000000 ≤ v ∧ v ≤ 1000000000 := by
  unfold rng at h
  split at h
  · cases h; assumption
  · cases h
theorem cmb_some {g : Nat} {a b v : Int} (h : cmb g a b = some v) : -1000000000 ≤ v ∧ v ≤ 1000000000 := by
  unfold cmb at h
  repeat' split at h
  all_goals first | exact rng_some h | cases h
theorem sem_chain {C : Nat → Nat} {sg : Nat → Nat} {item : Nat → Nat → Nat → PR Int} {h : Nat} (hk : Okq C item) (hs : SemQ eI h item) (h5 : ∀ c, sg c ≤ 5) (h00 : sg 0 = 0) : ∀ (m c t l : Nat) (dn : EnvT → Option Int) (q : _), c ≤ t → q.1 ≤ 400 → pChain C sg item m c t l dn = .inr q → ∀ st, Sat st c q.2.2.1 → ∀ e s hi H c0, envB e → skB s → c + q.2.2.1.length ≤ hi → s.length + 1 + h ≤ H → PreQ eI st hi H c0 c e s (dn e) → PreQ eI st hi H c0 (c + q.2.2.1.length) e s (q.2.2.2 e) := by
  intro m
  induction m with
  | zero => intro c t l dn q h1 h2 h3 st h4 e s hi H c0 _ _ h7 h8 h9; cases h3; exact h9
  | succ m ih =>
    intro c t l dn q h1 h2 h3 st h4 e s hi H c0 h5' h6 h7 h8 h9
    rw [pChain] at h3
    split at h3
    · cases h3; exact h9
    · rename_i hg
      cases e1 : item c (t + 1) l with
      | inl x => rw [e1] at h3; cases h3
      | inr q1 =>
        rw [e1] at h3
        dsimp only at h3
        cases e2 : pChain C sg item m (c + q1.2.2.1.length + 1) q1.1 q1.2.1 (bin (sg (C t)) dn q1.2.2.2) with
        | inl x => rw [e2] at h3; cases h3
        | inr q2 =>
          rw [e2] at h3
          cases h3
          dsimp only at h2 h4 h7 ⊢
          obtain ⟨⟨a1, a2, a3, a4, a5⟩, a6, a7⟩ := hk _ _ _ _ e1
          obtain ⟨b1, -⟩ := ok_chain hk h00 _ _ _ _ _ _ e2
          obtain ⟨s1, s2⟩ := Sat.app h4
          obtain ⟨s3, s4⟩ := Sat.cons s2
          simp only [List.length_append, List.length_cons] at h7 ⊢
          rw [show c + (q1.2.2.1.length + (q2.2.2.1.length + 1)) = c + q1.2.2.1.length + 1 + q2.2.2.1.length by omega]
          refine ih _ _ _ _ _ (by omega) h2 e2 st s4 e s hi H c0 h5' h6 (by omega) h8 ?_
          unfold bin
          cases d1 : dn e with
          | none => rw [d1] at h9; exact h9
          | some v =>
            rw [d1] at h9
            obtain ⟨v1, v2⟩ := h9
            have hv := skB_cons.mp v1
            have p1 := hs c (t + 1) l q1 (by omega) (by omega) e1 st s1 e (v :: s) h5' (skB_cons.mpr ⟨hv.1, h6⟩)
            have p2 := PreQ.mono (hi' := hi) (H' := H) (by omega) (by simp only [List.length_cons]; omega) p1
            dsimp only
            cases d2 : q1.2.2.2 e with
            | none => rw [d2] at p2; exact v2.bk p2
            | some w =>
              rw [d2] at p2
              obtain ⟨w1, w2⟩ := p2
              have hgt : sg (C t) * 1024 / 1024 = sg (C t) := by omega
              have hstep : xs1 e (st (c + q1.2.2.1.length)) (c + q1.2.2.1.length) (w :: v :: s) = match cmb (sg (C t)) v w with | none => none | some x => some (c + q1.2.2.1.length + 1, x :: s) := by
                rw [s3]
                unfold xs1
                have h5 := h5 (C t)
                rw [hgt, if_neg (by omega), if_neg (by omega)]
                dsimp only
                rw [if_neg (by omega), if_neg (by omega), if_neg (by omega)]
                unfold op2
                rw [if_pos h5]
              dsimp only
              cases d3 : cmb (sg (C t)) v w with
              | none =>
                rw [d3] at hstep
                exact v2.bk (w2.bk (Bc.one (by omega) hstep))
              | some x =>
                rw [d3] at hstep
                have hx := cmb_some d3
                refine ⟨skB_cons.mpr ⟨hx, skB_nil⟩, v2.tr (w2.tr (Rc.one (by omega) hstep (by omega) (by simp only [List.length_cons]; omega) (skB_cons.mpr ⟨hx, h6⟩)))⟩
theorem sem_seq {C : Nat → Nat} {sg : Nat → Nat} {item : Nat → Nat → Nat → PR Int} {h : Nat} (hk : Okq C item) (hs : SemQ eI h item) (h5 : ∀ c, sg c ≤ 5) (h00 : sg 0 = 0) : SemQ eI (h + 1) (pSeq C sg item) := by
  intro c t l q h1 h2 h3 st h4 e s h5' h6
  unfold pSeq at h3
  cases e1 : item c t l with
  | inl x => rw [e1] at h3; cases h3
  | inr q1 =>
    rw [e1] at h3
    dsimp only at h3
    cases e2 : pChain C sg item 401 (c + q1.2.2.1.length) q1.1 q1.2.1 q1.2.2.2 with
    | inl x => rw [e2] at h3; cases h3
    | inr q2 =>
      rw [e2] at h3
      cases h3
      dsimp only at h2 h4 ⊢
      obtain ⟨⟨a1, a2, a3, a4, a5⟩, a6, a7⟩ := hk _ _ _ _ e1
      obtain ⟨b1, b2, b3, b4, b5⟩ := ok_chain hk h00 _ _ _ _ _ _ e2
      obtain ⟨s1, s2⟩ := Sat.app h4
      simp only [List.length_append]
      rw [show c + (q1.2.2.1.length + q2.2.2.1.length) = c + q1.2.2.1.length + q2.2.2.1.length by omega]
      refine sem_chain hk hs h5 h00 _ _ _ _ _ _ (by omega) h2 e2 st s2 e s _ _ c h5' h6 (Nat.le_refl _) (by omega) ?_
      exact PreQ.mono (by omega) (by omega) (hs c t l q1 h1 (by omega) e1 st s1 e s h5' h6)
theorem sem_part {o : Bool} {C V : Nat → Nat} {inner : Option (Nat → Nat → Nat → PR Int)} {h : Nat} (h1 : 1 ≤ h) (hi : ∀ sm, inner = some sm → Okq C sm ∧ SemQ eI h sm) : SemQ eI h (pPart o C V inner) := by
  intro c t l q h1' h2 h3 st h4 e s h5 h6
  have hw : ∀ o c, wsg o c = 0 ∨ (12 ≤ wsg o c ∧ wsg o c ≤ 25) := by
    intro o c
    cases o <;> unfold wsg <;> dsimp only [cond_true, cond_false] <;> split <;> omega
  have hl : ∀ o c m, wlim o c = some m → m ≤ 9 := by
    intro o c m
    cases o <;> unfold wlim <;> dsimp only [cond_true, cond_false]
    · intro h; cases h
    · split <;> intro h <;> cases h <;> omega
  unfold pPart at h3
  split at h3
  · cases inner with
    | none => cases h3
    | some sm =>
      dsimp only at h3
      cases e1 : sm c (t + 1) l with
      | inl x => rw [e1] at h3; cases h3
      | inr q1 =>
        rw [e1] at h3
        dsimp only at h3
        split at h3
        · cases h3
          dsimp only at h2 h4 ⊢
          exact (hi sm rfl).2 c (t + 1) l q1 (by omega) (by omega) e1 st h4 e s h5 h6
        · cases h3
  · split at h3
    · cases h3
    · split at h3
      · split at h3
        · rename_i hv
          cases h3
          dsimp only at h2 h4 ⊢
          obtain ⟨s1, -⟩ := Sat.cons h4
          have hb : -1000000000 ≤ ((V t : Nat) : Int) ∧ ((V t : Nat) : Int) ≤ 1000000000 := by omega
          refine ⟨skB_cons.mpr ⟨hb, skB_nil⟩, Rc.one (by simp) ?_ (by simp) (by simp only [List.length_cons]; omega) (skB_cons.mpr ⟨hb, h6⟩)⟩
          rw [s1]
          unfold xs1
          rw [if_pos (by omega), Nat.mod_eq_of_lt (by omega)]
          rfl
        · cases h3
      · split at h3
        · cases h3
        · rename_i hw0
          have hw1 := hw o (C t)
          cases e2 : wlim o (C t) with
          | none =>
            rw [e2] at h3
            cases h3
            dsimp only at h2 h4 ⊢
            obtain ⟨s1, -⟩ := Sat.cons h4
            have hb := h5 (wsg o (C t)) 0
            refine ⟨skB_cons.mpr ⟨hb, skB_nil⟩, Rc.one (by simp) ?_ (by simp) (by simp only [List.length_cons]; omega) (skB_cons.mpr ⟨hb, h6⟩)⟩
            rw [s1]
            unfold xs1
            rw [show wsg o (C t) * 1024 / 1024 = wsg o (C t) by omega, show wsg o (C t) * 1024 % 1024 = 0 by omega, if_neg hw0, if_pos (by omega)]
            rfl
          | some m =>
            have hm := hl _ _ _ e2
            rw [e2] at h3
            dsimp only at h3
            split at h3
            · rename_i hv
              cases h3
              dsimp only at h2 h4 ⊢
              obtain ⟨s1, -⟩ := Sat.cons h4
              have hb := h5 (wsg o (C t)) (V (t + 1))
              refine ⟨skB_cons.mpr ⟨hb, skB_nil⟩, Rc.one (by simp) ?_ (by simp) (by simp only [List.length_cons]; omega) (skB_cons.mpr ⟨hb, h6⟩)⟩
              rw [s1]
              unfold xs1
              rw [show (wsg o (C t) * 1024 + V (t + 1)) / 1024 = wsg o (C t) by omega, show (wsg o (C t) * 1024 + V (t + 1)) % 1024 = V (t + 1) by omega, if_neg hw0, if_pos (by omega)]
              rfl
            · cases h3
theorem mulS_5 (c : Nat) : mulS c ≤ 5 := by
  unfold mulS
  repeat' split
  all_goals omega
theorem addS_5 (c : Nat) : addS c ≤ 5 := by
  unfold addS
  repeat' split
  all_goals omega
theorem sem_sum {o : Bool} {C V : Nat → Nat} : ∀ r, SemQ eI (2 * r + 3) (pSum o C V r)
  | 0 => sem_seq (ok_seq (ok_part (fun sm h => by cases h)) rfl) (sem_seq (ok_part (fun sm h => by cases h)) (sem_part (h := 1) (Nat.le_refl _) (fun sm h => by cases h)) mulS_5 rfl) addS_5 rfl
  | r + 1 => sem_seq (ok_seq (ok_part (fun sm h => by cases h; exact ok_sum r)) rfl) (sem_seq (ok_part (fun sm h => by cases h; exact ok_sum r)) (sem_part (h := 2 * r + 3) (by omega) (fun sm h => by cases h; exact ⟨ok_sum r, sem_sum r⟩)) mulS_5 rfl) addS_5 rfl
