/-! ===== the reference's evaluator: SUMS ===== -/
def res (lv br : Bool) (x : Option Int) : Int × Bool := if lv = true ∧ br = false then (match x with | some v => (v, false) | none => (0, true)) else (0, br)
def iB (x : Option Int) : Prop := ∀ v, x = some v → -1000000000 ≤ v ∧ v ≤ 1000000000
theorem res_b {lv br : Bool} {x : Option Int} (h : iB x) : -1000000000 ≤ (res lv br x).1 ∧ (res lv br x).1 ≤ 1000000000 := by
  unfold res
  split
  · cases x with
    | none => dsimp only; omega
    | some v => exact h v rfl
  · dsimp only; omega
theorem cmb_B (g : Nat) (a b : Int) : iB (cmb g a b) := fun _ h => cmb_some h
theorem bin_B {g : Nat} {d1 d2 : EnvT → Option Int} {e : EnvT} : iB (bin g d1 d2 e) := by
  intro v h
  unfold bin at h
  cases h1 : d1 e with
  | none => rw [h1] at h; cases h
  | some a =>
    rw [h1] at h
    dsimp only at h
    cases h2 : d2 e with
    | none => rw [h2] at h; cases h
    | some b => rw [h2] at h; exact cmb_some h
theorem res_s (v : Int) : res true false (some v) = (v, false) := rfl
theorem res_n : res true false none = (0, true) := rfl
theorem res_f (br : Bool) (x : Option Int) : res false br x = (0, br) := by cases br <;> rfl
theorem res_t (lv : Bool) (x : Option Int) : res lv true x = (0, true) := by cases lv <;> rfl
theorem bnd_t (lv : Bool) (x : Int) : bnd lv true x = (0, true) := rfl
theorem bnd_f (x : Int) : bnd false false x = (x, false) := by simp [bnd]
theorem bnd_r (x : Int) : bnd true false x = res true false (rng x) := by
  unfold bnd rng
  by_cases h : -1000000000 ≤ x ∧ x ≤ 1000000000
  · rw [if_neg (by decide), if_neg (by omega), if_pos h, res_s]
  · rw [if_neg (by decide), if_pos ⟨rfl, by omega⟩, if_neg h, res_n]
theorem bnd_add {lv br : Bool} {d1 d2 : EnvT → Option Int} {e : EnvT} : bnd lv (res lv (res lv br (d1 e)).2 (d2 e)).2 ((res lv br (d1 e)).1 + (res lv (res lv br (d1 e)).2 (d2 e)).1) = res lv br (bin 1 d1 d2 e) := by
  unfold bin
  cases lv <;> cases br <;> cases e1 : d1 e <;> cases e2 : d2 e <;> simp only [res_f, res_t, bnd_f, bnd_t, res_s, res_n, bnd_r, cmb, ↓reduceIte] <;> rfl
theorem bnd_sub {lv br : Bool} {d1 d2 : EnvT → Option Int} {e : EnvT} : bnd lv (res lv (res lv br (d1 e)).2 (d2 e)).2 ((res lv br (d1 e)).1 - (res lv (res lv br (d1 e)).2 (d2 e)).1) = res lv br (bin 2 d1 d2 e) := by
  unfold bin
  cases lv <;> cases br <;> cases e1 : d1 e <;> cases e2 : d2 e <;> simp only [res_f, res_t, bnd_f, bnd_t, res_s, res_n, bnd_r, cmb, ↓reduceIte, Nat.reduceEqDiff] <;> rfl
theorem bnd_mul {lv br : Bool} {d1 d2 : EnvT → Option Int} {e : EnvT} : bnd lv (res lv (res lv br (d1 e)).2 (d2 e)).2 ((res lv br (d1 e)).1 * (res lv (res lv br (d1 e)).2 (d2 e)).1) = res lv br (bin 3 d1 d2 e) := by
  unfold bin
  cases lv <;> cases br <;> cases e1 : d1 e <;> cases e2 : d2 e <;> simp only [res_f, res_t, bnd_f, bnd_t, res_s, res_n, bnd_r, cmb, ↓reduceIte, Nat.reduceEqDiff] <;> rfl
/-- a divisor 0 breaks -/
def dvz (lv br : Bool) (w : Int) : Int × Bool := if w = 0 then (1, br || lv) else (w, br)
theorem bnd_div {lv br : Bool} {d1 d2 : EnvT → Option Int} {e : EnvT} : bnd lv (dvz lv (res lv (res lv br (d1 e)).2 (d2 e)).2 (res lv (res lv br (d1 e)).2 (d2 e)).1).2 ((res lv br (d1 e)).1.tdiv (dvz lv (res lv (res lv br (d1 e)).2 (d2 e)).2 (res lv (res lv br (d1 e)).2 (d2 e)).1).1) = res lv br (bin 4 d1 d2 e) := by
  unfold bin dvz
  cases lv <;> cases br <;> cases e1 : d1 e <;> cases e2 : d2 e <;> simp only [res_f, res_t, bnd_f, bnd_t, res_s, res_n, bnd_r, cmb, ↓reduceIte, Nat.reduceEqDiff, Bool.or_true, Bool.or_false, Int.zero_tdiv]
  rename_i a b
  by_cases hb : b = 0
  · simp only [hb, ↓reduceIte, bnd_t]; rfl
  · simp only [hb, ↓reduceIte, bnd_r]
theorem bnd_mod {lv br : Bool} {d1 d2 : EnvT → Option Int} {e : EnvT} : bnd lv (dvz lv (res lv (res lv br (d1 e)).2 (d2 e)).2 (res lv (res lv br (d1 e)).2 (d2 e)).1).2 ((res lv br (d1 e)).1.tmod (dvz lv (res lv (res lv br (d1 e)).2 (d2 e)).2 (res lv (res lv br (d1 e)).2 (d2 e)).1).1) = res lv br (bin 5 d1 d2 e) := by
  unfold bin dvz
  cases lv <;> cases br <;> cases e1 : d1 e <;> cases e2 : d2 e <;> simp only [res_f, res_t, bnd_f, bnd_t, res_s, res_n, bnd_r, cmb, ↓reduceIte, Nat.reduceEqDiff, Bool.or_true, Bool.or_false, Int.zero_tmod]
  rename_i a b
  by_cases hb : b = 0
  · simp only [hb, ↓reduceIte, bnd_t]; rfl
  · simp only [hb, ↓reduceIte, bnd_r]
theorem lgc_eq {a : Int} (h1 : -9223372036854775808 ≤ a) (h2 : a < 9223372036854775808) : (lg_cmp (kI a) (kI 0) = 0) = (a = 0) := by
  unfold lg_cmp
  simp (disch := omega) only [gt_iff_lt, kI_lt, kI_eq]
  rcases Int.lt_trichotomy a 0 with h | h | h
  · rw [if_neg (by omega), if_neg (by omega)]
    apply propext; constructor
    · intro h; cases h
    · intro h; omega
  · rw [if_neg (by omega), if_pos h]
    simp [h]
  · rw [if_pos h]
    apply propext; constructor
    · intro h; cases h
    · intro h; omega
def dnB (item : Nat → Nat → Nat → PR Int) : Prop := ∀ c t l q, item c t l = .inr q → ∀ e, envB e → iB (q.2.2.2 e)
theorem dB_chain {C : Nat → Nat} {sg : Nat → Nat} {item : Nat → Nat → Nat → PR Int} : ∀ (m c t l : Nat) (dn : EnvT → Option Int) (q : _), pChain C sg item m c t l dn = .inr q → ∀ e, iB (dn e) → iB (q.2.2.2 e) := by
  intro m
  induction m with
  | zero => intro c t l dn q h e he; cases h; exact he
  | succ m ih =>
    intro c t l dn q h e he
    rw [pChain] at h
    split at h
    · cases h; exact he
    · cases e1 : item c (t + 1) l with
      | inl x => rw [e1] at h; cases h
      | inr q1 =>
        rw [e1] at h
        dsimp only at h
        cases e2 : pChain C sg item m (c + q1.2.2.1.length + 1) q1.1 q1.2.1 (bin (sg (C t)) dn q1.2.2.2) with
        | inl x => rw [e2] at h; cases h
        | inr q2 =>
          rw [e2] at h
          cases h
          exact ih _ _ _ _ _ e2 e bin_B
theorem dB_seq {C : Nat → Nat} {sg : Nat → Nat} {item : Nat → Nat → Nat → PR Int} (hi : dnB item) : dnB (pSeq C sg item) := by
  intro c t l q h e he
  unfold pSeq at h
  cases e1 : item c t l with
  | inl x => rw [e1] at h; cases h
  | inr q1 =>
    rw [e1] at h
    dsimp only at h
    cases e2 : pChain C sg item 401 (c + q1.2.2.1.length) q1.1 q1.2.1 q1.2.2.2 with
    | inl x => rw [e2] at h; cases h
    | inr q2 =>
      rw [e2] at h
      cases h
      exact dB_chain _ _ _ _ _ _ e2 e (hi _ _ _ _ e1 e he)
theorem dB_part {o : Bool} {C V : Nat → Nat} {inner : Option (Nat → Nat → Nat → PR Int)} (hi : ∀ sm, inner = some sm → dnB sm) : dnB (pPart o C V inner) := by
  intro c t l q h e he
  unfold pPart at h
  split at h
  · cases inner with
    | none => cases h
    | some sm =>
      dsimp only at h
      cases e1 : sm c (t + 1) l with
      | inl x => rw [e1] at h; cases h
      | inr q1 =>
        rw [e1] at h
        dsimp only at h
        split at h
        · cases h; exact hi sm rfl _ _ _ _ e1 e he
        · cases h
  · split at h
    · cases h
    · split at h
      · split at h
        · cases h
          intro v hv
          cases hv
          omega
        · cases h
      · split at h
        · cases h
        · cases e2 : wlim o (C t) with
          | none =>
            rw [e2] at h
            cases h
            intro v hv
            cases hv
            exact he _ _
          | some m =>
            rw [e2] at h
            dsimp only at h
            split at h
            · cases h
              intro v hv
              cases hv
              exact he _ _
            · cases h
theorem dB_sum {o : Bool} {C V : Nat → Nat} : ∀ r, dnB (pSum o C V r)
  | 0 => dB_seq (dB_seq (dB_part (fun sm h => by cases h)))
  | r + 1 => dB_seq (dB_seq (dB_part (fun sm h => by cases h; exact dB_sum r)))
