/-! ===== what a LAW tells hangs on its own words alone ===== -/
def agL (e e' : EnvT) : Prop := ∀ c, wsg false c ≠ 0 → e (wsg false c) 0 = e' (wsg false c) 0
def inP {α : Type} (item : Nat → Nat → Nat → PR α) : Prop := ∀ c t l q, item c t l = .inr q → ∀ e e', agL e e' → q.2.2.2 e = q.2.2.2 e'
theorem in_chain {C : Nat → Nat} {sg : Nat → Nat} {item : Nat → Nat → Nat → PR Int} (hi : inP item) : ∀ (m c t l : Nat) (dn : EnvT → Option Int) (q : _), pChain C sg item m c t l dn = .inr q → ∀ e e', agL e e' → dn e = dn e' → q.2.2.2 e = q.2.2.2 e' := by
  intro m
  induction m with
  | zero => intro c t l dn q h e e' _ he; cases h; exact he
  | succ m ih =>
    intro c t l dn q h e e' ha he
    rw [pChain] at h
    split at h
    · cases h; exact he
    · cases e1 : item c (t + 1) l with
      | inl x => rw [e1] at h; cases h
      | inr q1 =>
        rw [e1] at h
        dsimp only at h
        cases e2 : pChain C sg item m (c + q1.2.2.1.length + 1) q1.1 q1.2.1 (bin (sg (C t)) dn q1.2.2.2) with
        | inl x => rw [e2] at h; cases h
        | inr q2 =>
          rw [e2] at h
          cases h
          refine ih _ _ _ _ _ e2 e e' ha ?_
          unfold bin
          rw [he, hi _ _ _ _ e1 e e' ha]
theorem in_seq {C : Nat → Nat} {sg : Nat → Nat} {item : Nat → Nat → Nat → PR Int} (hi : inP item) : inP (pSeq C sg item) := by
  intro c t l q h e e' ha
  unfold pSeq at h
  cases e1 : item c t l with
  | inl x => rw [e1] at h; cases h
  | inr q1 =>
    rw [e1] at h
    dsimp only at h
    cases e2 : pChain C sg item 401 (c + q1.2.2.1.length) q1.1 q1.2.1 q1.2.2.2 with
    | inl x => rw [e2] at h; cases h
    | inr q2 =>
      rw [e2] at h
      cases h
      exact in_chain hi _ _ _ _ _ _ e2 e e' ha (hi _ _ _ _ e1 e e' ha)
theorem in_part {C V : Nat → Nat} {inner : Option (Nat → Nat → Nat → PR Int)} (hi : ∀ sm, inner = some sm → inP sm) : inP (pPart false C V inner) := by
  intro c t l q h e e' ha
  unfold pPart at h
  split at h
  · cases inner with
    | none => cases h
    | some sm =>
      dsimp only at h
      cases e1 : sm c (t + 1) l with
      | inl x => rw [e1] at h; cases h
      | inr q1 =>
        rw [e1] at h
        dsimp only at h
        split at h
        · cases h; exact hi sm rfl _ _ _ _ e1 e e' ha
        · cases h
  · split at h
    · cases h
    · split at h
      · split at h
        · cases h; rfl
        · cases h
      · split at h
        · cases h
        · rename_i hw
          cases h
          show some _ = some _
          rw [ha _ hw]
theorem in_sum {C V : Nat → Nat} : ∀ r, inP (pSum false C V r)
  | 0 => in_seq (in_seq (in_part (fun sm h => by cases h)))
  | r + 1 => in_seq (in_seq (in_part (fun sm h => by cases h; exact in_sum r)))
theorem in_pos {C V : Nat → Nat} {r : Nat} {inner : Option (Nat → Nat → Nat → PR Bool)} (hi : ∀ sm, inner = some sm → inP sm) : inP (pPos false C V r inner) := by
  intro c t l q h e e' ha
  unfold pPos at h
  split at h
  · cases inner with
    | none => cases h
    | some sm =>
      dsimp only at h
      cases e1 : sm c (t + 1) l with
      | inl x => rw [e1] at h; cases h
      | inr q1 =>
        rw [e1] at h
        dsimp only at h
        split at h
        · cases h; exact hi sm rfl _ _ _ _ e1 e e' ha
        · cases h
  · cases e1 : pSum false C V r c t l with
    | inl x => rw [e1] at h; cases h
    | inr q1 =>
      rw [e1] at h
      dsimp only at h
      split at h
      · cases h
      · cases e2 : pSum false C V r (c + q1.2.2.1.length) (q1.1 + 1) q1.2.1 with
        | inl x => rw [e2] at h; cases h
        | inr q2 =>
          rw [e2] at h
          cases h
          show cmpD _ _ _ e = cmpD _ _ _ e'
          unfold cmpD
          rw [in_sum r _ _ _ _ e1 e e' ha, in_sum r _ _ _ _ e2 e e' ha]
theorem in_plain {C V : Nat → Nat} {r : Nat} {inner : Option (Nat → Nat → Nat → PR Bool)} (hi : ∀ sm, inner = some sm → inP sm) : inP (pPlain false C V r inner) := by
  intro c t l q h e e' ha
  unfold pPlain at h
  cases e1 : pPos false C V r inner c (pNots C 401 t).1 l with
  | inl x => rw [e1] at h; cases h
  | inr q1 =>
    rw [e1] at h
    cases h
    show negD _ _ e = negD _ _ e'
    unfold negD
    rw [in_pos hi _ _ _ _ e1 e e' ha]
theorem in_log {C : Nat → Nat} {w sg : Nat} {sc : Bool} {item : Nat → Nat → Nat → PR Bool} (hi : inP item) : ∀ (m c t l : Nat) (dn : EnvT → Option Bool) (q : _), pLog C w sg sc item m c t l dn = .inr q → ∀ e e', agL e e' → dn e = dn e' → q.2.2.2 e = q.2.2.2 e' := by
  intro m
  induction m with
  | zero => intro c t l dn q h e e' _ he; cases h; exact he
  | succ m ih =>
    intro c t l dn q h e e' ha he
    rw [pLog] at h
    split at h
    · cases e1 : item (c + 1) (t + 1) l with
      | inl x => rw [e1] at h; cases h
      | inr q1 =>
        rw [e1] at h
        dsimp only at h
        cases e2 : pLog C w sg sc item m (c + 1 + q1.2.2.1.length) q1.1 q1.2.1 (logD sc dn q1.2.2.2) with
        | inl x => rw [e2] at h; cases h
        | inr q2 =>
          rw [e2] at h
          cases h
          refine ih _ _ _ _ _ e2 e e' ha ?_
          unfold logD
          rw [he, hi _ _ _ _ e1 e e' ha]
    · cases h; exact he
theorem in_join {C : Nat → Nat} {w sg : Nat} {sc : Bool} {item : Nat → Nat → Nat → PR Bool} (hi : inP item) : inP (pJoin C w sg sc item) := by
  intro c t l q h e e' ha
  unfold pJoin at h
  cases e1 : item c t l with
  | inl x => rw [e1] at h; cases h
  | inr q1 =>
    rw [e1] at h
    dsimp only at h
    cases e2 : pLog C w sg sc item 401 (c + q1.2.2.1.length) q1.1 q1.2.1 q1.2.2.2 with
    | inl x => rw [e2] at h; cases h
    | inr q2 =>
      rw [e2] at h
      cases h
      exact in_log hi _ _ _ _ _ _ e2 e e' ha (hi _ _ _ _ e1 e e' ha)
theorem in_test {C V : Nat → Nat} : ∀ r, inP (pTest false C V r)
  | 0 => in_join (in_join (in_plain (fun sm h => by cases h)))
  | r + 1 => in_join (in_join (in_plain (fun sm h => by cases h; exact in_test r)))
theorem in_if {C V : Nat → Nat} : inP (pIf false C V) := by
  intro c t l q h e e' ha
  unfold pIf at h
  split at h
  · exact in_test 8 _ _ _ _ h e e' ha
  · cases h; rfl
def inC (q : CL) : Prop := ∀ e e', agL e e' → q.2.2.2.2.1 e = q.2.2.2.2.1 e' ∧ q.2.2.2.2.2.2 e = q.2.2.2.2.2.2 e'
theorem in_lawC {C V : Nat → Nat} (c t l : Nat) (q : CL) (h : pLawC C V c t l = .inr q) : inC q := by
  unfold pLawC at h
  split at h
  · cases e1 : pIf false C V c (t + 1) l with
    | inl e => rw [e1] at h; cases h
    | inr r =>
      rw [e1] at h
      cases h
      exact fun e e' ha => ⟨rfl, in_if _ _ _ _ e1 e e' ha⟩
  · split at h
    · cases e1 : pSum false C V 8 c (t + 1) l with
      | inl e => rw [e1] at h; cases h
      | inr q1 =>
        rw [e1] at h
        dsimp only at h
        cases e2 : pIf false C V (c + q1.2.2.1.length) q1.1 q1.2.1 with
        | inl e => rw [e2] at h; cases h
        | inr r =>
          rw [e2] at h
          cases h
          exact fun e e' ha => ⟨in_sum 8 _ _ _ _ e1 e e' ha, in_if _ _ _ _ e2 e e' ha⟩
    · cases h
theorem last_in {e e' : EnvT} (ha : agL e e') {k : Nat} {cls : List CL} (h : ∀ j, j < cls.length → inC (cls.getD j dCL)) : ∀ m, m ≤ cls.length → lastI e k cls m = lastI e' k cls m := by
  intro m
  induction m with
  | zero => intro _; rfl
  | succ m ih =>
    intro hm
    unfold lastI
    rw [(h m (by omega) e e' ha).1, (h m (by omega) e e' ha).2, ih (by omega)]
theorem LM_in {N : Nat → Nat} {cls : List CL} (hl : LM N cls) : ∀ j, j < cls.length → inC (cls.getD j dCL) := by
  rcases hl with ⟨-, rfl⟩ | ⟨i, h1, h2, h3⟩
  · intro j hj; exact absurd hj (Nat.not_lt_zero _)
  · exact fun j hj => pText_all in_lawC _ _ _ _ _ h3.2 _ (getD_mem hj)
theorem wsg_cases {c : Nat} (h : wsg false c ≠ 0) : wsg false c = 12 ∨ wsg false c = 13 ∨ wsg false c = 14 ∨ wsg false c = 15 ∨ wsg false c = 16 ∨ wsg false c = 17 ∨ wsg false c = 18 ∨ wsg false c = 19 ∨ wsg false c = 20 := by
  have h2 := wsg_law h
  rcases (show c = 8 ∨ c = 9 ∨ c = 10 ∨ c = 11 ∨ c = 12 ∨ c = 13 ∨ c = 14 ∨ c = 15 ∨ c = 16 by omega) with rfl | rfl | rfl | rfl | rfl | rfl | rfl | rfl | rfl <;> decide
theorem ag_x {N M : Nat → Nat} {s : Nat} {to dn lt dn' lt' : Int} (h1 : M (37 + s) = N (37 + s)) (h2 : M (6 + s) = N (6 + s)) (h3 : M (16 + s) = N (16 + s)) (h4 : M (57 + s) = N (57 + s)) (h5 : M 36 = N 36) (h6 : M (67 + s) = N (67 + s)) (h7 : M (N (37 + s)) = N (N (37 + s))) (h8 : M 98 = N 98) : agL (xEnv N s to dn lt) (xEnv M s to dn' lt') := by
  intro c hc
  rcases wsg_cases hc with e | e | e | e | e | e | e | e | e <;> rw [e] <;> simp [xEnv, h1, h2, h3, h4, h5, h6, h7, h8]
/-- the CLAUSES in force -/
noncomputable def clsOf (N : Nat → Nat) : List CL := by
  classical
  exact if h : ∃ cls, LM N cls then h.choose else []
theorem LM_fun {N : Nat → Nat} {a b : List CL} (ha : LM N a) (hb : LM N b) : a = b := by
  rcases ha with ⟨h1, rfl⟩ | ⟨i, h1, h2, h3⟩ <;> rcases hb with ⟨g1, rfl⟩ | ⟨j, g1, g2, g3⟩
  · rfl
  · omega
  · omega
  · obtain rfl : i = j := by omega
    have h := h3.2
    rw [g3.2] at h
    cases h
    rfl
theorem clsOf_eq {N : Nat → Nat} {cls : List CL} (h : LM N cls) : clsOf N = cls := by
  have hx : ∃ cls, LM N cls := ⟨cls, h⟩
  have e : clsOf N = hx.choose := by unfold clsOf; exact dif_pos hx
  rw [e]
  exact LM_fun hx.choose_spec h
noncomputable def payP (N : Nat → Nat) (s : Nat) : Nat := payN N s (clsOf N) 0 0
noncomputable def wearP (N : Nat → Nat) (s : Nat) : Nat := wearN N s (clsOf N) 0 0
def barP (N : Nat → Nat) (s p : Nat) : Prop := (lastI (xEnv N s p 0 0) 6 (clsOf N) (clsOf N).length).isSome = true
theorem payP_eq {N : Nat → Nat} {cls : List CL} (h : LM N cls) (s : Nat) (dn lt : Int) : payN N s cls dn lt = payP N s := by
  unfold payP payN
  rw [clsOf_eq h, last_in (ag_x rfl rfl rfl rfl rfl rfl rfl rfl) (LM_in h) _ (Nat.le_refl _)]
theorem wearP_eq {N : Nat → Nat} {cls : List CL} (h : LM N cls) (s : Nat) (dn lt : Int) : wearN N s cls dn lt = wearP N s := by
  unfold wearP wearN
  rw [clsOf_eq h, last_in (ag_x rfl rfl rfl rfl rfl rfl rfl rfl) (LM_in h) _ (Nat.le_refl _)]
theorem barP_eq {N : Nat → Nat} {cls : List CL} (h : LM N cls) (s p : Nat) (dn lt : Int) : ((lastI (xEnv N s p dn lt) 6 cls cls.length).isSome = true) = barP N s p := by
  unfold barP
  rw [clsOf_eq h, last_in (ag_x rfl rfl rfl rfl rfl rfl rfl rfl) (LM_in h) _ (Nat.le_refl _)]
theorem tellN_le {high wo : Nat} {x : Option Int} (h : wo ≤ high) : tellN high wo x ≤ high := by
  cases x with
  | none => exact h
  | some v => exact clN_le
