/-! ===== CALLED IN: the search, in pure ===== -/
/-- what a search among the calls keeps -/
def SQ (N0 N : Nat → Nat) : Prop := (∀ j, 6 ≤ j → ¬ (26 ≤ j ∧ j < 36) → N j = N0 j) ∧ (∀ j, j < 10 → N0 (26 + j) = 1 → N (26 + j) = 1) ∧ VK N
theorem SQ_rf {N : Nat → Nat} (hv : VK N) : SQ N N := ⟨fun _ _ _ => rfl, fun _ _ h => h, hv⟩
theorem callN_mid {N : Nat → Nat} (hv : VK N) {s v j : Nat} (hs : s < 10) (h1 : 6 ≤ j) (h2 : j ≠ 26 + s) : callNQ N s v j = N j := by
  unfold callNQ
  rw [upN_ne h2, moveN_hi hv hs h1]
theorem SQ_call {N0 N : Nat → Nat} (h : SQ N0 N) {s : Nat} (hs : s < 10) (v : Nat) : SQ N0 (callNQ N s v) := by
  refine ⟨fun j h1 h2 => ?_, fun j h1 h2 => ?_, callN_VK h.2.2 hs⟩
  · rw [callN_mid h.2.2 hs h1 (by omega)]; exact h.1 j h1 h2
  · by_cases e : j = s
    · subst e; unfold callNQ; rw [upN_eq]
    · rw [callN_mid h.2.2 hs (by omega) (by omega)]; exact h.2.1 j h1 h2
theorem LM_mv {N M : Nat → Nat} {cls : List CL} (h : LM N cls) (h1 : M 103 = N 103) (h2 : ∀ j, 104 ≤ j → M j = N j) : LM M cls := by
  rcases h with ⟨a, b⟩ | ⟨i, a, b, c⟩
  · exact Or.inl ⟨by rw [h1]; exact a, b⟩
  · exact Or.inr ⟨i, by rw [h1]; exact a, b, LT_m h2 i cls c⟩
theorem payP_ag {N0 N M : Nat → Nat} (hv : VK N0) (hl : LL N0) (h : SQ N0 N) (h' : SQ N0 M) {s : Nat} (hs : s < 10) (e : M (M (37 + s)) = N (N (37 + s))) : payP M s = payP N s := by
  obtain ⟨cls, hm⟩ := LL_LM hv hl
  have m1 : LM N cls := LM_mv hm (h.1 103 (by omega) (by omega)) (fun j hj => h.1 j (by omega) (by omega))
  have m2 : LM M cls := LM_mv hm (h'.1 103 (by omega) (by omega)) (fun j hj => h'.1 j (by omega) (by omega))
  have q : ∀ j, 6 ≤ j → ¬ (26 ≤ j ∧ j < 36) → M j = N j := fun j h1 h2 => by rw [h.1 j h1 h2, h'.1 j h1 h2]
  unfold payP payN
  rw [clsOf_eq m1, clsOf_eq m2, q (16 + s) (by omega) (by omega)]
  rw [q (37 + s) (by omega) (by omega)] at e
  rw [last_in (ag_x (N := N) (M := M) (q (37 + s) (by omega) (by omega)) (q (6 + s) (by omega) (by omega)) (q (16 + s) (by omega) (by omega)) (q (57 + s) (by omega) (by omega)) (q 36 (by omega) (by omega)) (q (67 + s) (by omega) (by omega)) e (q 98 (by omega) (by omega))) (LM_in m1) _ (Nat.le_refl _)]
abbrev duN (N : Nat → Nat) (i : Nat) : Prop := N (26 + i) ≠ 1 ∧ N (67 + i) ≤ N 36
def dcN (N : Nat → Nat) : Nat → Nat → Nat
  | 0, _ => 0
  | c + 1, i => (if duN N i then 1 else 0) + dcN N c (i + 1)
theorem dcN_le {N M : Nat → Nat} (h : ∀ j, duN M j → duN N j) : ∀ c i, dcN M c i ≤ dcN N c i := by
  intro c
  induction c with
  | zero => intro i; exact Nat.le_refl _
  | succ c ih =>
    intro i
    have := ih (i + 1)
    rw [dcN, dcN]
    by_cases e : duN M i
    · rw [if_pos e, if_pos (h i e)]; omega
    · rw [if_neg e]; omega
theorem dcN_lt {N M : Nat → Nat} (h : ∀ j, duN M j → duN N j) {s : Nat} (h1 : duN N s) (h2 : ¬ duN M s) : ∀ c i, i ≤ s → s < i + c → dcN M c i + 1 ≤ dcN N c i := by
  intro c
  induction c with
  | zero => intro i _ _; omega
  | succ c ih =>
    intro i hi hs
    rw [dcN, dcN]
    by_cases e : i = s
    · subst e
      have := dcN_le h c (i + 1)
      rw [if_neg h2, if_pos h1]; omega
    · have := ih (i + 1) (by omega) (by omega)
      by_cases e : duN M i
      · rw [if_pos e, if_pos (h i e)]; omega
      · rw [if_neg e]; omega
theorem due_call {N : Nat → Nat} (hv : VK N) {s : Nat} (hs : s < N 100) (hc : duN N s) (v : Nat) : dcN (callNQ N s v) (callNQ N s v 100) 0 + 1 ≤ dcN N (N 100) 0 := by
  have h100 := hv.2.2.1
  rw [callN_hi hv (by omega) (show 37 ≤ 100 by decide)]
  refine dcN_lt (s := s) (fun j hj => ?_) hc (fun h => ?_) _ _ (by omega) (by omega)
  · unfold duN at hj ⊢
    rw [callN_mid hv (show s < 10 by omega) (show 6 ≤ 67 + j by omega) (by omega), callN_mid hv (show s < 10 by omega) (show 6 ≤ 36 by omega) (by omega)] at hj
    refine ⟨?_, hj.2⟩
    by_cases e : j = s
    · exfalso
      apply hj.1
      rw [e]; unfold callNQ; rw [upN_eq]
    · rw [callN_mid hv (show s < 10 by omega) (show 6 ≤ 26 + j by omega) (by omega)] at hj
      exact hj.1
  · apply h.1
    unfold callNQ; rw [upN_eq]
def dlN (N : Nat → Nat) : Nat → Nat → List Nat
  | 0, _ => []
  | c + 1, i => if duN N i then i :: dlN N c (i + 1) else dlN N c (i + 1)
theorem dlN_len {N : Nat → Nat} : ∀ c i, (dlN N c i).length = dcN N c i := by
  intro c
  induction c with
  | zero => intro i; rfl
  | succ c ih =>
    intro i
    rw [dlN, dcN]
    by_cases e : duN N i
    · rw [if_pos e, if_pos e, List.length_cons, ih]; omega
    · rw [if_neg e, if_neg e, ih]; omega
theorem dlN_mem {N : Nat → Nat} : ∀ c i x, x ∈ dlN N c i → x < i + c ∧ duN N x := by
  intro c
  induction c with
  | zero => intro i x h; cases h
  | succ c ih =>
    intro i x h
    rw [dlN] at h
    by_cases e : duN N i
    · rw [if_pos e] at h
      rcases List.mem_cons.mp h with rfl | h
      · exact ⟨by omega, e⟩
      · have := ih _ _ h; exact ⟨by omega, this.2⟩
    · rw [if_neg e] at h
      have := ih _ _ h; exact ⟨by omega, this.2⟩
noncomputable def canB (N : Nat → Nat) (s : Nat) : Bool := decide (canCI N s = 1)
theorem canB_t {N : Nat → Nat} {s : Nat} : canB N s = true ↔ canC N s := by
  unfold canB
  rw [decide_eq_true_iff]
  constructor
  · intro h
    rcases Classical.em (canC N s) with e | e
    · exact e
    · rw [canCI_f e] at h; cases h
  · intro h; exact canCI_t h
def upB (b : BG) (k : Nat) (R : Nat → Nat) : BG := if bet b k = true then some (k, R) else b
def ckL (P : Nat → BG → BG) (C : Nat → Bool) : Nat → Nat → BG → BG
  | 0, _, b => b
  | c + 1, i, b => ckL P C c (i + 1) (if C i = true then P i b else b)
def ckQ (P : Nat → BG → BG) (C : Nat → Bool) : List Nat → BG → BG
  | [], b => b
  | i :: l, b => ckQ P C l (if C i = true then P i b else b)
noncomputable def ckP : Nat → Nat → (Nat → Nat) → (Nat → Nat) → BG → BG
  | 0, k, _, R, b => upB b k R
  | m + 1, k, N, R, b => ckL (fun i b => ckP m (k + 1) (callNQ N i (payP N i)) (rgU R k i) b) (canB N) (N 100) 0 (upB b k R)
theorem upB_ne (b : BG) (k : Nat) (R : Nat → Nat) : upB b k R ≠ none := by
  cases b with
  | none => intro h; cases h
  | some b => unfold upB; split <;> exact fun h => by cases h
theorem ckL_ne {P : Nat → BG → BG} {C : Nat → Bool} (h : ∀ i b, b ≠ none → P i b ≠ none) : ∀ c i b, b ≠ none → ckL P C c i b ≠ none := by
  intro c
  induction c with
  | zero => intro i b hb; exact hb
  | succ c ih =>
    intro i b hb
    rw [ckL]
    refine ih _ _ ?_
    split
    · exact h i b hb
    · exact hb
theorem ckP_ne : ∀ m k N R b, ckP m k N R b ≠ none := by
  intro m
  induction m with
  | zero => intro k N R b; rw [ckP]; exact upB_ne _ _ _
  | succ m ih => intro k N R b; rw [ckP]; exact ckL_ne (fun i b _ => ih _ _ _ _) _ _ _ (upB_ne _ _ _)
theorem ckL_Q {N0 N : Nat → Nat} (h : SQ N0 N) {P : Nat → BG → BG} : ∀ c i b, i + c ≤ 10 → ckL P (canB N) c i b = ckQ P (canB N) (dlN N0 c i) b := by
  intro c
  induction c with
  | zero => intro i b _; rfl
  | succ c ih =>
    intro i b hi
    rw [ckL, dlN]
    by_cases e : duN N0 i
    · rw [if_pos e, ckQ]; exact ih _ _ (by omega)
    · rw [if_neg e, if_neg]
      · exact ih _ _ (by omega)
      · intro hc
        have hc := canB_t.mp hc
        apply e
        refine ⟨fun q => hc.1 (h.2.1 i (by omega) q), ?_⟩
        rw [← h.1 (67 + i) (by omega) (by omega), ← h.1 36 (by omega) (by omega)]
        exact hc.2.1
theorem ckQ_stop {P : Nat → BG → BG} {C : Nat → Bool} {b : BG} : ∀ l, (∀ i, i ∈ l → C i = true → P i b = b) → ckQ P C l b = b := by
  intro l
  induction l with
  | nil => intro _; rfl
  | cons i l ih =>
    intro h
    rw [ckQ]
    by_cases e : C i = true
    · rw [if_pos e, h i (List.mem_cons_self ..) e]
      exact ih (fun j hj => h j (List.mem_cons_of_mem _ hj))
    · rw [if_neg e]
      exact ih (fun j hj => h j (List.mem_cons_of_mem _ hj))
theorem ckP_stop : ∀ m k N R v (Q : Nat → Nat), VK N → k + dcN N (N 100) 0 ≤ v → ckP m k N R (some (v, Q)) = some (v, Q) := by
  have ub : ∀ k v (R Q : Nat → Nat), k ≤ v → upB (some (v, Q)) k R = some (v, Q) := fun k v R Q h => by
    unfold upB
    rw [if_neg (fun e => by have := of_decide_eq_true e; omega)]
  intro m
  induction m with
  | zero => intro k N R v Q _ h; rw [ckP]; exact ub _ _ _ _ (by omega)
  | succ m ih =>
    intro k N R v Q hv h
    have h100 := hv.2.2.1
    rw [ckP, ub _ _ _ _ (by omega), ckL_Q (SQ_rf hv) _ _ _ (by omega)]
    refine ckQ_stop _ (fun i hi hc => ?_)
    have hm := dlN_mem _ _ _ hi
    have hd := due_call hv (show i < N 100 by omega) hm.2 (payP N i)
    exact ih _ _ _ _ _ (callN_VK hv (by omega)) (by omega)
