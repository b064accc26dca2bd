/-! ===== ORDERS: what they tell hangs on their own words alone; a turn of an order ===== -/
def agO (e e' : EnvT) : Prop := ∀ c k, wsg true c ≠ 0 → e (wsg true c) k = e' (wsg true c) k
def ioP {α : Type} (item : Nat → Nat → Nat → PR α) : Prop := ∀ c t l q, item c t l = .inr q → ∀ e e', agO e e' → q.2.2.2 e = q.2.2.2 e'
theorem io_chain {C : Nat → Nat} {sg : Nat → Nat} {item : Nat → Nat → Nat → PR Int} (hi : ioP item) : ∀ (m c t l : Nat) (dn : EnvT → Option Int) (q : _), pChain C sg item m c t l dn = .inr q → ∀ e e', agO e e' → dn e = dn e' → q.2.2.2 e = q.2.2.2 e' := by
  intro m
  induction m with
  | zero => intro c t l dn q h e e' _ he; cases h; exact he
  | succ m ih =>
    intro c t l dn q h e e' ha he
    rw [pChain] at h
    split at h
    · cases h; exact he
    · cases e1 : item c (t + 1) l with
      | inl x => rw [e1] at h; cases h
      | inr q1 =>
        rw [e1] at h
        dsimp only at h
        cases e2 : pChain C sg item m (c + q1.2.2.1.length + 1) q1.1 q1.2.1 (bin (sg (C t)) dn q1.2.2.2) with
        | inl x => rw [e2] at h; cases h
        | inr q2 =>
          rw [e2] at h
          cases h
          refine ih _ _ _ _ _ e2 e e' ha ?_
          unfold bin
          rw [he, hi _ _ _ _ e1 e e' ha]
theorem io_seq {C : Nat → Nat} {sg : Nat → Nat} {item : Nat → Nat → Nat → PR Int} (hi : ioP item) : ioP (pSeq C sg item) := by
  intro c t l q h e e' ha
  unfold pSeq at h
  cases e1 : item c t l with
  | inl x => rw [e1] at h; cases h
  | inr q1 =>
    rw [e1] at h
    dsimp only at h
    cases e2 : pChain C sg item 401 (c + q1.2.2.1.length) q1.1 q1.2.1 q1.2.2.2 with
    | inl x => rw [e2] at h; cases h
    | inr q2 =>
      rw [e2] at h
      cases h
      exact io_chain hi _ _ _ _ _ _ e2 e e' ha (hi _ _ _ _ e1 e e' ha)
theorem io_part {C V : Nat → Nat} {inner : Option (Nat → Nat → Nat → PR Int)} (hi : ∀ sm, inner = some sm → ioP sm) : ioP (pPart true C V inner) := by
  intro c t l q h e e' ha
  unfold pPart at h
  split at h
  · cases inner with
    | none => cases h
    | some sm =>
      dsimp only at h
      cases e1 : sm c (t + 1) l with
      | inl x => rw [e1] at h; cases h
      | inr q1 =>
        rw [e1] at h
        dsimp only at h
        split at h
        · cases h; exact hi sm rfl _ _ _ _ e1 e e' ha
        · cases h
  · split at h
    · cases h
    · split at h
      · split at h
        · cases h; rfl
        · cases h
      · split at h
        · cases h
        · rename_i hw
          split at h
          · cases h
            show some _ = some _
            rw [ha _ _ hw]
          · split at h
            · cases h
              show some _ = some _
              rw [ha _ _ hw]
            · cases h
theorem io_sum {C V : Nat → Nat} : ∀ r, ioP (pSum true C V r)
  | 0 => io_seq (io_seq (io_part (fun sm h => by cases h)))
  | r + 1 => io_seq (io_seq (io_part (fun sm h => by cases h; exact io_sum r)))
theorem io_pos {C V : Nat → Nat} {r : Nat} {inner : Option (Nat → Nat → Nat → PR Bool)} (hi : ∀ sm, inner = some sm → ioP sm) : ioP (pPos true C V r inner) := by
  intro c t l q h e e' ha
  unfold pPos at h
  split at h
  · cases inner with
    | none => cases h
    | some sm =>
      dsimp only at h
      cases e1 : sm c (t + 1) l with
      | inl x => rw [e1] at h; cases h
      | inr q1 =>
        rw [e1] at h
        dsimp only at h
        split at h
        · cases h; exact hi sm rfl _ _ _ _ e1 e e' ha
        · cases h
  · cases e1 : pSum true C V r c t l with
    | inl x => rw [e1] at h; cases h
    | inr q1 =>
      rw [e1] at h
      dsimp only at h
      split at h
      · cases h
      · cases e2 : pSum true C V r (c + q1.2.2.1.length) (q1.1 + 1) q1.2.1 with
        | inl x => rw [e2] at h; cases h
        | inr q2 =>
          rw [e2] at h
          cases h
          show cmpD _ _ _ e = cmpD _ _ _ e'
          unfold cmpD
          rw [io_sum r _ _ _ _ e1 e e' ha, io_sum r _ _ _ _ e2 e e' ha]
theorem io_plain {C V : Nat → Nat} {r : Nat} {inner : Option (Nat → Nat → Nat → PR Bool)} (hi : ∀ sm, inner = some sm → ioP sm) : ioP (pPlain true C V r inner) := by
  intro c t l q h e e' ha
  unfold pPlain at h
  cases e1 : pPos true C V r inner c (pNots C 401 t).1 l with
  | inl x => rw [e1] at h; cases h
  | inr q1 =>
    rw [e1] at h
    cases h
    show negD _ _ e = negD _ _ e'
    unfold negD
    rw [io_pos hi _ _ _ _ e1 e e' ha]
theorem io_log {C : Nat → Nat} {w sg : Nat} {sc : Bool} {item : Nat → Nat → Nat → PR Bool} (hi : ioP item) : ∀ (m c t l : Nat) (dn : EnvT → Option Bool) (q : _), pLog C w sg sc item m c t l dn = .inr q → ∀ e e', agO e e' → dn e = dn e' → q.2.2.2 e = q.2.2.2 e' := by
  intro m
  induction m with
  | zero => intro c t l dn q h e e' _ he; cases h; exact he
  | succ m ih =>
    intro c t l dn q h e e' ha he
    rw [pLog] at h
    split at h
    · cases e1 : item (c + 1) (t + 1) l with
      | inl x => rw [e1] at h; cases h
      | inr q1 =>
        rw [e1] at h
        dsimp only at h
        cases e2 : pLog C w sg sc item m (c + 1 + q1.2.2.1.length) q1.1 q1.2.1 (logD sc dn q1.2.2.2) with
        | inl x => rw [e2] at h; cases h
        | inr q2 =>
          rw [e2] at h
          cases h
          refine ih _ _ _ _ _ e2 e e' ha ?_
          unfold logD
          rw [he, hi _ _ _ _ e1 e e' ha]
    · cases h; exact he
theorem io_join {C : Nat → Nat} {w sg : Nat} {sc : Bool} {item : Nat → Nat → Nat → PR Bool} (hi : ioP item) : ioP (pJoin C w sg sc item) := by
  intro c t l q h e e' ha
  unfold pJoin at h
  cases e1 : item c t l with
  | inl x => rw [e1] at h; cases h
  | inr q1 =>
    rw [e1] at h
    dsimp only at h
    cases e2 : pLog C w sg sc item 401 (c + q1.2.2.1.length) q1.1 q1.2.1 q1.2.2.2 with
    | inl x => rw [e2] at h; cases h
    | inr q2 =>
      rw [e2] at h
      cases h
      exact io_log hi _ _ _ _ _ _ e2 e e' ha (hi _ _ _ _ e1 e e' ha)
theorem io_test {C V : Nat → Nat} : ∀ r, ioP (pTest true C V r)
  | 0 => io_join (io_join (io_plain (fun sm h => by cases h)))
  | r + 1 => io_join (io_join (io_plain (fun sm h => by cases h; exact io_test r)))
theorem io_if {C V : Nat → Nat} : ioP (pIf true C V) := by
  intro c t l q h e e' ha
  unfold pIf at h
  split at h
  · exact io_test 8 _ _ _ _ h e e' ha
  · cases h; rfl
def ioC (q : CL) : Prop := ∀ e e', agO e e' → q.2.2.2.2.1 e = q.2.2.2.2.1 e' ∧ q.2.2.2.2.2.1 e = q.2.2.2.2.2.1 e' ∧ q.2.2.2.2.2.2 e = q.2.2.2.2.2.2 e'
theorem io_two {C V : Nat → Nat} {w k c t l : Nat} {q : OH} (h : pTwo C V w k c t l = .inr q) : ∀ e e', agO e e' → q.2.2.2.2.2.1 e = q.2.2.2.2.2.1 e' ∧ q.2.2.2.2.2.2 e = q.2.2.2.2.2.2 e' := by
  unfold pTwo at h
  cases e1 : pSum true C V 8 c t l with
  | inl x => rw [e1] at h; cases h
  | inr q1 =>
    rw [e1] at h
    dsimp only at h
    split at h
    · cases e2 : pSum true C V 8 (c + q1.2.2.1.length) (q1.1 + 1) q1.2.1 with
      | inl x => rw [e2] at h; cases h
      | inr q2 =>
        rw [e2] at h
        cases h
        exact fun e e' ha => ⟨io_sum 8 _ _ _ _ e1 e e' ha, io_sum 8 _ _ _ _ e2 e e' ha⟩
    · cases h
theorem io_ordH {C V : Nat → Nat} {c t l : Nat} {q : OH} (h : pOrdH C V c t l = .inr q) : ∀ e e', agO e e' → q.2.2.2.2.2.1 e = q.2.2.2.2.2.1 e' ∧ q.2.2.2.2.2.2 e = q.2.2.2.2.2.2 e' := by
  unfold pOrdH at h
  split at h
  · exact io_two h
  · split at h
    · cases e1 : pSum true C V 8 c (t + 1) l with
      | inl x => rw [e1] at h; cases h
      | inr q1 =>
        rw [e1] at h
        cases h
        exact fun e e' ha => ⟨io_sum 8 _ _ _ _ e1 e e' ha, rfl⟩
    · split at h
      · exact io_two h
      · split at h
        · cases h
          exact fun e e' ha => ⟨rfl, rfl⟩
        · cases h
theorem io_ordC {C V : Nat → Nat} (c t l : Nat) (q : CL) (h : pOrdC C V c t l = .inr q) : ioC q := by
  unfold pOrdC at h
  cases e1 : pOrdH C V c t l with
  | inl e => rw [e1] at h; cases h
  | inr h1 =>
    rw [e1] at h
    dsimp only at h
    cases e2 : pTimes C V h1.1 with
    | inl e => rw [e2] at h; cases h
    | inr m =>
      rw [e2] at h
      dsimp only at h
      cases e3 : pIf true C V (c + h1.2.2.2.1.length + h1.2.2.2.2.1.length) m.1 h1.2.1 with
      | inl e => rw [e3] at h; cases h
      | inr r =>
        rw [e3] at h
        cases h
        exact fun e e' ha => ⟨(io_ordH e1 e e' ha).1, (io_ordH e1 e e' ha).2, io_if _ _ _ _ e3 e e' ha⟩
theorem wsg_ocases {c : Nat} (h : wsg true c ≠ 0) : wsg true c = 25 ∨ wsg true c = 23 ∨ wsg true c = 19 ∨ wsg true c = 21 ∨ wsg true c = 22 ∨ wsg true c = 24 := by
  have h2 := wsg_ord h
  rcases (show c = 14 ∨ c = 15 ∨ c = 16 ∨ c = 17 ∨ c = 18 ∨ c = 19 by omega) with rfl | rfl | rfl | rfl | rfl | rfl <;> decide
theorem ag_o {N : Nat → Nat} {s s' : Nat} {to to' dn lt : Int} : agO (xEnv N s to dn lt) (xEnv N s' to' dn lt) := by
  intro c k hc
  rcases wsg_ocases hc with e | e | e | e | e | e <;> rw [e] <;> simp [xEnv]
/-- kept, log, how many orders were done, what the latest call told -/
abbrev WS : Type := (Nat → Nat) × US × Int × Int
def oEnv (W : WS) : EnvT := xEnv W.1 0 0 W.2.2.1 W.2.2.2
/-- a deed was done -/
def oDone (W : WS) (k : Nat) (r : DR) : Option WS := match r with
  | .inl _ => none
  | .inr q => some (q.2, pushU W.2.1 (k, W.1), W.2.2.1 + 1, if k = 1 then (q.1 : Int) else W.2.2.2)
/-- one turn of an order; none: it can't be -/
noncomputable def oTurn (q : CL) (W : WS) : Option WS :=
  if q.2.2.2.2.2.2 (oEnv W) = some true then (match q.2.2.2.2.1 (oEnv W) with
    | none => none
    | some a => match q.2.2.2.2.2.1 (oEnv W) with
      | none => none
      | some b => oDone W (q.2.2.1.getD 0 0) (doD W.1 (q.2.2.1.getD 0 0) (jI a) (jI b)))
  else some W
noncomputable def oTimes (q : CL) : Nat → WS → Option WS
  | 0, W => some W
  | m + 1, W => match oTurn q W with
    | none => none
    | some W' => oTimes q m W'
noncomputable def oRun : Nat → List CL → WS → Nat ⊕ WS
  | _, [], W => .inr W
  | i, q :: qs, W => match oTimes q (q.2.2.1.getD 1 0) W with
    | none => .inl i
    | some W' => oRun (i + 1) qs W'
/-- bounds -/
def WB (W : WS) (b : Int) : Prop := VK W.1 ∧ 0 ≤ W.2.2.1 ∧ W.2.2.1 ≤ b ∧ -1 ≤ W.2.2.2 ∧ W.2.2.2 ≤ 100000
theorem WB_env {W : WS} {b : Int} (h : WB W b) (hb : b ≤ 100000) : envB (oEnv W) := env_B h.1 (by decide) (by decide) ⟨by have := h.2.1; omega, by have := h.2.2.1; omega⟩ ⟨by have := h.2.2.2.1; omega, by have := h.2.2.2.2; omega⟩
theorem oDone_WB {W W' : WS} {b : Int} {k : Nat} {a p : Int32} (h : WB W b) (hd : oDone W k (doD W.1 k a p) = some W') : WB W' (b + 1) ∧ (∀ j, 37 ≤ j → W'.1 j = W.1 j) := by
  unfold oDone at hd
  cases e : doD W.1 k a p with
  | inl x => rw [e] at hd; cases hd
  | inr q =>
    obtain ⟨v, X⟩ := q
    rw [e] at hd
    cases hd
    obtain ⟨w1, w2, w3, -⟩ := doD_inr h.1 e
    obtain ⟨-, h2, h3, h4, h5⟩ := h
    refine ⟨⟨w2, by dsimp only; omega, by dsimp only; omega, ?_, ?_⟩, w3⟩
    · dsimp only; split <;> omega
    · dsimp only; split <;> omega
theorem oTurn_WB {q : CL} {W W' : WS} {b : Int} (h : WB W b) (hd : oTurn q W = some W') : WB W' (b + 1) ∧ (∀ j, 37 ≤ j → W'.1 j = W.1 j) := by
  have hs : WB W (b + 1) := ⟨h.1, h.2.1, by have := h.2.2.1; omega, h.2.2.2⟩
  unfold oTurn at hd
  split at hd
  · split at hd
    · cases hd
    · split at hd
      · cases hd
      · exact oDone_WB h hd
  · cases hd
    exact ⟨hs, fun _ _ => rfl⟩
/-- the same but for the TEXT in the last slot -/
def R6 (N M : Nat → Nat) : Prop := ∀ j, j < 110 ∨ (110 < j ∧ j < 2511) ∨ (2911 ≤ j ∧ j < 5311) → M j = N j
theorem R6.sy {N M : Nat → Nat} (h : R6 N M) : R6 M N := fun j hj => (h j hj).symm
theorem R6_LT {N M : Nat → Nat} (h : R6 N M) {i : Nat} (hi : i < 6) {cls : List CL} (hl : LT N i cls) : LT M i cls := LT_cg hl (h _ (by omega)) (fun t ht => ⟨h _ (by omega), h _ (by omega)⟩)
theorem R6_LM {N M : Nat → Nat} (h : R6 N M) {cls : List CL} (hl : LM N cls) : LM M cls := by
  rcases hl with ⟨a, b⟩ | ⟨i, a, b, c⟩
  · exact Or.inl ⟨by rw [h 103 (by omega)]; exact a, b⟩
  · exact Or.inr ⟨i, by rw [h 103 (by omega)]; exact a, b, R6_LT h b c⟩
theorem R6_cls {N M : Nat → Nat} (h : R6 N M) : clsOf M = clsOf N := by
  rcases Classical.em (∃ cls, LM N cls) with ⟨cls, e⟩ | e
  · rw [clsOf_eq e, clsOf_eq (R6_LM h e)]
  · have e2 : ¬ ∃ cls, LM M cls := fun ⟨cls, hh⟩ => e ⟨cls, R6_LM h.sy hh⟩
    unfold clsOf
    rw [dif_neg e, dif_neg e2]
theorem cls_in (N : Nat → Nat) : ∀ j, j < (clsOf N).length → inC ((clsOf N).getD j dCL) := by
  rcases Classical.em (∃ cls, LM N cls) with ⟨cls, e⟩ | e
  · rw [clsOf_eq e]; exact LM_in e
  · have : clsOf N = [] := by unfold clsOf; rw [dif_neg e]
    rw [this]
    exact fun j hj => absurd hj (Nat.not_lt_zero _)
theorem R6_pay {N M : Nat → Nat} (h : R6 N M) (hv : VK N) {s : Nat} (hs : s < 10) : payP M s = payP N s := by
  have how := VK_ow hv (s := s) hs
  unfold payP payN
  rw [R6_cls h, h (16 + s) (by omega), last_in (e := xEnv N s (-1) 0 0) (e' := xEnv M s (-1) 0 0) (ag_x (h _ (by omega)) (h _ (by omega)) (h _ (by omega)) (h _ (by omega)) (h _ (by omega)) (h _ (by omega)) (h _ (by omega)) (h _ (by omega))) (cls_in N) _ (Nat.le_refl _)]
theorem R6_call {N M : Nat → Nat} (h : R6 N M) (hv : VK N) {s v : Nat} (hs : s < 10) : R6 (callNQ N s v) (callNQ M s v) := by
  have how := VK_ow hv (s := s) hs
  have hho := (hv.2.2.2.2.2.2.2.2.2.2.1 s hs).1
  have e1 : M (37 + s) = N (37 + s) := h _ (by omega)
  have e2 : M (6 + s) = N (6 + s) := h _ (by omega)
  have e3 : M (N (37 + s)) = N (N (37 + s)) := h _ (by omega)
  have e4 : M (N (6 + s)) = N (N (6 + s)) := h _ (by omega)
  intro j hj
  unfold callNQ moveN
  rw [e1, e2, e3]
  unfold upN
  rw [e4, h j hj]
theorem R6_can {N M : Nat → Nat} (h : R6 N M) (hv : VK N) {s : Nat} (hs : s < 10) : canB M s = canB N s := by
  have how := VK_ow hv (s := s) hs
  have : canC M s ↔ canC N s := by
    unfold canC
    rw [R6_pay h hv hs, h (26 + s) (by omega), h (67 + s) (by omega), h 36 (by omega), h (37 + s) (by omega), h (N (37 + s)) (by omega)]
  cases e : canB N s with
  | true => exact canB_t.mpr (this.mpr (canB_t.mp e))
  | false =>
    cases e2 : canB M s with
    | false => rfl
    | true =>
      have := canB_t.mpr (this.mp (canB_t.mp e2))
      rw [e] at this
      cases this
theorem ckL_cg {P Q : Nat → BG → BG} {C D : Nat → Bool} : ∀ c i b, (∀ j, i ≤ j → j < i + c → D j = C j ∧ ∀ b, Q j b = P j b) → ckL Q D c i b = ckL P C c i b := by
  intro c
  induction c with
  | zero => intro i b _; rfl
  | succ c ih =>
    intro i b h
    unfold ckL
    rw [(h i (by omega) (by omega)).1, (h i (by omega) (by omega)).2]
    exact ih _ _ (fun j h1 h2 => h j (by omega) (by omega))
theorem R6_ck : ∀ (m k : Nat) (N M : Nat → Nat) (R : Nat → Nat) (b : BG), R6 N M → VK N → ckP m k M R b = ckP m k N R b := by
  intro m
  induction m with
  | zero => intro k N M R b _ _; rfl
  | succ m ih =>
    intro k N M R b h hv
    have h100 := hv.2.2.1
    unfold ckP
    rw [h 100 (by omega)]
    refine ckL_cg _ _ _ (fun j h1 h2 => ⟨R6_can h hv (by omega), fun b => ?_⟩)
    rw [R6_pay h hv (by omega)]
    exact ih _ _ _ _ _ (R6_call h hv (by omega)) (callN_VK hv (by omega))
theorem R6_dc {N M : Nat → Nat} (h : R6 N M) : ∀ c i, c + i ≤ 10 → dcN M c i = dcN N c i := by
  intro c
  induction c with
  | zero => intro i _; rfl
  | succ c ih =>
    intro i hi
    unfold dcN
    rw [ih (i + 1) (by omega)]
    unfold duN
    rw [h (26 + i) (by omega), h (67 + i) (by omega), h 36 (by omega)]
theorem R6_CR {N M : Nat → Nat} (h : R6 N M) (hv : VK N) {f f' : Nat → Nat → Int32} (hc : CR N f) (hq : CQ f f') : CR M f' := by
  have h100 := hv.2.2.1
  unfold CR at *
  rw [hq.1, hq.2.1, hq.2.2]
  rcases hc with e | ⟨e1, e2⟩
  · exact Or.inl e
  · refine Or.inr ⟨e1, ?_⟩
    unfold CRv at *
    rw [h 100 (by omega), R6_dc h _ _ (by omega), R6_ck _ _ _ _ _ _ h hv]
    exact e2
/-- ORDERS lie in the last slot -/
def layO (N T : Nat → Nat) (L : Nat) : Nat → Nat := layN N 6 (nT T L) (nT T L) (cdT T L) (vlT T L)
theorem layO_R6 {N T : Nat → Nat} {L : Nat} (hL : L ≤ 400) : R6 N (layO N T L) := by
  have hnL := nT_le (T := T) (L := L)
  intro j hj
  unfold layO layN
  rw [if_neg (by omega), if_neg (by omega), if_neg (by omega)]
theorem layO_B {N T : Nat → Nat} {L : Nat} (hv : VK N) (hL : L ≤ 400) (hT : ∀ k, T k < 256) (j : Nat) : layO N T L j < 2147483648 := by
  have hnL := nT_le (T := T) (L := L)
  unfold layO layN
  split
  · omega
  · split
    · have := cdT_lt (T := T) (L := L) (t := j - (111 + 400 * 6)) hT; omega
    · split
      · have := vlT_le (T := T) (L := L) (t := j - (2911 + 400 * 6)) hT; omega
      · exact hv.1 j
theorem R6_VK {N M : Nat → Nat} (h : R6 N M) (hv : VK N) (hB : ∀ j, M j < 2147483648) : VK M := by
  obtain ⟨v0, v1, v2, v3, v4, v5, v6, v7, v8, v9, v10, v11, v12⟩ := hv
  refine ⟨hB, ?_, ?_, ?_, ?_, ?_, ?_, ?_, ?_, fun j hj => ?_, fun j hj => ?_, fun j hj => ?_, fun j hj => ?_⟩
  · rw [h 99 (by omega)]; exact v1
  · rw [h 100 (by omega)]; exact v2
  · rw [h 101 (by omega)]; exact v3
  · rw [h 102 (by omega)]; exact v4
  · rw [h 102 (by omega), h 103 (by omega)]; exact v5
  · rw [h 36 (by omega)]; exact v6
  · rw [h 97 (by omega)]; exact v7
  · rw [h 98 (by omega)]; exact v8
  · rw [h j (by omega)]; exact v9 j hj
  · rw [h _ (by omega), h _ (by omega), h _ (by omega), h _ (by omega), h _ (by omega), h _ (by omega), h _ (by omega), h _ (by omega), h _ (by omega)]; exact v10 j hj
  · rw [h 100 (by omega)] at hj
    rw [h (6 + j) (by omega), h (37 + j) (by omega), h (16 + j) (by omega), h 99 (by omega)]; exact v11 j hj
  · rw [h 101 (by omega)] at hj
    rw [h _ (by omega)]; exact v12 j hj
theorem R6_mrg {X N M : Nat → Nat} (h : R6 N M) : R6 (mrg X N) (mrg X M) := by
  intro j hj
  unfold mrg
  split
  · rfl
  · exact h j hj
