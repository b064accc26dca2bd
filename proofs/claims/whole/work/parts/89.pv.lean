/-! ===== a number's value counts only where a number stands ===== -/
section
variable {o : Bool} {C V W : Nat → Nat}
theorem pv_part (h : ∀ t, C t = 50 → V t = W t) : pPart o C V = pPart o C W := by
  funext inner c t l
  unfold pPart
  by_cases h50 : C t = 50
  · rw [h t h50]
    by_cases h51 : C (t + 1) = 50
    · rw [h _ h51]
    · simp only [h51, false_and, ↓reduceIte]
  · simp only [h50, false_and, ↓reduceIte]
    by_cases h51 : C (t + 1) = 50
    · rw [h _ h51]
    · simp only [h51, false_and, ↓reduceIte]
theorem pv_sum (h : ∀ t, C t = 50 → V t = W t) : ∀ r, pSum o C V r = pSum o C W r
  | 0 => by
    unfold pSum pSum0 pTerm
    rw [pv_part h]
  | r + 1 => by
    unfold pSum pSum0 pTerm
    rw [pv_part h, pv_sum h r]
theorem pv_pos (h : ∀ t, C t = 50 → V t = W t) (r : Nat) : pPos o C V r = pPos o C W r := by
  funext inner c t l
  unfold pPos
  rw [pv_sum h r]
theorem pv_test (h : ∀ t, C t = 50 → V t = W t) : ∀ r, pTest o C V r = pTest o C W r
  | 0 => by
    unfold pTest pTest0 pBoth pPlain
    rw [pv_pos h 0]
  | r + 1 => by
    unfold pTest pTest0 pBoth pPlain
    rw [pv_pos h (r + 1), pv_test h r]
theorem pv_if (h : ∀ t, C t = 50 → V t = W t) : pIf o C V = pIf o C W := by
  funext c t l
  unfold pIf
  rw [pv_test h 8]
theorem pv_law (h : ∀ t, C t = 50 → V t = W t) : pLawC C V = pLawC C W := by
  funext c t l
  unfold pLawC
  rw [pv_if h, pv_sum h 8]
theorem pv_ord (h : ∀ t, C t = 50 → V t = W t) : pOrdC C V = pOrdC C W := by
  have h2 : pTwo C V = pTwo C W := by
    funext w k c t l
    unfold pTwo
    rw [pv_sum h 8]
  have h3 : pOrdH C V = pOrdH C W := by
    funext c t l
    unfold pOrdH
    rw [h2, pv_sum h 8]
  have h4 : pTimes C V = pTimes C W := by
    funext t
    unfold pTimes
    by_cases h51 : C (t + 1) = 50
    · rw [h _ h51]
    · simp only [h51, false_and, ↓reduceIte]
  funext c t l
  unfold pOrdC
  rw [h3, h4, pv_if h]
end
theorem vM_le {T : Nat → Nat} {L : Nat} (hT : ∀ k, T k < 256) : ∀ (m k v : Nat), v ≤ 10000009 → vMl T L m k v ≤ 10000009
  | 0, _, v, h => h
  | m + 1, k, v, h => by
    rw [vMl]
    split
    · rename_i hh
      have := isD_i.mp hh.2
      apply vM_le hT
      split <;> omega
    · exact h
theorem vlT_le {T : Nat → Nat} {L t : Nat} (hT : ∀ k, T k < 256) : vlT T L t ≤ 10000009 := by
  unfold vlT vlB
  split
  · exact vM_le hT _ _ _ (by decide)
  · decide
theorem pl_end {T : Nat → Nat} {L : Nat} : ∀ j, plB T L (nT T L + j) = L
  | 0 => nT_end
  | j + 1 => by
    show nxB T L (plB T L (nT T L + j)) = L
    rw [pl_end j]
    unfold nxB tE
    rw [if_pos (Nat.le_refl _), wh_stop (by omega)]
theorem cdT_end {T : Nat → Nat} {L t : Nat} (h : nT T L ≤ t) : cdT T L t = 0 := by
  have := pl_end (T := T) (L := L) (t - nT T L)
  rw [show nT T L + (t - nT T L) = t by omega] at this
  unfold cdT
  exact cdB_0 (by omega)
/-- the kept TEXT number i is the TEXT that was read -/
theorem cdN_T {N T : Nat → Nat} {A L n : Nat} (hn : n = nT T L) (hc : ∀ t, t < n → N (111 + (A + t)) = cdT T L t) : cdN N A n = cdT T L := by
  funext t
  unfold cdN
  split
  · rename_i h; exact hc t h
  · rw [cdT_end (by omega)]
theorem LT_of {N T : Nat → Nat} {i L : Nat} {cls : List CL} (hL : L ≤ 400) (hn : N (104 + i) = nT T L) (hc : ∀ t, t < nT T L → N (111 + (400 * i + t)) = cdT T L t ∧ N (2911 + (400 * i + t)) = vlT T L t) (hp : pText (cdT T L) (pLawC (cdT T L) (vlT T L)) (nT T L) 12 0 0 0 = .inr cls) : LT N i cls := by
  have hnL := nT_le (T := T) (L := L)
  refine ⟨by omega, ?_⟩
  rw [cdN_T hn (fun t ht => (hc t (by omega)).1), hn, pv_law (V := vlN N (400 * i)) (W := vlT T L) (fun t ht => ?_)]
  · exact hp
  · rcases Nat.lt_or_ge t (nT T L) with h | h
    · exact (hc t h).2
    · rw [cdT_end h] at ht; cases ht
