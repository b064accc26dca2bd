/-! ===== bytes and TOKENS ===== -/
def whl (P : Nat → Bool) (T : Nat → Nat) (L : Nat) : Nat → Nat → Nat
  | 0, k => k
  | m + 1, k => if k < L ∧ P (T k) = true then whl P T L m (k + 1) else k
def wh (P : Nat → Bool) (T : Nat → Nat) (L k : Nat) : Nat := whl P T L (L - k) k
theorem wh_go {P : Nat → Bool} {T : Nat → Nat} {L k : Nat} (h : k < L) (hp : P (T k) = true) : wh P T L k = wh P T L (k + 1) := by
  unfold wh
  rw [show L - k = (L - (k + 1)) + 1 by omega, whl, if_pos ⟨h, hp⟩]
theorem wh_stop {P : Nat → Bool} {T : Nat → Nat} {L k : Nat} (h : ¬ (k < L ∧ P (T k) = true)) : wh P T L k = k := by
  unfold wh
  cases L - k with
  | zero => rfl
  | succ m => rw [whl, if_neg h]
theorem whl_ge {P : Nat → Bool} {T : Nat → Nat} {L : Nat} : ∀ (m k : Nat), k ≤ whl P T L m k ∧ (k ≤ L → whl P T L m k ≤ L)
  | 0, k => ⟨Nat.le_refl _, fun h => h⟩
  | m + 1, k => by
    rw [whl]
    split
    · have := whl_ge (P := P) (T := T) (L := L) m (k + 1)
      exact ⟨by omega, fun h => this.2 (by omega)⟩
    · exact ⟨Nat.le_refl _, fun h => h⟩
theorem wh_ge {P : Nat → Bool} {T : Nat → Nat} {L k : Nat} : k ≤ wh P T L k := (whl_ge _ _).1
theorem wh_le {P : Nat → Bool} {T : Nat → Nat} {L k : Nat} (h : k ≤ L) : wh P T L k ≤ L := (whl_ge _ _).2 h
theorem whl_end {P : Nat → Bool} {T : Nat → Nat} {L : Nat} : ∀ (m k : Nat), L ≤ k + m → ¬ (whl P T L m k < L ∧ P (T (whl P T L m k)) = true)
  | 0, k, h => by
    intro h1
    have : k < L := h1.1
    omega
  | m + 1, k, h => by
    rw [whl]
    split
    · exact whl_end m (k + 1) (by omega)
    · assumption
theorem wh_end {P : Nat → Bool} {T : Nat → Nat} {L k : Nat} : ¬ (wh P T L k < L ∧ P (T (wh P T L k)) = true) := whl_end _ _ (by omega)
theorem whl_all {P : Nat → Bool} {T : Nat → Nat} {L : Nat} : ∀ (m k i : Nat), k ≤ i → i < whl P T L m k → P (T i) = true
  | 0, k, i, h1, h2 => by
    have : i < k := h2
    omega
  | m + 1, k, i, h1, h2 => by
    rw [whl] at h2
    split at h2
    · rename_i hh
      rcases Nat.lt_or_ge k i with h3 | h3
      · exact whl_all m (k + 1) i h3 h2
      · have : i = k := by omega
        subst this; exact hh.2
    · omega
theorem wh_all {P : Nat → Bool} {T : Nat → Nat} {L k i : Nat} (h1 : k ≤ i) (h2 : i < wh P T L k) : P (T i) = true := whl_all _ _ _ h1 h2
def isB (c : Nat) : Bool := c == 32
def isS (c : Nat) : Bool := Nat.ble 97 c && Nat.ble c 122
def isD (c : Nat) : Bool := Nat.ble 48 c && Nat.ble c 57
theorem isB_i {c : Nat} : isB c = true ↔ c = 32 := by unfold isB; simp
theorem isS_i {c : Nat} : isS c = true ↔ 97 ≤ c ∧ c ≤ 122 := by unfold isS; simp
theorem isD_i {c : Nat} : isD c = true ↔ 48 ≤ c ∧ c ≤ 57 := by unfold isD; simp
/-- the words, in the order of their numbers -/
def WL : List (List Nat) := [[112, 97, 121, 115], [119, 101, 97, 114, 115], [98, 97, 114, 115], [105, 102], [111, 114], [97, 110, 100], [110, 111, 116], [111, 119, 101, 115], [104, 111, 108, 100, 115], [107, 105, 110, 100], [108, 97, 116, 101], [116, 111], [109, 111, 111, 100], [115, 117, 109], [112, 117, 114, 115, 101], [100, 97, 121], [100, 111, 110, 101], [108, 97, 116, 101, 115, 116], [104, 111, 108, 100, 101, 114], [103, 105, 118, 101], [99, 97, 108, 108], [115, 104, 97, 118, 101], [98, 121], [112, 97, 115, 115], [116, 105, 109, 101, 115]]
/-- the numbers of the program's texts -/
def txC : List Nat := [1, 8, 9, 14, 10, 11, 15, 12, 16, 13, 17, 18, 19, 2, 3, 20, 21, 22, 23, 24, 25, 4, 7, 6, 5]
def mW (T : Nat → Nat) (p e : Nat) (w : List Nat) : Bool := (e - p == w.length) && (List.range w.length).all (fun i => T (p + i) == w.getD i 0)
theorem mW_i {T : Nat → Nat} {p e : Nat} {w : List Nat} : mW T p e w = true ↔ e - p = w.length ∧ ∀ i, i < w.length → T (p + i) = w.getD i 0 := by
  unfold mW
  simp only [Bool.and_eq_true, beq_iff_eq, List.all_eq_true, List.mem_range]
theorem mW_eq {T : Nat → Nat} {p e : Nat} {w v : List Nat} (h1 : mW T p e w = true) (h2 : mW T p e v = true) : w = v := by
  rw [mW_i] at h1 h2
  apply List.ext_getElem (by omega)
  intro i a b
  have k1 := h1.2 i a
  have k2 := h2.2 i b
  rw [List.getD_eq_getElem?_getD, List.getElem?_eq_getElem a] at k1
  rw [List.getD_eq_getElem?_getD, List.getElem?_eq_getElem b] at k2
  exact k1.symm.trans k2
def wcL (T : Nat → Nat) (p e : Nat) : List (List Nat) → Nat → Nat
  | [], _ => 0
  | w :: ws, i => bif mW T p e w then i else wcL T p e ws (i + 1)
def psL (v : List Nat) : List (List Nat) → Nat → Nat
  | [], _ => 0
  | w :: ws, i => bif w == v then i else psL v ws (i + 1)
theorem wcL_eq {T : Nat → Nat} {p e : Nat} {v : List Nat} (h : mW T p e v = true) : ∀ (ws : List (List Nat)) (i : Nat), wcL T p e ws i = psL v ws i
  | [], _ => rfl
  | w :: ws, i => by
    rw [wcL, psL, wcL_eq h ws]
    cases hw : mW T p e w with
    | true =>
      rw [mW_eq hw h, beq_self_eq_true]
    | false =>
      have : (w == v) = false := by
        cases hb : w == v with
        | false => rfl
        | true =>
          have := eq_of_beq hb
          subst this
          rw [h] at hw; cases hw
      rw [this]
theorem wcL_mem {T : Nat → Nat} {p e : Nat} : ∀ (ws : List (List Nat)) (i : Nat), 1 ≤ i → wcL T p e ws i ≠ 0 → ∃ v, mW T p e v = true ∧ wcL T p e ws i = psL v ws i ∧ v ∈ ws
  | [], _, _, h => absurd rfl h
  | w :: ws, i, hi, h => by
    rw [wcL] at h ⊢
    cases hw : mW T p e w with
    | true =>
      refine ⟨w, hw, ?_, List.mem_cons_self⟩
      rw [psL, beq_self_eq_true]; rfl
    | false =>
      rw [hw] at h
      obtain ⟨v, h1, h2, h3⟩ := wcL_mem ws (i + 1) (by omega) h
      refine ⟨v, h1, ?_, List.mem_cons_of_mem _ h3⟩
      have : (w == v) = false := by
        cases hb : w == v with
        | false => rfl
        | true =>
          have := eq_of_beq hb
          subst this
          rw [h1] at hw; cases hw
      rw [psL, this]
      exact h2
/-- a text of the program stands at p .. e just if the word there has its number -/
theorem word_iff {T : Nat → Nat} {p e k : Nat} (hk : k < 25) : mW T p e (WL.getD (txC.getD k 0 - 1) []) = true ↔ wcL T p e WL 1 = txC.getD k 0 := by
  have key : ∀ k, k < 25 → psL (WL.getD (txC.getD k 0 - 1) []) WL 1 = txC.getD k 0 ∧ txC.getD k 0 ≠ 0 := by decide
  have uniq : ∀ v, v ∈ WL → ∀ k, k < 25 → psL v WL 1 = txC.getD k 0 → v = WL.getD (txC.getD k 0 - 1) [] := by decide
  constructor
  · intro h
    rw [wcL_eq h]
    exact (key k hk).1
  · intro h
    obtain ⟨v, h1, h2, h3⟩ := wcL_mem WL 1 (Nat.le_refl _) (by rw [h]; exact (key k hk).2)
    rw [h2] at h
    rw [← uniq v h3 k hk h]
    exact h1
section
variable (T : Nat → Nat) (L : Nat)
def tE (p : Nat) : Nat := if L ≤ p then p else if isS (T p) = true then wh isS T L p else if isD (T p) = true then wh isD T L p else p + 1
def shp (p : Nat) : Nat := if L ≤ p then 0 else if isS (T p) = true then 1 else if isD (T p) = true then 2 else 3
def vXl : Nat → Nat → Nat → Nat
  | 0, _, v => v
  | m + 1, k, v => if k < L ∧ isD (T k) = true then vXl m (k + 1) (min 1001 (v * 10 + T k - 48)) else v
def vMl : Nat → Nat → Nat → Nat
  | 0, _, v => v
  | m + 1, k, v => if k < L ∧ isD (T k) = true then vMl m (k + 1) (if 1000000 < v then v else 10 * v + T k - 48) else v
def cdB (p : Nat) : Nat := if L ≤ p then 0 else if isS (T p) = true then wcL T p (tE T L p) WL 1 else if isD (T p) = true then 50 else 100 + T p
def vlB (p : Nat) : Nat := if shp T L p = 2 then vMl T L (L - p) p 0 else 0
def nxB (p : Nat) : Nat := wh isB T L (tE T L p)
def plB : Nat → Nat
  | 0 => wh isB T L 0
  | t + 1 => nxB T L (plB t)
end
theorem vX_vM {T : Nat → Nat} {L : Nat} : ∀ (m k v : Nat), vXl T L m k (min 1001 v) = min 1001 (vMl T L m k v)
  | 0, k, v => rfl
  | m + 1, k, v => by
    rw [vXl, vMl]
    split
    · rename_i h
      have h48 := (isD_i.mp h.2).1
      rw [← vX_vM m (k + 1)]
      congr 1
      split <;> omega
    · rfl
section
variable {T : Nat → Nat} {L : Nat}
theorem tE_ge {p : Nat} : p ≤ tE T L p := by
  unfold tE
  repeat' split
  all_goals first | exact wh_ge | omega
theorem tE_gt {p : Nat} (h : p < L) : p < tE T L p := by
  unfold tE
  rw [if_neg (by omega)]
  split
  · rename_i h1
    rw [wh_go h h1]
    have := wh_ge (P := isS) (T := T) (L := L) (k := p + 1)
    omega
  · split
    · rename_i h1
      rw [wh_go h h1]
      have := wh_ge (P := isD) (T := T) (L := L) (k := p + 1)
      omega
    · omega
theorem tE_le {p : Nat} (h : p ≤ L) : tE T L p ≤ L := by
  unfold tE
  split
  · exact h
  · repeat' split
    all_goals first | exact wh_le h | omega
theorem nx_le {p : Nat} (h : p ≤ L) : nxB T L p ≤ L := wh_le (tE_le h)
theorem nx_gt {p : Nat} (h : p < L) : p < nxB T L p := Nat.lt_of_lt_of_le (tE_gt h) wh_ge
theorem pl_le : ∀ t, plB T L t ≤ L
  | 0 => wh_le (Nat.zero_le _)
  | t + 1 => nx_le (pl_le t)
theorem pl_ge : ∀ t, plB T L t < L → t ≤ plB T L t
  | 0, _ => Nat.zero_le _
  | t + 1, h => by
    rcases Nat.lt_or_ge (plB T L t) L with h1 | h1
    · have := pl_ge t h1
      have := nx_gt (T := T) h1
      show t + 1 ≤ nxB T L (plB T L t)
      omega
    · exfalso
      have h2 : plB T L t = L := by have := pl_le (T := T) (L := L) t; omega
      have h3 : plB T L (t + 1) = L := by
        show nxB T L (plB T L t) = L
        rw [h2]
        unfold nxB tE
        rw [if_pos (Nat.le_refl _), wh_stop (by omega)]
      omega
theorem pl_nb (t : Nat) (h : plB T L t < L) : T (plB T L t) ≠ 32 := by
  intro e
  cases t with
  | zero => exact wh_end (P := isB) (T := T) (L := L) (k := 0) ⟨h, isB_i.mpr e⟩
  | succ t => exact wh_end (P := isB) (T := T) (L := L) (k := tE T L (plB T L t)) ⟨h, isB_i.mpr e⟩
end
/-- a TOKEN's number, its value, by its place in the row -/
def cdT (T : Nat → Nat) (L t : Nat) : Nat := cdB T L (plB T L t)
def vlT (T : Nat → Nat) (L t : Nat) : Nat := vlB T L (plB T L t)
