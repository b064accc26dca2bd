/-! ===== specs: the cells and what they hold (tables printed by wip/whole/mkbase.py) ===== -/
/-- cells 0..85: (0, class, fields), (1, tag, length): ints, (2, 3, length): longs, (3, tag, length): references -/
def shL : List (Nat × Nat × Nat) := [(0, 8, 20), (0, 1, 17), (1, 0, 6), (1, 0, 10), (1, 0, 10), (1, 0, 10), (1, 0, 10), (1, 0, 10), (1, 0, 10), (1, 0, 10), (1, 0, 10), (1, 0, 10), (1, 0, 3), (3, 4, 6), (0, 1, 17), (1, 0, 6), (1, 0, 10), (1, 0, 10), (1, 0, 10), (1, 0, 10), (1, 0, 10), (1, 0, 10), (1, 0, 10), (1, 0, 10), (1, 0, 10), (1, 0, 3), (3, 4, 6), (3, 5, 2), (0, 3, 3), (1, 0, 119), (0, 3, 3), (1, 0, 119), (1, 0, 400), (0, 6, 10), (0, 5, 4), (1, 0, 72), (1, 0, 400), (1, 0, 0), (0, 7, 6), (1, 0, 64), (0, 4, 5), (1, 0, 10), (1, 0, 10), (1, 0, 10), (1, 0, 45), (0, 2, 6), (1, 0, 6), (1, 0, 6), (1, 0, 6), (1, 0, 6), (1, 0, 6), (0, 0, 7), (1, 0, 7), (1, 0, 7), (1, 0, 7), (1, 0, 10), (1, 0, 10), (1, 0, 5), (0, 9, 56), (1, 0, 7), (1, 0, 5711), (1, 0, 11422), (1, 2, 2), (1, 0, 333), (1, 1, 122), (1, 1, 400), (1, 0, 5), (1, 0, 401), (1, 0, 401), (1, 0, 401), (1, 0, 9), (1, 0, 608), (1, 0, 608), (1, 2, 100), (1, 1, 11264), (1, 0, 6), (1, 0, 6), (1, 0, 6), (1, 0, 6), (1, 0, 6), (1, 0, 7), (1, 0, 7), (2, 3, 2), (1, 0, 6), (1, 0, 10), (1, 0, 10)]
/-- fixed references: cell, place, target -/
def rfL : List (Nat × Nat × Nat) := [(0, 0, 1), (0, 1, 14), (0, 2, 27), (0, 4, 28), (0, 5, 30), (0, 6, 32), (0, 8, 33), (0, 9, 38), (0, 10, 40), (0, 11, 45), (0, 12, 51), (0, 19, 57), (1, 1, 2), (1, 3, 3), (1, 4, 4), (1, 5, 5), (1, 6, 6), (1, 7, 7), (1, 8, 8), (1, 9, 9), (1, 11, 10), (1, 12, 11), (1, 13, 12), (1, 15, 13), (14, 1, 15), (14, 3, 16), (14, 4, 17), (14, 5, 18), (14, 6, 19), (14, 7, 20), (14, 8, 21), (14, 9, 22), (14, 11, 23), (14, 12, 24), (14, 13, 25), (14, 15, 26), (28, 0, 29), (30, 0, 31), (33, 0, 34), (34, 2, 35), (34, 3, 36), (38, 0, 39), (40, 0, 41), (40, 1, 42), (40, 2, 43), (40, 3, 44), (45, 0, 46), (45, 1, 47), (45, 2, 48), (45, 3, 49), (45, 4, 50), (51, 0, 52), (51, 1, 53), (51, 2, 54), (51, 3, 55), (51, 4, 56), (58, 1, 59), (58, 2, 60), (58, 3, 61), (58, 4, 62), (58, 5, 63), (58, 7, 64), (58, 11, 65), (58, 12, 66), (58, 15, 67), (58, 16, 68), (58, 17, 69), (58, 26, 70), (58, 29, 71), (58, 30, 72), (58, 32, 73), (58, 33, 74), (58, 34, 75), (58, 35, 76), (58, 36, 77), (58, 37, 78), (58, 39, 79), (58, 40, 80), (58, 41, 81), (58, 49, 82), (58, 50, 83), (58, 51, 84), (58, 52, 85)]
/-- a field's kind: 0 int, 1 boolean, 2 reference, 3 reference or null -/
def fkL : List (List Nat) := [[2, 2, 2, 2, 2, 0, 0], [0, 2, 0, 2, 2, 2, 2, 2, 2, 2, 0, 2, 2, 2, 0, 2, 0], [2, 2, 2, 2, 2, 0], [2, 0, 0], [2, 2, 2, 2, 0], [0, 0, 2, 2], [2, 2, 0, 1, 0, 0, 0, 0, 0, 0], [2, 3, 0, 0, 0, 0], [2, 2, 2, 3, 2, 2, 2, 0, 2, 2, 2, 2, 2, 1, 0, 0, 0, 0, 0, 2], [0, 2, 2, 2, 2, 2, 0, 2, 0, 0, 1, 2, 2, 0, 0, 2, 2, 2, 0, 0, 0, 0, 0, 0, 1, 1, 2, 0, 0, 2, 2, 0, 2, 2, 2, 2, 2, 2, 0, 2, 2, 2, 0, 0, 0, 0, 0, 1, 1, 2, 2, 2, 2, 0, 0, 0]]
/-- the value at place k of cell a -/
def vv (σ : Mem) (a k : Nat) : Value := match σ.2.2 a with
  | .inr o => o.2.getD k .null
  | .inl (_, _, .inl f) => .int (f k)
  | .inl (_, _, .inr (.inl f)) => .long (f k)
  | .inl (_, _, .inr (.inr (.inr (.inr f)))) => va_rf (f k)
  | _ => .null
/-- the int there -/
def Iv (σ : Mem) (a k : Nat) : Int32 := match vv σ a k with
  | .int v => v
  | _ => 0
def shp (σ : Mem) (a : Nat) : Nat × Nat × Nat := match σ.2.2 a with
  | .inr o => (0, o.1, o.2.length)
  | .inl (t, n, .inl _) => (1, t, n)
  | .inl (t, n, .inr (.inl _)) => (2, t, n)
  | .inl (t, n, .inr (.inr (.inr (.inr _)))) => (3, t, n)
  | .inl (t, n, _) => (4, t, n)
def wrI (σ : Mem) (a k : Nat) (v : Int32) : Mem := match σ.2.2 a with
  | .inr o => setC σ a (.inr (o.1, o.2.set k (.int v)))
  | .inl (t, n, .inl f) => setC σ a (.inl (t, n, .inl (upd f k v)))
  | _ => σ
def wrR (σ : Mem) (a k : Nat) (q : Nat) : Mem := match σ.2.2 a with
  | .inr o => setC σ a (.inr (o.1, o.2.set k (.ref q)))
  | _ => σ
theorem setC_at (σ : Mem) (a : Nat) (c : MC) (b : Nat) : (setC σ a c).2.2 b = if b = a then c else σ.2.2 b := rfl
/-- int places that can be written -/
def okI (σ : Mem) (a k : Nat) : Prop := ((shp σ a).1 = 0 ∧ k < (shp σ a).2.2) ∨ (shp σ a).1 = 1
theorem shp_setC (σ : Mem) (a : Nat) (c : MC) (h : ∀ τ : Mem, τ.2.2 a = c → shp τ a = shp σ a) (b : Nat) : shp (setC σ a c) b = shp σ b := by
  by_cases e : b = a
  · subst e
    exact h _ (by rw [setC_at, if_pos rfl])
  · unfold shp
    rw [setC_at, if_neg e]
theorem shp_wrI (σ : Mem) (a k : Nat) (v : Int32) (b : Nat) : shp (wrI σ a k v) b = shp σ b := by
  unfold wrI
  split
  · rename_i o ho
    exact shp_setC σ a _ (fun τ h => by unfold shp; rw [h, ho]; simp) b
  · rename_i t n f ho
    exact shp_setC σ a _ (fun τ h => by unfold shp; rw [h, ho]) b
  · rfl
theorem shp_wrR (σ : Mem) (a k q : Nat) (b : Nat) : shp (wrR σ a k q) b = shp σ b := by
  unfold wrR
  split
  · rename_i o ho
    exact shp_setC σ a _ (fun τ h => by unfold shp; rw [h, ho]; simp) b
  · rfl
theorem vv_setC_ne (σ : Mem) (a : Nat) (c : MC) {b : Nat} (h : b ≠ a) (j : Nat) : vv (setC σ a c) b j = vv σ b j := by
  unfold vv
  rw [setC_at, if_neg h]
theorem vv_wrI {σ : Mem} {a k : Nat} (h : okI σ a k) (v : Int32) (b j : Nat) : vv (wrI σ a k v) b j = if b = a ∧ j = k then .int v else vv σ b j := by
  by_cases e : b = a
  · subst e
    unfold wrI
    split
    · rename_i o ho
      have hk : k < o.2.length := by
        unfold okI shp at h
        rw [ho] at h
        simpa using h
      unfold vv
      rw [setC_at, if_pos rfl, ho]
      dsimp only
      rw [List.getD_eq_getElem?_getD, List.getElem?_set, List.getD_eq_getElem?_getD]
      by_cases e2 : j = k
      · subst e2; simp [hk]
      · have e3 : ¬ k = j := fun q => e2 q.symm
        simp [e2, e3]
    · rename_i t n f ho
      unfold vv
      rw [setC_at, if_pos rfl, ho]
      dsimp only [upd]
      by_cases e2 : j = k
      · simp [e2]
      · simp [e2]
    · rename_i h1 h2
      exfalso
      unfold okI shp at h
      split at h
      · rename_i o ho; exact h1 o ho
      · rename_i t n f ho; exact h2 t n f ho
      · simp at h
      · simp at h
      · simp at h
  · have e2 : ¬ (b = a ∧ j = k) := fun q => e q.1
    rw [if_neg e2]
    unfold wrI
    split
    · exact vv_setC_ne σ a _ e j
    · exact vv_setC_ne σ a _ e j
    · rfl
theorem Iv_wrI {σ : Mem} {a k : Nat} (h : okI σ a k) (v : Int32) (b j : Nat) : Iv (wrI σ a k v) b j = if b = a ∧ j = k then v else Iv σ b j := by
  unfold Iv
  rw [vv_wrI h]
  by_cases e : b = a ∧ j = k
  · rw [if_pos e, if_pos e]
  · rw [if_neg e, if_neg e]
theorem sz_wrI (σ : Mem) (a k : Nat) (v : Int32) : (wrI σ a k v).1 = σ.1 ∧ (wrI σ a k v).2.1 = σ.2.1 := by
  unfold wrI
  split <;> exact ⟨rfl, rfl⟩
theorem obj_of {σ : Mem} {ci a n : Nat} (hs : shp σ a = (0, ci, n)) : ∃ fs, σ.2.2 a = .inr (ci, fs) ∧ fs.length = n := by
  unfold shp at hs
  split at hs
  · rename_i o ho
    obtain ⟨c, fs⟩ := o
    simp only [Prod.mk.injEq, true_and] at hs
    obtain ⟨rfl, rfl⟩ := hs
    exact ⟨fs, ho, rfl⟩
  · simp at hs
  · simp at hs
  · simp at hs
  · simp at hs
theorem arr_of {σ : Mem} {t a n : Nat} (hs : shp σ a = (1, t, n)) : ∃ f, σ.2.2 a = .inl (t, n, .inl f) := by
  unfold shp at hs
  split at hs
  · simp at hs
  · rename_i t' n' f ho
    simp only [Prod.mk.injEq, true_and] at hs
    obtain ⟨rfl, rfl⟩ := hs
    exact ⟨f, ho⟩
  · simp at hs
  · simp at hs
  · simp at hs
theorem gV_of {σ : Mem} {ci a k n : Nat} (hs : shp σ a = (0, ci, n)) (hk : k < n) : gV σ ci a k = some (vv σ a k) := by
  obtain ⟨fs, h1, h2⟩ := obj_of hs
  unfold gV vv
  rw [h1]
  have hk' : k < fs.length := by omega
  simp [List.getElem?_eq_getElem hk']
theorem gI_of {σ : Mem} {ci a k n : Nat} {v : Int32} (hs : shp σ a = (0, ci, n)) (hk : k < n) (hv : vv σ a k = .int v) : gI σ ci a k = some v := by
  unfold gI
  rw [gV_of hs hk, hv]
theorem gR_of {σ : Mem} {ci a k n t : Nat} (hs : shp σ a = (0, ci, n)) (hk : k < n) (hv : vv σ a k = .ref t) : gR σ ci a k = some t := by
  unfold gR
  rw [gV_of hs hk, hv]
theorem pF_of {σ : Mem} {ci a k n : Nat} (v : Int32) (hs : shp σ a = (0, ci, n)) (hk : k < n) : pF σ ci a k (.int v) = some (wrI σ a k v) := by
  obtain ⟨fs, h1, h2⟩ := obj_of hs
  unfold pF wrI
  rw [h1]
  have hk' : Nat.blt k fs.length = true := by rw [Nat.blt_eq]; omega
  simp [hk']
theorem pFR_of {σ : Mem} {ci a k n : Nat} (t : Nat) (hs : shp σ a = (0, ci, n)) (hk : k < n) : pF σ ci a k (.ref t) = some (wrR σ a k t) := by
  obtain ⟨fs, h1, h2⟩ := obj_of hs
  unfold pF wrR
  rw [h1]
  have hk' : Nat.blt k fs.length = true := by rw [Nat.blt_eq]; omega
  simp [hk']
theorem lI_of {σ : Mem} {a n : Nat} {i : Int32} (hs : shp σ a = (1, 0, n)) (hi : inb i n = true) : lI σ a i = some (Iv σ a i.toNatClampNeg) := by
  obtain ⟨f, h1⟩ := arr_of hs
  unfold lI Iv vv
  rw [h1]
  simp [hi]
theorem sI_of {σ : Mem} {a n : Nat} {i : Int32} (x : Int32) (hs : shp σ a = (1, 0, n)) (hi : inb i n = true) : sI σ a i x = some (wrI σ a i.toNatClampNeg x) := by
  obtain ⟨f, h1⟩ := arr_of hs
  unfold sI wrI
  rw [h1]
  simp [hi]
theorem lB_of {σ : Mem} {a n t : Nat} {i : Int32} (hs : shp σ a = (1, t, n)) (ht : (t == 1 || t == 2) = true) (hi : inb i n = true) : lB σ a i = some (Iv σ a i.toNatClampNeg) := by
  obtain ⟨f, h1⟩ := arr_of hs
  unfold lB Iv vv
  rw [h1]
  simp [hi, ht]
theorem sB_of {σ : Mem} {a n t : Nat} {i : Int32} (x : Int32) (hs : shp σ a = (1, t, n)) (ht : (t == 1 || t == 2) = true) (hi : inb i n = true) : sB σ a i x = some (wrI σ a i.toNatClampNeg (bif t == 1 then vp_nar .byte x else vp_nar .boolean x)) := by
  obtain ⟨f, h1⟩ := arr_of hs
  unfold sB wrI
  rw [h1]
  simp [hi, ht]
theorem isC_of {σ : Mem} {ci a n : Nat} (hs : shp σ a = (0, ci, n)) : isC σ ci a = true := by
  obtain ⟨fs, h1, -⟩ := obj_of hs
  unfold isC
  rw [h1]
  simp
theorem aln_of {σ : Mem} {a n t : Nat} (hs : shp σ a = (1, t, n)) (ht : Nat.blt t 7 = true) : aln σ a = some (Int32.ofNat n) := by
  obtain ⟨f, h1⟩ := arr_of hs
  unfold aln
  rw [h1]
  simp [ht]
theorem vv_arr {σ : Mem} {a n t k : Nat} (hs : shp σ a = (1, t, n)) : vv σ a k = .int (Iv σ a k) := by
  obtain ⟨f, h1⟩ := arr_of hs
  unfold Iv vv
  rw [h1]
/-- an int place of a fixed cell -/
def intF (a k : Nat) : Bool := Nat.blt a 86 && (match shL.getD a (9, 9, 9) with
  | (0, ci, n) => Nat.blt k n && Nat.blt ((fkL.getD ci []).getD k 9) 2
  | (1, _, _) => true
  | _ => false)
/-- the fixed cells are there, of their shapes; ints where ints belong; the fixed references -/
def Sh (σ : Mem) : Prop := (∀ a, a < 86 → shp σ a = shL.getD a (9, 9, 9)) ∧ (∀ a k, intF a k = true → vv σ a k = .int (Iv σ a k)) ∧ (∀ q ∈ rfL, vv σ q.1 q.2.1 = .ref q.2.2)
theorem rfL_int : ∀ q ∈ rfL, intF q.1 q.2.1 = false := by decide +kernel
theorem intF_ok {σ : Mem} (h : Sh σ) {a k : Nat} (hi : intF a k = true) : okI σ a k := by
  unfold intF at hi
  rw [Bool.and_eq_true] at hi
  have ha : a < 86 := by simpa [Nat.blt_eq] using hi.1
  have hs := h.1 a ha
  unfold okI
  rw [hs]
  have h2 := hi.2
  generalize shL.getD a (9, 9, 9) = q at h2
  obtain ⟨x, y, z⟩ := q
  match x, h2 with
  | 0, h2 =>
    simp only [Bool.and_eq_true, Nat.blt_eq] at h2
    exact Or.inl ⟨rfl, h2.1⟩
  | 1, h2 => exact Or.inr rfl
  | x + 2, h2 => cases h2
theorem Sh.wr {σ : Mem} (h : Sh σ) {a k : Nat} (hi : intF a k = true) (v : Int32) : Sh (wrI σ a k v) := by
  have hok := intF_ok h hi
  refine ⟨fun b hb => by rw [shp_wrI]; exact h.1 b hb, fun b j hj => ?_, fun q hq => ?_⟩
  · rw [vv_wrI hok, Iv_wrI hok]
    by_cases e : b = a ∧ j = k
    · rw [if_pos e, if_pos e]
    · rw [if_neg e, if_neg e]; exact h.2.1 b j hj
  · rw [vv_wrI hok, if_neg]
    · exact h.2.2 q hq
    · rintro ⟨e1, e2⟩
      have := rfL_int q hq
      rw [e1, e2, hi] at this
      cases this
/-- checks by program, for literal cells -/
def cgI (ci a k : Nat) : Bool := intF a k && (match shL.getD a (9, 9, 9) with | (0, c, n) => c == ci && Nat.blt k n | _ => false)
def cgA (a : Nat) : Option (Nat × Nat) := bif Nat.blt a 86 then (match shL.getD a (9, 9, 9) with | (1, t, n) => some (t, n) | _ => none) else none
theorem Sh.gI {σ : Mem} (h : Sh σ) {ci a k : Nat} (hc : cgI ci a k = true) : gI σ ci a k = some (Iv σ a k) := by
  unfold cgI at hc
  rw [Bool.and_eq_true] at hc
  obtain ⟨h1, h2⟩ := hc
  have ha : a < 86 := by
    unfold intF at h1
    rw [Bool.and_eq_true] at h1
    simpa [Nat.blt_eq] using h1.1
  have hs := h.1 a ha
  generalize shL.getD a (9, 9, 9) = q at h2 hs
  obtain ⟨x, y, z⟩ := q
  match x, h2, hs with
  | 0, h2, hs =>
    simp only [Bool.and_eq_true, Nat.blt_eq, beq_iff_eq] at h2
    obtain ⟨rfl, hk⟩ := h2
    exact gI_of hs hk (h.2.1 a k h1)
  | x + 1, h2, hs => cases h2
theorem Sh.pF {σ : Mem} (h : Sh σ) {ci a k : Nat} (hc : cgI ci a k = true) (v : Int32) : pF σ ci a k (.int v) = some (wrI σ a k v) := by
  unfold cgI at hc
  rw [Bool.and_eq_true] at hc
  obtain ⟨h1, h2⟩ := hc
  have ha : a < 86 := by
    unfold intF at h1
    rw [Bool.and_eq_true] at h1
    simpa [Nat.blt_eq] using h1.1
  have hs := h.1 a ha
  generalize shL.getD a (9, 9, 9) = q at h2 hs
  obtain ⟨x, y, z⟩ := q
  match x, h2, hs with
  | 0, h2, hs =>
    simp only [Bool.and_eq_true, Nat.blt_eq, beq_iff_eq] at h2
    obtain ⟨rfl, hk⟩ := h2
    exact pF_of v hs hk
  | x + 1, h2, hs => cases h2
theorem Sh.arr {σ : Mem} (h : Sh σ) {a t n : Nat} (hc : cgA a = some (t, n)) : shp σ a = (1, t, n) := by
  unfold cgA at hc
  cases ha : Nat.blt a 86 with
  | false => rw [ha] at hc; cases hc
  | true =>
    rw [ha] at hc
    have hs := h.1 a (by simpa [Nat.blt_eq] using ha)
    generalize shL.getD a (9, 9, 9) = q at hc hs
    obtain ⟨x, y, z⟩ := q
    match x, hc, hs with
    | 0, hc, _ => cases hc
    | 1, hc, hs => cases hc; exact hs
    | x + 2, hc, _ => cases hc
theorem Sh.lI {σ : Mem} (h : Sh σ) {a n : Nat} {i : Int32} (hc : cgA a = some (0, n)) (hi : inb i n = true) : lI σ a i = some (Iv σ a i.toNatClampNeg) := lI_of (h.arr hc) hi
theorem Sh.sI {σ : Mem} (h : Sh σ) {a n : Nat} {i : Int32} (hc : cgA a = some (0, n)) (hi : inb i n = true) (x : Int32) : sI σ a i x = some (wrI σ a i.toNatClampNeg x) := sI_of x (h.arr hc) hi
def cgR (ci a k t : Nat) : Bool := rfL.any (fun q => q.1 == a && q.2.1 == k && q.2.2 == t) && Nat.blt a 86 && (match shL.getD a (9, 9, 9) with | (0, c, n) => c == ci && Nat.blt k n | _ => false)
theorem Sh.gR {σ : Mem} (h : Sh σ) {ci a k t : Nat} (hc : cgR ci a k t = true) : gR σ ci a k = some t := by
  unfold cgR at hc
  simp only [Bool.and_eq_true] at hc
  obtain ⟨⟨h1, h2⟩, h3⟩ := hc
  obtain ⟨q, hq, h4⟩ := List.any_eq_true.mp h1
  simp only [Bool.and_eq_true, beq_iff_eq] at h4
  obtain ⟨⟨e1, e2⟩, e3⟩ := h4
  have hv := h.2.2 q hq
  rw [e1, e2, e3] at hv
  have hs := h.1 a (by simpa [Nat.blt_eq] using h2)
  generalize shL.getD a (9, 9, 9) = w at h3 hs
  obtain ⟨x, y, z⟩ := w
  match x, h3, hs with
  | 0, h3, hs =>
    simp only [Bool.and_eq_true, Nat.blt_eq, beq_iff_eq] at h3
    obtain ⟨rfl, hk⟩ := h3
    exact gR_of hs hk hv
  | x + 1, h3, hs => cases h3
def cgC (ci a : Nat) : Bool := Nat.blt a 86 && (match shL.getD a (9, 9, 9) with | (0, c, _) => c == ci | _ => false)
theorem Sh.isC {σ : Mem} (h : Sh σ) {ci a : Nat} (hc : cgC ci a = true) : isC σ ci a = true := by
  unfold cgC at hc
  rw [Bool.and_eq_true] at hc
  have hs := h.1 a (by simpa [Nat.blt_eq] using hc.1)
  have h3 := hc.2
  generalize shL.getD a (9, 9, 9) = w at h3 hs
  obtain ⟨x, y, z⟩ := w
  match x, h3, hs with
  | 0, h3, hs =>
    have : y = ci := by simpa using h3
    subst this
    exact isC_of hs
  | x + 1, h3, hs => cases h3
