/-! ===== making new cells; a program is kept ===== -/
theorem addC_mk (f : Nat → Nat → Int32) (z : Mem) (k : Nat) (r : Nat → Int32) (c c' : MCQ) (h : mkC r c = c') : addC (mkM f z) k c' = mkM (up f z.1 r) (addC z k c) := by
  unfold addC mkM
  congr 2
  funext b
  show va_up (fun a => mkC (f a) (z.2.2 a)) z.1 c' b = mkC (up f z.1 r b) (va_up z.2.2 z.1 c b)
  unfold va_up
  by_cases e : b = z.1
  · rw [if_pos e, if_pos e, e, up_eq, h]
  · rw [if_neg e, if_neg e, up_ne _ _ _ e]
theorem newA_mk (f : Nat → Nat → Int32) (z : Mem) {n : Nat} (hn : n ≤ 1000000) : newA (mkM f z) 0 (wI n) = some (z.1, mkM (up f z.1 (fun _ => 0)) (addC z n (.inl (0, n, .inl (fun _ => 0))))) := by
  unfold newA
  rw [wI_toNat (by omega), show decide (wI n < 0) = false from by rw [decide_eq_false_iff_not, wI_lt0 (by omega)]; exact fun h => h, show Nat.ble n 1000000 = true from Nat.ble_eq.mpr hn, ← addC_mk f z n (fun _ => 0) (.inl (0, n, .inl (fun _ => 0))) _ rfl]
  rfl
theorem mxI_0 {n : Nat} (h : n < 2147483648) : mxI 0 (wI n) = wI n := by
  unfold mxI
  split
  · rfl
  · rename_i h1
    rw [show (0 : Int32) = wI 0 from rfl, wI_lt (by decide) h] at h1
    have : n = 0 := by omega
    rw [this]; rfl
/-- a program's references, once written, are fixed -/
theorem fix_mk (f : Nat → Nat → Int32) (z : Mem) {q : Nat} (hs : q + 2 < 2147483648) (hz : z.2.2 q = .inr (5, dfl 5)) (h2 : f q 2 = wI (q + 1)) (h3 : f q 3 = wI (q + 2)) : mkM f z = mkM f (setC z q (.inr (5, [.int 0, .int 0, .ref (q + 1), .ref (q + 2)]))) := by
  unfold mkM setC
  congr 2
  funext b
  show mkC (f b) (z.2.2 b) = mkC (f b) (va_up z.2.2 q _ b)
  unfold va_up
  by_cases e : b = q
  · rw [if_pos e, e, hz]
    show Sum.inr (5, [Value.int (f q 0), Value.int (f q 1), va_rf (rfo (f q 2)), va_rf (rfo (f q 3))]) = _
    rw [h2, h3, rfo_w (by omega) (by omega), rfo_w (by omega) hs]
    rfl
  · rw [if_neg e]
section
variable {z : Mem} {f : Nat → Nat → Int32}
theorem t_Program_init (hs : z.1 + 2 < 2147483648) {q : Nat} (hq : z.1 = q + 1) (h5 : z.2.2 q = .inr (5, dfl 5)) {c l : Nat} (hc : c ≤ 12) (hl : l ≤ 400) {d : Nat} (hd : 1 ≤ d) :
    EC d mProgram_init [.ref q, .int (wI c), .int (wI l)] (mkM f z) = some (none, mkM (up (up (up (up f (q + 1) (fun _ => 0)) q (upd (f q) 2 (wI (q + 1)))) (q + 2) (fun _ => 0)) q (upd (upd (f q) 2 (wI (q + 1))) 3 (wI (q + 2)))) (addC (addC z (c * 6) (.inl (0, c * 6, .inl (fun _ => 0)))) l (.inl (0, l, .inl (fun _ => 0))))) := by
  obtain ⟨d, rfl⟩ : ∃ e, d = e + 1 := ⟨d - 1, by omega⟩
  let z1 := addC z (c * 6) (.inl (0, c * 6, .inl (fun _ => 0)))
  have hz1 : z1.1 = q + 2 := by show z.1 + 1 = _; omega
  let z2 := addC z1 l (.inl (0, l, .inl (fun _ => 0)))
  have z15 : z1.2.2 q = .inr (5, dfl 5) := by
    show va_up z.2.2 z.1 _ q = _
    unfold va_up
    rw [if_neg (by omega), h5]
  have z25 : z2.2.2 q = .inr (5, dfl 5) := by
    show va_up z1.2.2 z1.1 _ q = _
    unfold va_up
    rw [if_neg (by omega), z15]
  have n1 := newA_mk f z (n := c * 6) (by omega)
  rw [hq] at n1
  have p1 := ok_pR (q := (0, 5, 0, [0, 0, 1, 1])) (z := z1) (a := q) (by rw [z15]; rfl) rfl (up f (q + 1) (fun _ => 0)) (k := 2) rfl (v := q + 1) (by omega) (by omega)
  rw [up_ne _ _ _ (show q ≠ q + 1 by omega)] at p1
  have n2 := newA_mk (up (up f (q + 1) (fun _ => 0)) q (upd (f q) 2 (wI (q + 1)))) z1 (n := l) (by omega)
  rw [hz1] at n2
  have p2 := ok_pR (q := (0, 5, 0, [0, 0, 1, 1])) (z := z2) (a := q) (by rw [z25]; rfl) rfl (up (up (up f (q + 1) (fun _ => 0)) q (upd (f q) 2 (wI (q + 1)))) (q + 2) (fun _ => 0)) (k := 3) rfl (v := q + 2) (by omega) (by omega)
  rw [up_ne _ _ _ (show q ≠ q + 2 by omega), up_eq] at p2
  rw [q_Program_init, mxI_0 (by omega), mxI_0 (by omega), show (6 : Int32) = wI 6 from rfl, wI_mul, n1]
  simp -dsimp only [hO_s]
  rw [show pF (mkM (up f (q + 1) fun _ => 0) (addC z (c * 6) (.inl (0, c * 6, .inl (fun _ => 0))))) 5 q 2 (.ref (q + 1)) = _ from p1]
  simp -dsimp only [hO_s]
  rw [n2]
  simp -dsimp only [hO_s]
  rw [show pF (mkM (up (up (up f (q + 1) fun _ => 0) q (upd (f q) 2 (wI (q + 1)))) (q + 2) fun _ => 0) (addC z1 l (.inl (0, l, .inl (fun _ => 0))))) 5 q 3 (.ref (q + 2)) = _ from p2]
  simp -dsimp only [hO_s]
  rfl
end
