/-! ===== a new chest; a chest is copied (printed by wip/whole/genc2.py) ===== -/
def AR (n : Nat) : MCQ := .inl (0, n, .inl (fun _ => 0))
def AR4 (n : Nat) : MCQ := .inl (4, n, .inr (.inr (.inr (.inr (fun _ => none)))))
def chs : List Nat := [0, 1, 0, 1, 1, 1, 1, 1, 1, 1, 0, 1, 1, 1, 0, 1, 0]
theorem newA_mk4 (f : Nat → Nat → Int32) (z : Mem) {n : Nat} (hn : n ≤ 1000000) : newA (mkM f z) 4 (wI n) = some (z.1, mkM (up f z.1 (fun _ => 0)) (addC z n (AR4 n))) := by
  unfold newA
  rw [wI_toNat (by omega), show decide (wI n < 0) = false from by rw [decide_eq_false_iff_not, wI_lt0 (by omega)]; exact fun h => h, show Nat.ble n 1000000 = true from Nat.ble_eq.mpr hn, ← addC_mk f z n (fun _ => 0) (AR4 n) (.inl (4, n, .inr (.inr (.inr (.inr (fun _ => none)))))) rfl]
  rfl
/-- an array is made, and written into the new chest -/
theorem al_0 (f : Nat → Nat → Int32) (z : Mem) {b n k : Nat} (hb : b < z.1) (hs : z.1 < 2147480000) (hn : n ≤ 1000) (h : okCl (0, 1, 0, chs) (z.2.2 b) = true) (hk : chs[k]? = some 1) (K : Mem → Option Rs) :
    (hO (newA (mkM f z) 0 (wI n)) fun q => hO (pF q.2 1 b k (.ref q.1)) fun σ => K σ) = K (mkM (up (up f z.1 (fun _ => 0)) b (upd (f b) k (wI z.1))) (addC z n (AR n))) := by
  rw [newA_mk f z (by omega)]
  have h2 : okCl (0, 1, 0, chs) ((addC z n (AR n)).2.2 b) = true := by
    show okCl _ (va_up z.2.2 z.1 _ b) = true
    unfold va_up
    rw [if_neg (by omega)]
    exact h
  have p := ok_pR (q := (0, 1, 0, chs)) (z := addC z n (AR n)) (a := b) h2 rfl (up f z.1 (fun _ => 0)) (k := k) hk (v := z.1) (by omega) (by omega)
  rw [up_ne _ _ _ (show b ≠ z.1 by omega)] at p
  show (hO (pF (mkM (up f z.1 fun _ => 0) (addC z n (AR n))) 1 b k (.ref z.1)) fun σ => K σ) = _
  rw [show pF (mkM (up f z.1 fun _ => 0) (addC z n (AR n))) 1 b k (.ref z.1) = _ from p]
  rfl
theorem al_4 (f : Nat → Nat → Int32) (z : Mem) {b n k : Nat} (hb : b < z.1) (hs : z.1 < 2147480000) (hn : n ≤ 1000) (h : okCl (0, 1, 0, chs) (z.2.2 b) = true) (hk : chs[k]? = some 1) (K : Mem → Option Rs) :
    (hO (newA (mkM f z) 4 (wI n)) fun q => hO (pF q.2 1 b k (.ref q.1)) fun σ => K σ) = K (mkM (up (up f z.1 (fun _ => 0)) b (upd (f b) k (wI z.1))) (addC z n (AR4 n))) := by
  rw [newA_mk4 f z (by omega)]
  have h2 : okCl (0, 1, 0, chs) ((addC z n (AR4 n)).2.2 b) = true := by
    show okCl _ (va_up z.2.2 z.1 _ b) = true
    unfold va_up
    rw [if_neg (by omega)]
    exact h
  have p := ok_pR (q := (0, 1, 0, chs)) (z := addC z n (AR4 n)) (a := b) h2 rfl (up f z.1 (fun _ => 0)) (k := k) hk (v := z.1) (by omega) (by omega)
  rw [up_ne _ _ _ (show b ≠ z.1 by omega)] at p
  show (hO (pF (mkM (up f z.1 fun _ => 0) (addC z n (AR4 n))) 1 b k (.ref z.1)) fun σ => K σ) = _
  rw [show pF (mkM (up f z.1 fun _ => 0) (addC z n (AR4 n))) 1 b k (.ref z.1) = _ from p]
  rfl
def iniN : Nat → Nat := fun j => if j = 97 then 2 else 0
/-- the cells of a new chest -/
def chC (b j : Nat) : MCQ := if j = 0 then .inr (1, [.int 0, .ref (b + 1), .int 0, .ref (b + 2), .ref (b + 3), .ref (b + 4), .ref (b + 5), .ref (b + 6), .ref (b + 7), .ref (b + 8), .int 0, .ref (b + 9), .ref (b + 10), .ref (b + 11), .int 0, .ref (b + 12), .int 0]) else if j = 1 then AR 6 else if j = 11 then AR 3 else if j = 12 then AR4 6 else AR 10
def chF (j k : Nat) : Int32 := if j = 0 ∧ k = 16 then -1 else if j = 11 ∧ k = 1 then 2 else 0

theorem ch_fix {f : Nat → Nat → Int32} {z : Mem} {b : Nat} (hz : z.2.2 b = .inr (1, dfl 1)) (v1 : rfo (f b 1) = some (b + 1)) (v3 : rfo (f b 3) = some (b + 2)) (v4 : rfo (f b 4) = some (b + 3)) (v5 : rfo (f b 5) = some (b + 4)) (v6 : rfo (f b 6) = some (b + 5)) (v7 : rfo (f b 7) = some (b + 6)) (v8 : rfo (f b 8) = some (b + 7)) (v9 : rfo (f b 9) = some (b + 8)) (v11 : rfo (f b 11) = some (b + 9)) (v12 : rfo (f b 12) = some (b + 10)) (v13 : rfo (f b 13) = some (b + 11)) (v15 : rfo (f b 15) = some (b + 12)) : mkM f z = mkM f (setC z b (chC b 0)) := by
  unfold mkM setC
  congr 2
  funext a
  show mkC (f a) (z.2.2 a) = mkC (f a) (va_up z.2.2 b _ a)
  unfold va_up
  by_cases e : a = b
  · rw [if_pos e, e, hz]
    have e1 : mkC (f b) (.inr (1, dfl 1)) = .inr (1, [Value.int (f b 0), va_rf (rfo (f b 1)), Value.int (f b 2), va_rf (rfo (f b 3)), va_rf (rfo (f b 4)), va_rf (rfo (f b 5)), va_rf (rfo (f b 6)), va_rf (rfo (f b 7)), va_rf (rfo (f b 8)), va_rf (rfo (f b 9)), Value.int (f b 10), va_rf (rfo (f b 11)), va_rf (rfo (f b 12)), va_rf (rfo (f b 13)), Value.int (f b 14), va_rf (rfo (f b 15)), Value.int (f b 16)]) := rfl
    have e2 : mkC (f b) (chC b 0) = .inr (1, [Value.int (f b 0), Value.ref (b + 1), Value.int (f b 2), Value.ref (b + 2), Value.ref (b + 3), Value.ref (b + 4), Value.ref (b + 5), Value.ref (b + 6), Value.ref (b + 7), Value.ref (b + 8), Value.int (f b 10), Value.ref (b + 9), Value.ref (b + 10), Value.ref (b + 11), Value.int (f b 14), Value.ref (b + 12), Value.int (f b 16)]) := rfl
    rw [e1, e2, v1, v3, v4, v5, v6, v7, v8, v9, v11, v12, v13, v15]
    rfl
  · rw [if_neg e]
def CI (b i : Nat) (f F : Nat → Nat → Int32) (z Z : Mem) (r : Nat → Int32) (C : Nat → MCQ) : Prop := Z.1 = b + 1 + i ∧ (∀ a, a < b ∨ b + i < a → F a = f a) ∧ F b = r ∧ (∀ j, 1 ≤ j → j ≤ i → F (b + j) = fun _ => 0) ∧ (∀ a, a ≤ b ∨ b + i < a → Z.2.2 a = z.2.2 a) ∧ ∀ j, 1 ≤ j → j ≤ i → Z.2.2 (b + j) = C j
theorem CI_0 {b i n k : Nat} {f F : Nat → Nat → Int32} {z Z : Mem} {r : Nat → Int32} {C : Nat → MCQ} (h : CI b i f F z Z r C) (h1 : okCl (0, 1, 0, chs) (z.2.2 b) = true) (hs : b + 1 + i < 2147480000) (hn : n ≤ 1000) (hk : chs[k]? = some 1) (hC : C (i + 1) = AR n) :
    ∃ F' Z', (∀ K : Mem → Option Rs, (hO (newA (mkM F Z) 0 (wI n)) fun q => hO (pF q.2 1 b k (.ref q.1)) fun σ => K σ) = K (mkM F' Z')) ∧ CI b (i + 1) f F' z Z' (upd r k (wI (b + 1 + i))) C ∧ Z'.2.1 = Z.2.1 + n := by
  obtain ⟨c1, c2, c3, c4, c5, c6⟩ := h
  have hz2 : okCl (0, 1, 0, chs) (Z.2.2 b) = true := by rw [c5 b (by omega)]; exact h1
  refine ⟨_, _, fun K => al_0 F Z (b := b) (n := n) (k := k) (by omega) (by omega) hn hz2 hk K, ⟨?_, fun a ha => ?_, ?_, fun j h1 h2 => ?_, fun a ha => ?_, fun j h1 h2 => ?_⟩, rfl⟩
  · show Z.1 + 1 = _; omega
  · rw [up_ne _ _ _ (by omega), up_ne _ _ _ (by omega), c2 a (by omega)]
  · rw [up_eq, c3, c1]
  · rw [up_ne _ _ _ (by omega)]
    by_cases e : j = i + 1
    · rw [show b + j = Z.1 by omega, up_eq]
    · rw [up_ne _ _ _ (by omega), c4 j h1 (by omega)]
  · show va_up Z.2.2 Z.1 _ a = _
    unfold va_up
    rw [if_neg (by omega), c5 a (by omega)]
  · show va_up Z.2.2 Z.1 _ (b + j) = _
    unfold va_up
    by_cases e : j = i + 1
    · rw [if_pos (by omega), e, hC]
    · rw [if_neg (by omega), c6 j h1 (by omega)]
theorem CI_4 {b i n k : Nat} {f F : Nat → Nat → Int32} {z Z : Mem} {r : Nat → Int32} {C : Nat → MCQ} (h : CI b i f F z Z r C) (h1 : okCl (0, 1, 0, chs) (z.2.2 b) = true) (hs : b + 1 + i < 2147480000) (hn : n ≤ 1000) (hk : chs[k]? = some 1) (hC : C (i + 1) = AR4 n) :
    ∃ F' Z', (∀ K : Mem → Option Rs, (hO (newA (mkM F Z) 4 (wI n)) fun q => hO (pF q.2 1 b k (.ref q.1)) fun σ => K σ) = K (mkM F' Z')) ∧ CI b (i + 1) f F' z Z' (upd r k (wI (b + 1 + i))) C ∧ Z'.2.1 = Z.2.1 + n := by
  obtain ⟨c1, c2, c3, c4, c5, c6⟩ := h
  have hz2 : okCl (0, 1, 0, chs) (Z.2.2 b) = true := by rw [c5 b (by omega)]; exact h1
  refine ⟨_, _, fun K => al_4 F Z (b := b) (n := n) (k := k) (by omega) (by omega) hn hz2 hk K, ⟨?_, fun a ha => ?_, ?_, fun j h1 h2 => ?_, fun a ha => ?_, fun j h1 h2 => ?_⟩, rfl⟩
  · show Z.1 + 1 = _; omega
  · rw [up_ne _ _ _ (by omega), up_ne _ _ _ (by omega), c2 a (by omega)]
  · rw [up_eq, c3, c1]
  · rw [up_ne _ _ _ (by omega)]
    by_cases e : j = i + 1
    · rw [show b + j = Z.1 by omega, up_eq]
    · rw [up_ne _ _ _ (by omega), c4 j h1 (by omega)]
  · show va_up Z.2.2 Z.1 _ a = _
    unfold va_up
    rw [if_neg (by omega), c5 a (by omega)]
  · show va_up Z.2.2 Z.1 _ (b + j) = _
    unfold va_up
    by_cases e : j = i + 1
    · rw [if_pos (by omega), e, hC]
    · rw [if_neg (by omega), c6 j h1 (by omega)]
theorem ch_run {f : Nat → Nat → Int32} {z : Mem} {b : Nat} (hb : z.1 = b + 1) (hs : b < 2147470000) (h1 : z.2.2 b = .inr (1, dfl 1)) (hf : f b = fun _ => 0) {d : Nat} :
    ∃ F Z, CI b 12 f F z Z (upd (upd (upd (upd (upd (upd (upd (upd (upd (upd (upd (upd (fun _ => 0) 1 (wI (b + 1 + 0))) 3 (wI (b + 1 + 1))) 4 (wI (b + 1 + 2))) 5 (wI (b + 1 + 3))) 6 (wI (b + 1 + 4))) 7 (wI (b + 1 + 5))) 8 (wI (b + 1 + 6))) 9 (wI (b + 1 + 7))) 11 (wI (b + 1 + 8))) 12 (wI (b + 1 + 9))) 13 (wI (b + 1 + 10))) 15 (wI (b + 1 + 11))) (chC b) ∧ Z.2.1 = z.2.1 + 105 ∧ EC (d + 1) mChest_init [.ref b] (mkM f z) = (hO (pF (mkM F Z) 1 b 16 (.int (-1))) fun σ25 => hO (gR σ25 1 b 13) fun r26 => hO (sI σ25 r26 1 2) fun σ27 => some (none, σ27)) := by
  have k0 : CI b 0 f f z z (fun _ => 0) (chC b) := ⟨by omega, fun _ _ => rfl, hf, fun j h1 h2 => by omega, fun _ _ => rfl, fun j h1 h2 => by omega⟩
  have hc : okCl (0, 1, 0, chs) (z.2.2 b) = true := by rw [h1]; rfl
  obtain ⟨F1, Z1, r1, k1, s1⟩ := CI_0 k0 hc (by omega) (n := 6) (k := 1) (by decide) rfl rfl
  obtain ⟨F2, Z2, r2, k2, s2⟩ := CI_0 k1 hc (by omega) (n := 10) (k := 3) (by decide) rfl rfl
  obtain ⟨F3, Z3, r3, k3, s3⟩ := CI_0 k2 hc (by omega) (n := 10) (k := 4) (by decide) rfl rfl
  obtain ⟨F4, Z4, r4, k4, s4⟩ := CI_0 k3 hc (by omega) (n := 10) (k := 5) (by decide) rfl rfl
  obtain ⟨F5, Z5, r5, k5, s5⟩ := CI_0 k4 hc (by omega) (n := 10) (k := 6) (by decide) rfl rfl
  obtain ⟨F6, Z6, r6, k6, s6⟩ := CI_0 k5 hc (by omega) (n := 10) (k := 7) (by decide) rfl rfl
  obtain ⟨F7, Z7, r7, k7, s7⟩ := CI_0 k6 hc (by omega) (n := 10) (k := 8) (by decide) rfl rfl
  obtain ⟨F8, Z8, r8, k8, s8⟩ := CI_0 k7 hc (by omega) (n := 10) (k := 9) (by decide) rfl rfl
  obtain ⟨F9, Z9, r9, k9, s9⟩ := CI_0 k8 hc (by omega) (n := 10) (k := 11) (by decide) rfl rfl
  obtain ⟨F10, Z10, r10, k10, s10⟩ := CI_0 k9 hc (by omega) (n := 10) (k := 12) (by decide) rfl rfl
  obtain ⟨F11, Z11, r11, k11, s11⟩ := CI_0 k10 hc (by omega) (n := 3) (k := 13) (by decide) rfl rfl
  obtain ⟨F12, Z12, r12, k12, s12⟩ := CI_4 k11 hc (by omega) (n := 6) (k := 15) (by decide) rfl rfl
  refine ⟨F12, Z12, k12, by omega, ?_⟩
  rw [q_Chest_init, show (6 : Int32) = wI 6 from rfl, show (10 : Int32) = wI 10 from rfl, show (3 : Int32) = wI 3 from rfl]
  rw [r1, r2, r3, r4, r5, r6, r7, r8, r9, r10, r11, r12]
set_option maxHeartbeats 4000000 in
theorem t_Chest_init {f : Nat → Nat → Int32} {z : Mem} {b : Nat} (hb : z.1 = b + 1) (hs : b < 2147470000) (h1 : z.2.2 b = .inr (1, dfl 1)) (hf : f b = fun _ => 0) {d : Nat} (hd : 1 ≤ d) :
    ∃ F Z, EC d mChest_init [.ref b] (mkM f z) = some (none, mkM F Z) ∧ (∀ a, a < b ∨ b + 12 < a → F a = f a) ∧ (∀ j, j < 13 → ∀ k, (j = 0 → k = 0 ∨ k = 2 ∨ k = 10 ∨ k = 14 ∨ k = 16) → F (b + j) k = chF j k) ∧ (∀ a, a < b ∨ b + 12 < a → Z.2.2 a = z.2.2 a) ∧ (∀ j, j < 13 → Z.2.2 (b + j) = chC b j) ∧ Z.1 = b + 13 ∧ Z.2.1 = z.2.1 + 105 := by
  obtain ⟨d, rfl⟩ : ∃ e, d = e + 1 := ⟨d - 1, by omega⟩
  obtain ⟨F, Z, ⟨c1, c2, c3, c4, c5, c6⟩, c7, c8⟩ := ch_run (f := f) hb hs h1 hf (d := d)
  have zb : Z.2.2 b = .inr (1, dfl 1) := by rw [c5 b (by omega), h1]
  have okb : okCl (0, 1, 0, chs) (Z.2.2 b) = true := by rw [zb]; rfl
  have g12 := ok_pF (q := (0, 1, 0, chs)) (z := Z) (a := b) okb rfl F (k := 16) rfl (-1)
  have fb : ∀ k, up F b (upd (F b) 16 (-1)) b k = if k = 16 then -1 else F b k := fun k => by rw [up_eq, upd_at]
  have fo : ∀ a, a ≠ b → up F b (upd (F b) 16 (-1)) a = F a := fun a ha => up_ne _ _ _ ha
  generalize up F b (upd (F b) 16 (-1)) = F1 at g12 fb fo
  have g13 := ok_gRv (q := (0, 1, 0, chs)) (z := Z) (a := b) okb rfl F1 (k := 13) rfl
  have w1 : rfo (F1 b 1) = some (b + 1) := by rw [fb, if_neg (by decide), c3]; simp (disch := decide) only [upd_ne, upd_eq]; rw [show b + 1 + 0 = b + 1 by omega]; exact rfo_w (by omega) (by omega)
  have w3 : rfo (F1 b 3) = some (b + 2) := by rw [fb, if_neg (by decide), c3]; simp (disch := decide) only [upd_ne, upd_eq]; rw [show b + 1 + 1 = b + 2 by omega]; exact rfo_w (by omega) (by omega)
  have w4 : rfo (F1 b 4) = some (b + 3) := by rw [fb, if_neg (by decide), c3]; simp (disch := decide) only [upd_ne, upd_eq]; rw [show b + 1 + 2 = b + 3 by omega]; exact rfo_w (by omega) (by omega)
  have w5 : rfo (F1 b 5) = some (b + 4) := by rw [fb, if_neg (by decide), c3]; simp (disch := decide) only [upd_ne, upd_eq]; rw [show b + 1 + 3 = b + 4 by omega]; exact rfo_w (by omega) (by omega)
  have w6 : rfo (F1 b 6) = some (b + 5) := by rw [fb, if_neg (by decide), c3]; simp (disch := decide) only [upd_ne, upd_eq]; rw [show b + 1 + 4 = b + 5 by omega]; exact rfo_w (by omega) (by omega)
  have w7 : rfo (F1 b 7) = some (b + 6) := by rw [fb, if_neg (by decide), c3]; simp (disch := decide) only [upd_ne, upd_eq]; rw [show b + 1 + 5 = b + 6 by omega]; exact rfo_w (by omega) (by omega)
  have w8 : rfo (F1 b 8) = some (b + 7) := by rw [fb, if_neg (by decide), c3]; simp (disch := decide) only [upd_ne, upd_eq]; rw [show b + 1 + 6 = b + 7 by omega]; exact rfo_w (by omega) (by omega)
  have w9 : rfo (F1 b 9) = some (b + 8) := by rw [fb, if_neg (by decide), c3]; simp (disch := decide) only [upd_ne, upd_eq]; rw [show b + 1 + 7 = b + 8 by omega]; exact rfo_w (by omega) (by omega)
  have w11 : rfo (F1 b 11) = some (b + 9) := by rw [fb, if_neg (by decide), c3]; simp (disch := decide) only [upd_ne, upd_eq]; rw [show b + 1 + 8 = b + 9 by omega]; exact rfo_w (by omega) (by omega)
  have w12 : rfo (F1 b 12) = some (b + 10) := by rw [fb, if_neg (by decide), c3]; simp (disch := decide) only [upd_ne, upd_eq]; rw [show b + 1 + 9 = b + 10 by omega]; exact rfo_w (by omega) (by omega)
  have w13 : rfo (F1 b 13) = some (b + 11) := by rw [fb, if_neg (by decide), c3]; simp (disch := decide) only [upd_ne, upd_eq]; rw [show b + 1 + 10 = b + 11 by omega]; exact rfo_w (by omega) (by omega)
  have w15 : rfo (F1 b 15) = some (b + 12) := by rw [fb, if_neg (by decide), c3]; simp (disch := decide) only [upd_ne, upd_eq]; rw [show b + 1 + 11 = b + 12 by omega]; exact rfo_w (by omega) (by omega)
  rw [w13] at g13
  have zr : Z.2.2 (b + 11) = AR 3 := c6 11 (by decide) (by decide)
  have g14 := ok_sI (q := (1, 0, 3, [])) (z := Z) (a := b + 11) (by rw [zr]; rfl) rfl rfl F1 (k := 1) 2 (by decide) (by decide)
  have fb2 : up F1 (b + 11) (upd (F1 (b + 11)) 1 2) b = F1 b := up_ne _ _ _ (by omega)
  have fr : ∀ j, 1 ≤ j → j < 13 → up F1 (b + 11) (upd (F1 (b + 11)) 1 2) (b + j) = if j = 11 then upd (fun _ => 0) 1 2 else fun _ => 0 := fun j j1 j2 => by
    by_cases e : j = 11
    · rw [if_pos e, e, up_eq, fo _ (by omega), c4 11 (by decide) (by decide)]
    · rw [if_neg e, up_ne _ _ _ (by omega), fo _ (by omega), c4 j j1 (by omega)]
  have fo2 : ∀ a, a < b ∨ b + 12 < a → up F1 (b + 11) (upd (F1 (b + 11)) 1 2) a = f a := fun a ha => by rw [up_ne _ _ _ (by omega), fo a (by omega), c2 a ha]
  generalize up F1 (b + 11) (upd (F1 (b + 11)) 1 2) = F2 at g14 fb2 fr fo2
  have eM : mkM F2 Z = mkM F2 (setC Z b (chC b 0)) := ch_fix zb (by rw [fb2]; exact w1) (by rw [fb2]; exact w3) (by rw [fb2]; exact w4) (by rw [fb2]; exact w5) (by rw [fb2]; exact w6) (by rw [fb2]; exact w7) (by rw [fb2]; exact w8) (by rw [fb2]; exact w9) (by rw [fb2]; exact w11) (by rw [fb2]; exact w12) (by rw [fb2]; exact w13) (by rw [fb2]; exact w15)
  refine ⟨F2, setC Z b (chC b 0), ?_, fo2, fun j hj k hk => ?_, fun a ha => ?_, fun j hj => ?_, by show Z.1 = _; omega, c7⟩
  · rw [← eM, c8, show pF (mkM F Z) 1 b 16 (.int (-1)) = _ from g12]
    show (hO (gR (mkM F1 Z) 1 b 13) fun r26 => hO (sI (mkM F1 Z) r26 1 2) fun σ27 => some (none, σ27)) = _
    rw [show gR (mkM F1 Z) 1 b 13 = _ from g13]
    show (hO (sI (mkM F1 Z) (b + 11) (wI 1) 2) fun σ27 => some (none, σ27)) = _
    rw [g14]
    rfl
  · by_cases e0 : j = 0
    · subst e0
      show F2 b k = _
      rw [fb2, fb, c3]
      unfold chF
      rcases hk rfl with rfl | rfl | rfl | rfl | rfl <;> simp (disch := decide) only [upd_ne] <;> rfl
    · rw [fr j (by omega) hj]
      unfold chF
      rw [if_neg (show ¬ (j = 0 ∧ k = 16) by omega)]
      by_cases e1 : j = 11
      · rw [if_pos e1]
        by_cases e2 : k = 1
        · rw [e2, upd_eq, if_pos ⟨e1, rfl⟩]
        · rw [upd_ne _ _ _ e2, if_neg (show ¬ (j = 11 ∧ k = 1) by omega)]
      · rw [if_neg e1, if_neg (show ¬ (j = 11 ∧ k = 1) by omega)]
  · show va_up Z.2.2 b _ a = _
    unfold va_up
    rw [if_neg (by omega), c5 a (by omega)]
  · show va_up Z.2.2 b _ (b + j) = _
    unfold va_up
    by_cases e0 : j = 0
    · subst e0; rw [if_pos (show b + 0 = b from rfl)]
    · rw [if_neg (by omega), c6 j (by omega) (by omega)]
theorem chC_Ch {Z : Mem} {b : Nat} (h : ∀ j, j < 13 → Z.2.2 (b + j) = chC b j) : Ch Z b := fun j hj => by
  rw [h j hj]
  rcases (show j = 0 ∨ j = 1 ∨ j = 2 ∨ j = 3 ∨ j = 4 ∨ j = 5 ∨ j = 6 ∨ j = 7 ∨ j = 8 ∨ j = 9 ∨ j = 10 ∨ j = 11 ∨ j = 12 by omega) with rfl | rfl | rfl | rfl | rfl | rfl | rfl | rfl | rfl | rfl | rfl | rfl | rfl
  · show (((b + 1) == (b + 1)) && (((b + 2) == (b + 2)) && (((b + 3) == (b + 3)) && (((b + 4) == (b + 4)) && (((b + 5) == (b + 5)) && (((b + 6) == (b + 6)) && (((b + 7) == (b + 7)) && (((b + 8) == (b + 8)) && (((b + 9) == (b + 9)) && (((b + 10) == (b + 10)) && (((b + 11) == (b + 11)) && (((b + 12) == (b + 12)) && true)))))))))))) = true
    simp
  all_goals rfl
theorem chF_CK {F : Nat → Nat → Int32} {b : Nat} (h : ∀ j, j < 13 → ∀ k, (j = 0 → k = 0 ∨ k = 2 ∨ k = 10 ∨ k = 14 ∨ k = 16) → F (b + j) k = chF j k) : CK F b iniN := by
  have h0 : ∀ k, (k = 0 ∨ k = 2 ∨ k = 10 ∨ k = 14 ∨ k = 16) → F b k = chF 0 k := fun k hk => h 0 (by decide) k (fun _ => hk)
  have hr : ∀ j, 1 ≤ j → j < 11 → ∀ k, F (b + j) k = 0 := fun j h1 h2 k => by
    rw [h j (by omega) k (fun e => by omega)]
    unfold chF
    rw [if_neg (by omega), if_neg (by omega)]
  have i0 : ∀ j, j ≠ 97 → wI (iniN j) = 0 := fun j hj => by unfold iniN; rw [if_neg hj]; rfl
  refine ⟨by rw [h0 0 (by decide)]; rfl, by rw [h0 2 (by decide)]; rfl, by rw [h0 10 (by decide)]; rfl, by rw [h0 14 (by decide)]; rfl, by rw [h0 16 (by decide)]; rfl, fun j hj => by rw [hr 1 (by decide) (by decide), i0 _ (by omega)], fun j hj => by rw [hr 2 (by decide) (by decide), i0 _ (by omega)], fun j hj => by rw [hr 3 (by decide) (by decide), i0 _ (by omega)], fun j hj => by rw [hr 4 (by decide) (by decide), i0 _ (by omega)], fun j hj => by rw [hr 5 (by decide) (by decide), i0 _ (by omega)], fun j hj => by rw [hr 6 (by decide) (by decide), i0 _ (by omega)], fun j hj => by rw [hr 7 (by decide) (by decide), i0 _ (by omega)], fun j hj => by rw [hr 8 (by decide) (by decide), i0 _ (by omega)], fun j hj => by rw [hr 9 (by decide) (by decide), i0 _ (by omega)], fun j hj => by rw [hr 10 (by decide) (by decide), i0 _ (by omega)], by rw [h 11 (by decide) 0 (fun e => by omega)]; rfl, by rw [h 11 (by decide) 1 (fun e => by omega)]; rfl, by rw [h 11 (by decide) 2 (fun e => by omega)]; rfl⟩
theorem iniN_VK : VK iniN := by
  have h : ∀ j, iniN j = if j = 97 then 2 else 0 := fun _ => rfl
  refine ⟨fun j => by rw [h]; split <;> omega, by decide, by decide, by decide, by decide, by decide, by decide, by decide, by decide, fun j hj => by rw [h, if_neg (by omega)]; omega, fun j hj => ?_, fun j hj => absurd hj (Nat.not_lt_zero _), fun j hj => absurd hj (Nat.not_lt_zero _)⟩
  simp only [h]
  rw [if_neg (by omega), if_neg (by omega), if_neg (by omega), if_neg (by omega), if_neg (by omega), if_neg (by omega), if_neg (by omega), if_neg (by omega), if_neg (by omega)]
  omega
