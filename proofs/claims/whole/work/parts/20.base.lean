def wI (n : Nat) : Int32 := Int32.ofNat n
theorem wI_toInt {n : Nat} (h : n < 2147483648) : (wI n).toInt = n := toInt_of rfl (by omega)
theorem wI_toNat {n : Nat} (h : n < 2147483648) : (wI n).toNatClampNeg = n := clamp_of rfl (by omega)
theorem wI_add (a b : Nat) : wI a + wI b = wI (a + b) := (Int32.ofNat_add a b).symm
theorem wI_mul (a b : Nat) : wI a * wI b = wI (a * b) := (Int32.ofNat_mul a b).symm
theorem wI_add1 (a : Nat) : wI a + 1 = wI (a + 1) := wI_add a 1
theorem wI_1add (a : Nat) : 1 + wI a = wI (1 + a) := wI_add 1 a
theorem wI_sub {a b : Nat} (h : b ≤ a) : wI a - wI b = wI (a - b) := by
  have e : wI a = wI (a - b) + wI b := by rw [wI_add]; congr 1; omega
  rw [e, Int32.add_sub_cancel]
theorem wI_sub1 {a : Nat} (h : 1 ≤ a) : wI a - 1 = wI (a - 1) := wI_sub h
theorem wI_lt {a b : Nat} (ha : a < 2147483648) (hb : b < 2147483648) : (wI a < wI b) = (a < b) := by
  rw [Int32.lt_iff_toInt_lt, wI_toInt ha, wI_toInt hb]; simp
theorem wI_le {a b : Nat} (ha : a < 2147483648) (hb : b < 2147483648) : (wI a ≤ wI b) = (a ≤ b) := by
  rw [Int32.le_iff_toInt_le, wI_toInt ha, wI_toInt hb]; simp
theorem wI_eq {a b : Nat} (ha : a < 2147483648) (hb : b < 2147483648) : (wI a = wI b) = (a = b) := by
  rw [← Int32.toInt_inj, wI_toInt ha, wI_toInt hb]; simp only [eq_iff_iff]; omega
theorem wI_eq0 {a : Nat} (ha : a < 2147483648) : (wI a = 0) = (a = 0) := wI_eq (b := 0) ha (by decide)
theorem wI_eq1 {a : Nat} (ha : a < 2147483648) : (wI a = 1) = (a = 1) := wI_eq (b := 1) ha (by decide)
theorem wI_lt0 {a : Nat} (ha : a < 2147483648) : (wI a < 0) = False := by
  rw [show (0 : Int32) = wI 0 from rfl, wI_lt ha (by omega)]; simp
theorem wI_le0 {a : Nat} (ha : a < 2147483648) : (wI a ≤ 0) = (a = 0) := by
  rw [show (0 : Int32) = wI 0 from rfl, wI_le ha (by omega)]; simp
theorem wI_0lt {a : Nat} (ha : a < 2147483648) : (0 < wI a) = (0 < a) := wI_lt (a := 0) (by decide) ha
theorem wI_0le {a : Nat} (ha : a < 2147483648) : (0 ≤ wI a) = True := by
  rw [show (0 : Int32) = wI 0 from rfl, wI_le (by omega) ha]; simp
theorem wI_lt1 {a : Nat} (ha : a < 2147483648) : (wI a < 1) = (a < 1) := wI_lt (b := 1) ha (by decide)
theorem wI_1lt {a : Nat} (ha : a < 2147483648) : (1 < wI a) = (1 < a) := wI_lt (a := 1) (by decide) ha
theorem wI_le1 {a : Nat} (ha : a < 2147483648) : (wI a ≤ 1) = (a ≤ 1) := wI_le (b := 1) ha (by decide)
theorem wI_1le {a : Nat} (ha : a < 2147483648) : (1 ≤ wI a) = (1 ≤ a) := wI_le (a := 1) (by decide) ha
theorem wI_eqm {a : Nat} (ha : a < 2147483648) : (wI a = -1) = False := by
  rw [← Int32.toInt_inj, wI_toInt ha]
  have : (-1 : Int32).toInt = -1 := by decide
  rw [this]
  simp only [eq_iff_iff, iff_false]
  omega
theorem wI_ltm {a : Nat} (ha : a < 2147483648) : (wI a < -1) = False := by
  rw [Int32.lt_iff_toInt_lt, wI_toInt ha]
  have : (-1 : Int32).toInt = -1 := by decide
  rw [this]
  simp only [eq_iff_iff, iff_false]
  omega
theorem wI_div {a b : Nat} (ha : a < 2147483648) (hb : b < 2147483648) : wI a / wI b = wI (a / b) := by
  rw [← Int32.toInt_inj, Int32.toInt_div, wI_toInt ha, wI_toInt hb, wI_toInt (Nat.lt_of_le_of_lt (Nat.div_le_self a b) ha)]
  rw [Int.tdiv_eq_ediv_of_nonneg (by omega)]
  rw [Int.bmod_eq_of_le]
  · rfl
  · have := Int.ediv_nonneg (a := (a : Int)) (b := (b : Int)) (by omega) (by omega); omega
  · have : (a : Int) / (b : Int) = ((a / b : Nat) : Int) := rfl
    rw [this]
    have := Nat.div_le_self a b
    omega
theorem wI_rem {a b : Nat} (ha : a < 2147483648) (hb : b < 2147483648) : wI a - wI a / wI b * wI b = wI (a % b) := by
  rw [wI_div ha hb, wI_mul, wI_sub (Nat.div_mul_le_self a b)]
  congr 1
  have := Nat.div_add_mod' a b
  omega
theorem inb_wI {k n : Nat} (hk : k < 2147483648) : inb (wI k) n = decide (k < n) := by
  unfold inb
  rw [wI_toNat hk, decide_eq_false (by rw [wI_lt0 hk]; exact fun h => h)]
  by_cases h : k < n
  · simp [h]
  · simp [h, Nat.le_of_not_lt h]
theorem inb_iff {p : Int32} {n : Nat} (h : inb p n = true) : ∃ j, j < n ∧ j < 2147483648 ∧ p = wI j := by
  unfold inb at h
  simp only [Bool.not_eq_true', Bool.or_eq_false_iff, decide_eq_false_iff_not] at h
  obtain ⟨h1, h2⟩ := h
  have h0 : 0 ≤ p.toInt := by
    rw [Int32.lt_iff_toInt_lt] at h1
    have : (0 : Int32).toInt = 0 := by decide
    omega
  have h3 : p.toInt < 2147483648 := Int32.toInt_lt p
  refine ⟨p.toNatClampNeg, by omega, ?_, ?_⟩
  · show p.toInt.toNat < _
    omega
  · rw [← Int32.toInt_inj, wI_toInt]
    · show p.toInt = ((p.toInt.toNat : Nat) : Int)
      omega
    · show p.toInt.toNat < _
      omega
def bz (p : Prop) [Decidable p] : Int32 := if p then 1 else 0
theorem bz_0 (p : Prop) [Decidable p] : (bz p = 0) = ¬ p := by
  unfold bz
  by_cases h : p <;> simp [h]
theorem bz_1 (p : Prop) [Decidable p] : (bz p = 1) = p := by
  unfold bz
  by_cases h : p <;> simp [h]
theorem bz_t : (1 : Int32) = bz True := rfl
theorem lI_0 (σ : Mem) (a : Nat) : lI σ a 0 = lI σ a (wI 0) := rfl
theorem lI_1 (σ : Mem) (a : Nat) : lI σ a 1 = lI σ a (wI 1) := rfl
theorem sI_0 (σ : Mem) (a : Nat) (v : Int32) : sI σ a 0 v = sI σ a (wI 0) v := rfl
theorem sI_1 (σ : Mem) (a : Nat) (v : Int32) : sI σ a 1 v = sI σ a (wI 1) v := rfl
theorem lL_0 (σ : Mem) (a : Nat) : lL σ a 0 = lL σ a (wI 0) := rfl
theorem lL_1 (σ : Mem) (a : Nat) : lL σ a 1 = lL σ a (wI 1) := rfl
theorem bO_s {α : Type} (x : α) (f : α → Option Rs) : bO (some x) f = f x := rfl
theorem bI_s (x : Int32) (σ : Mem) (f : Int32 → Mem → Option Rs) : bI (some (some (.int x), σ)) f = f x σ := rfl
theorem bL_s (x : Int64) (σ : Mem) (f : Int64 → Mem → Option Rs) : bL (some (some (.long x), σ)) f = f x σ := rfl
theorem bQ_s (x : Nat) (σ : Mem) (f : Option Nat → Mem → Option Rs) : bQ (some (some (.ref x), σ)) f = f (some x) σ := rfl
theorem bQ_n (σ : Mem) (f : Option Nat → Mem → Option Rs) : bQ (some (some .null, σ)) f = f none σ := rfl
theorem bR_s (x : Nat) (σ : Mem) (f : Nat → Mem → Option Rs) : bR (some (some (.ref x), σ)) f = f x σ := rfl
theorem bV_s (σ : Mem) (f : Mem → Option Rs) : bV (some (none, σ)) f = f σ := rfl
theorem bN_n (f : Option Rs) (g : Nat → Option Rs) : bN none f g = f := rfl
theorem bN_s (x : Nat) (f : Option Rs) (g : Nat → Option Rs) : bN (some x) f g = g x := rfl
/-! rows -/
def up (f : Nat → Nat → Int32) (a : Nat) (g : Nat → Int32) : Nat → Nat → Int32 := fun b => if b = a then g else f b
theorem up_at (f : Nat → Nat → Int32) (a : Nat) (g : Nat → Int32) (b : Nat) : up f a g b = if b = a then g else f b := rfl
theorem up_eq (f : Nat → Nat → Int32) (a : Nat) (g : Nat → Int32) : up f a g a = g := if_pos rfl
theorem up_ne (f : Nat → Nat → Int32) (a : Nat) (g : Nat → Int32) {b : Nat} (h : b ≠ a) : up f a g b = f b := if_neg h
theorem up_up (f : Nat → Nat → Int32) (a : Nat) (g h : Nat → Int32) : up (up f a g) a h = up f a h := by
  funext b
  unfold up
  by_cases e : b = a <;> simp [e]
theorem up_same (f : Nat → Nat → Int32) (a : Nat) : up f a (f a) = f := by
  funext b
  unfold up
  by_cases e : b = a <;> simp [e]
theorem upd_at (g : Nat → Int32) (k : Nat) (v : Int32) (j : Nat) : upd g k v j = if j = k then v else g j := rfl
theorem upd_eq (g : Nat → Int32) (k : Nat) (v : Int32) : upd g k v k = v := if_pos rfl
theorem upd_ne (g : Nat → Int32) (k : Nat) (v : Int32) {j : Nat} (h : j ≠ k) : upd g k v j = g j := if_neg h
theorem upd_upd (g : Nat → Int32) (k : Nat) (v w : Int32) : upd (upd g k v) k w = upd g k w := by
  funext j
  unfold upd
  by_cases e : j = k <;> simp [e]
theorem upd_same (g : Nat → Int32) (k : Nat) : upd g k (g k) = g := by
  funext j
  unfold upd
  by_cases e : j = k <;> simp [e]
/-- a reference that may change is a row's int: 0 is nothing -/
def rfo (v : Int32) : Option Nat := if v = 0 then none else some v.toNatClampNeg
theorem rfo_0 : rfo 0 = none := rfl
theorem rfo_w {n : Nat} (h0 : n ≠ 0) (h : n < 2147483648) : rfo (wI n) = some n := by
  unfold rfo
  rw [if_neg (by rw [wI_eq0 h]; exact h0), wI_toNat h]
def mpV (r : Nat → Int32) (k : Nat) (v : Value) : Value := match v with
  | .int _ => .int (r k)
  | .null => va_rf (rfo (r k))
  | v => v
def mapF (r : Nat → Int32) : Nat → List Value → List Value
  | _, [] => []
  | k, v :: l => mpV r k v :: mapF r (k + 1) l
theorem mapF_cons (r : Nat → Int32) (k : Nat) (v : Value) (l : List Value) : mapF r k (v :: l) = mpV r k v :: mapF r (k + 1) l := rfl
theorem mapF_len (r : Nat → Int32) : ∀ (l : List Value) (k : Nat), (mapF r k l).length = l.length
  | [], _ => rfl
  | v :: l, k => by rw [mapF_cons, List.length_cons, List.length_cons, mapF_len r l (k + 1)]
theorem mapF_get (r : Nat → Int32) : ∀ (l : List Value) (k j : Nat), (mapF r k l)[j]? = (l[j]?).map (mpV r (k + j))
  | [], _, _ => rfl
  | v :: l, k, 0 => rfl
  | v :: l, k, j + 1 => by
    rw [mapF_cons, List.getElem?_cons_succ, List.getElem?_cons_succ, mapF_get r l (k + 1) j]
    congr 2
    omega
theorem mpV_ext {r s : Nat → Int32} {k : Nat} (h : r k = s k) (v : Value) : mpV r k v = mpV s k v := by
  cases v <;> simp only [mpV, h]
theorem mapF_ext (r s : Nat → Int32) : ∀ (l : List Value) (k : Nat), (∀ j, k ≤ j → r j = s j) → mapF r k l = mapF s k l
  | [], _, _ => rfl
  | v :: l, k, h => by
    rw [mapF_cons, mapF_cons, mapF_ext r s l (k + 1) (fun j e => h j (by omega)), mpV_ext (h k (Nat.le_refl k))]
theorem mapF_set (r : Nat → Int32) (v : Int32) (x w : Value) : ∀ (l : List Value) (k j : Nat), l[j]? = some x → (∀ s : Nat → Int32, s (k + j) = v → mpV s (k + j) x = w) → (mapF r k l).set j w = mapF (upd r (k + j) v) k l
  | [], _, _, h, _ => by cases h
  | y :: l, k, 0, h, hw => by
    cases h
    rw [mapF_cons, mapF_cons, List.set_cons_zero, Nat.add_zero, ← hw (upd r k v) (upd_eq r k v), Nat.add_zero, mapF_ext r (upd r k v) l (k + 1)]
    intro j e
    rw [upd_ne]
    omega
  | y :: l, k, j + 1, h, hw => by
    rw [mapF_cons, mapF_cons, List.set_cons_succ, mapF_set r v x w l (k + 1) j h (by rw [show k + 1 + j = k + (j + 1) by omega]; exact hw)]
    rw [show k + 1 + j = k + (j + 1) by omega]
    congr 1
    apply mpV_ext
    rw [upd_ne]
    omega
def mkC (r : Nat → Int32) (c : MCQ) : MCQ := match c with
  | .inr o => .inr (o.1, mapF r 0 o.2)
  | .inl (t, n, .inl g) => .inl (t, n, .inl (bif Nat.blt t 6 then r else g))
  | .inl (t, n, .inr (.inl _)) => .inl (t, n, .inr (.inl (fun k => (r k).toInt64)))
  | .inl (t, n, .inr (.inr (.inr (.inr _)))) => .inl (t, n, .inr (.inr (.inr (.inr (fun k => rfo (r k))))))
  | .inl q => .inl q
def mkM (f : Nat → Nat → Int32) (z : Mem) : Mem := (z.1, z.2.1, fun a => mkC (f a) (z.2.2 a))
/-- what a cell looks like: (0, number, 0, fields: 0 int, 1 a reference that may change, n + 2 reference to n), (1, tag, length): ints, (2, 3, length): longs, (3, tag, length): references -/
def okF : List Nat → List Value → Bool
  | [], [] => true
  | 0 :: ds, .int _ :: vs => okF ds vs
  | 1 :: ds, .null :: vs => okF ds vs
  | (n + 2) :: ds, .ref m :: vs => m == n && okF ds vs
  | _, _ => false
def okCl (q : Nat × Nat × Nat × List Nat) (c : MCQ) : Bool := match c with
  | .inr o => q.1 == 0 && o.1 == q.2.1 && okF q.2.2.2 o.2
  | .inl (t, n, .inl _) => q.1 == 1 && t == q.2.1 && n == q.2.2.1
  | .inl (t, n, .inr (.inl _)) => q.1 == 2 && t == q.2.1 && n == q.2.2.1
  | .inl (t, n, .inr (.inr (.inr (.inr _)))) => q.1 == 3 && t == q.2.1 && n == q.2.2.1
  | _ => false
theorem okF_tail : ∀ {d : Nat} {ds : List Nat} {v : Value} {vs : List Value}, okF (d :: ds) (v :: vs) = true → okF ds vs = true
  | 0, _, .int _, _, h => h
  | 1, _, .null, _, h => h
  | n + 2, _, .ref m, _, h => by simp only [okF, Bool.and_eq_true] at h; exact h.2
theorem okF_nil {d : Nat} {ds : List Nat} (h : okF (d :: ds) [] = true) : False := by
  match d, h with
  | 0, h => cases h
  | 1, h => cases h
  | n + 2, h => cases h
theorem okF_int : ∀ (ds : List Nat) (vs : List Value) (k : Nat), okF ds vs = true → ds[k]? = some 0 → ∃ v, vs[k]? = some (.int v)
  | [], _, _, _, h => by cases h
  | d :: ds, [], _, h, _ => (okF_nil h).elim
  | d :: ds, v :: vs, 0, h, e => by
    cases e
    cases v with
    | int x => exact ⟨x, rfl⟩
    | _ => cases h
  | d :: ds, v :: vs, k + 1, h, e => by
    rw [List.getElem?_cons_succ] at e ⊢
    exact okF_int ds vs k (okF_tail h) e
theorem okF_var : ∀ (ds : List Nat) (vs : List Value) (k : Nat), okF ds vs = true → ds[k]? = some 1 → vs[k]? = some .null
  | [], _, _, _, h => by cases h
  | d :: ds, [], _, h, _ => (okF_nil h).elim
  | d :: ds, v :: vs, 0, h, e => by
    cases e
    cases v with
    | null => rfl
    | _ => cases h
  | d :: ds, v :: vs, k + 1, h, e => by
    rw [List.getElem?_cons_succ] at e ⊢
    exact okF_var ds vs k (okF_tail h) e
theorem okF_ref : ∀ (ds : List Nat) (vs : List Value) (k n : Nat), okF ds vs = true → ds[k]? = some (n + 2) → vs[k]? = some (.ref n)
  | [], _, _, _, _, h => by cases h
  | d :: ds, [], _, _, h, _ => (okF_nil h).elim
  | d :: ds, v :: vs, 0, n, h, e => by
    cases e
    cases v with
    | ref x =>
      simp only [okF, Bool.and_eq_true, beq_iff_eq] at h
      rw [h.1]; rfl
    | _ => cases h
  | d :: ds, v :: vs, k + 1, n, h, e => by
    rw [List.getElem?_cons_succ] at e ⊢
    exact okF_ref ds vs k n (okF_tail h) e
theorem okO {q : Nat × Nat × Nat × List Nat} {c : MCQ} (h : okCl q c = true) (h0 : q.1 = 0) : ∃ fs, c = .inr (q.2.1, fs) ∧ okF q.2.2.2 fs = true := by
  match c, h with
  | .inr (ci, fs), h =>
    simp only [okCl, Bool.and_eq_true, beq_iff_eq] at h
    obtain ⟨⟨_, h2⟩, h3⟩ := h
    subst h2
    exact ⟨fs, rfl, h3⟩
  | .inl (t, n, .inl _), h => simp [okCl, h0] at h
  | .inl (t, n, .inr (.inl _)), h => simp [okCl, h0] at h
  | .inl (t, n, .inr (.inr (.inr (.inr _)))), h => simp [okCl, h0] at h
  | .inl (t, n, .inr (.inr (.inl _))), h => simp [okCl] at h
  | .inl (t, n, .inr (.inr (.inr (.inl _)))), h => simp [okCl] at h
theorem okA1 {q : Nat × Nat × Nat × List Nat} {c : MCQ} (h : okCl q c = true) (h0 : q.1 = 1) : ∃ g, c = .inl (q.2.1, q.2.2.1, .inl g) := by
  match c, h with
  | .inr (ci, fs), h => simp [okCl, h0] at h
  | .inl (t, n, .inl g), h =>
    simp only [okCl, Bool.and_eq_true, beq_iff_eq] at h
    obtain ⟨⟨_, h2⟩, h3⟩ := h
    subst h2 h3
    exact ⟨g, rfl⟩
  | .inl (t, n, .inr (.inl _)), h => simp [okCl, h0] at h
  | .inl (t, n, .inr (.inr (.inr (.inr _)))), h => simp [okCl, h0] at h
  | .inl (t, n, .inr (.inr (.inl _))), h => simp [okCl] at h
  | .inl (t, n, .inr (.inr (.inr (.inl _)))), h => simp [okCl] at h
theorem okA2 {q : Nat × Nat × Nat × List Nat} {c : MCQ} (h : okCl q c = true) (h0 : q.1 = 2) : ∃ g, c = .inl (q.2.1, q.2.2.1, .inr (.inl g)) := by
  match c, h with
  | .inr (ci, fs), h => simp [okCl, h0] at h
  | .inl (t, n, .inr (.inl g)), h =>
    simp only [okCl, Bool.and_eq_true, beq_iff_eq] at h
    obtain ⟨⟨_, h2⟩, h3⟩ := h
    subst h2 h3
    exact ⟨g, rfl⟩
  | .inl (t, n, .inl _), h => simp [okCl, h0] at h
  | .inl (t, n, .inr (.inr (.inr (.inr _)))), h => simp [okCl, h0] at h
  | .inl (t, n, .inr (.inr (.inl _))), h => simp [okCl] at h
  | .inl (t, n, .inr (.inr (.inr (.inl _)))), h => simp [okCl] at h
theorem okA3 {q : Nat × Nat × Nat × List Nat} {c : MCQ} (h : okCl q c = true) (h0 : q.1 = 3) : ∃ g, c = .inl (q.2.1, q.2.2.1, .inr (.inr (.inr (.inr g)))) := by
  match c, h with
  | .inr (ci, fs), h => simp [okCl, h0] at h
  | .inl (t, n, .inr (.inr (.inr (.inr g)))), h =>
    simp only [okCl, Bool.and_eq_true, beq_iff_eq] at h
    obtain ⟨⟨_, h2⟩, h3⟩ := h
    subst h2 h3
    exact ⟨g, rfl⟩
  | .inl (t, n, .inl _), h => simp [okCl, h0] at h
  | .inl (t, n, .inr (.inl _)), h => simp [okCl, h0] at h
  | .inl (t, n, .inr (.inr (.inl _))), h => simp [okCl] at h
  | .inl (t, n, .inr (.inr (.inr (.inl _)))), h => simp [okCl] at h
/-! reads and writes over a skeleton -/
theorem mk_setC (f : Nat → Nat → Int32) (z : Mem) (a : Nat) (g : Nat → Int32) (c : MCQ) (h : mkC g (z.2.2 a) = c) : setC (mkM f z) a c = mkM (up f a g) z := by
  unfold setC mkM
  congr 2
  funext b
  unfold va_up
  by_cases e : b = a
  · subst e
    rw [if_pos rfl, up_eq, h]
  · rw [if_neg e, up_ne _ _ _ e]
section
variable {q : Nat × Nat × Nat × List Nat} {z : Mem} {a : Nat}
theorem ok_gV (h : okCl q (z.2.2 a) = true) (h0 : q.1 = 0) (f : Nat → Nat → Int32) (k : Nat) : ∃ fs, z.2.2 a = .inr (q.2.1, fs) ∧ okF q.2.2.2 fs = true ∧ gV (mkM f z) q.2.1 a k = (fs[k]?).map (mpV (f a) k) := by
  obtain ⟨fs, h1, h2⟩ := okO h h0
  refine ⟨fs, h1, h2, ?_⟩
  unfold gV mkM
  dsimp only
  rw [h1]
  show (bif q.2.1 == q.2.1 then (mapF (f a) 0 fs)[k]? else none) = _
  rw [beq_self_eq_true, mapF_get, Nat.zero_add]
  rfl
theorem ok_gI (h : okCl q (z.2.2 a) = true) (h0 : q.1 = 0) (f : Nat → Nat → Int32) {k : Nat} (hk : q.2.2.2[k]? = some 0) : gI (mkM f z) q.2.1 a k = some (f a k) := by
  obtain ⟨fs, h1, h2, h3⟩ := ok_gV h h0 f k
  obtain ⟨v, hv⟩ := okF_int _ _ _ h2 hk
  unfold gI
  rw [h3, hv]
  rfl
theorem ok_gR (h : okCl q (z.2.2 a) = true) (h0 : q.1 = 0) (f : Nat → Nat → Int32) {k n : Nat} (hk : q.2.2.2[k]? = some (n + 2)) : gR (mkM f z) q.2.1 a k = some n := by
  obtain ⟨fs, h1, h2, h3⟩ := ok_gV h h0 f k
  have hv := okF_ref _ _ _ _ h2 hk
  unfold gR
  rw [h3, hv]
  rfl
theorem ok_gRv (h : okCl q (z.2.2 a) = true) (h0 : q.1 = 0) (f : Nat → Nat → Int32) {k : Nat} (hk : q.2.2.2[k]? = some 1) : gR (mkM f z) q.2.1 a k = rfo (f a k) := by
  obtain ⟨fs, h1, h2, h3⟩ := ok_gV h h0 f k
  have hv := okF_var _ _ _ h2 hk
  unfold gR
  rw [h3, hv]
  show (match some (va_rf (rfo (f a k))) with | some (.ref v) => some v | _ => none) = rfo (f a k)
  cases rfo (f a k) <;> rfl
theorem ok_gQ (h : okCl q (z.2.2 a) = true) (h0 : q.1 = 0) (f : Nat → Nat → Int32) {k : Nat} (hk : q.2.2.2[k]? = some 1) : gQ (mkM f z) q.2.1 a k = some (rfo (f a k)) := by
  obtain ⟨fs, h1, h2, h3⟩ := ok_gV h h0 f k
  have hv := okF_var _ _ _ h2 hk
  unfold gQ
  rw [h3, hv]
  show (match some (va_rf (rfo (f a k))) with | some (.ref v) => some (some v) | some .null => some none | _ => none) = some (rfo (f a k))
  cases rfo (f a k) <;> rfl
theorem ok_pW (h : okCl q (z.2.2 a) = true) (h0 : q.1 = 0) (f : Nat → Nat → Int32) {k : Nat} {x w : Value} {v : Int32} (hk : ∀ fs, okF q.2.2.2 fs = true → ∃ x, fs[k]? = some x ∧ ∀ s : Nat → Int32, s k = v → mpV s k x = w) : pF (mkM f z) q.2.1 a k w = some (mkM (up f a (upd (f a) k v)) z) := by
  obtain ⟨fs, h1, h2⟩ := okO h h0
  obtain ⟨x, hx, hw⟩ := hk fs h2
  have hl : k < fs.length := by
    rcases Nat.lt_or_ge k fs.length with h | h
    · exact h
    · rw [List.getElem?_eq_none h] at hx; cases hx
  have h3 : (mkM f z).2.2 a = .inr (q.2.1, mapF (f a) 0 fs) := by
    show mkC (f a) (z.2.2 a) = _
    rw [h1]; rfl
  unfold pF
  rw [h3]
  dsimp only
  rw [beq_self_eq_true, mapF_len, show Nat.blt k fs.length = true by rw [Nat.blt_eq]; exact hl]
  show some (setC _ _ _) = _
  rw [mk_setC f z a (upd (f a) k v)]
  rw [h1, mapF_set (f a) v x w fs 0 k hx (by rw [Nat.zero_add]; exact hw), Nat.zero_add]
  rfl
theorem ok_pF (h : okCl q (z.2.2 a) = true) (h0 : q.1 = 0) (f : Nat → Nat → Int32) {k : Nat} (hk : q.2.2.2[k]? = some 0) (v : Int32) : pF (mkM f z) q.2.1 a k (.int v) = some (mkM (up f a (upd (f a) k v)) z) := by
  refine ok_pW (x := .null) h h0 f (fun fs hf => ?_)
  obtain ⟨w, hw⟩ := okF_int _ _ _ hf hk
  exact ⟨_, hw, fun s hs => by show Value.int (s k) = _; rw [hs]⟩
theorem ok_pR (h : okCl q (z.2.2 a) = true) (h0 : q.1 = 0) (f : Nat → Nat → Int32) {k : Nat} (hk : q.2.2.2[k]? = some 1) {v : Nat} (hv : v ≠ 0) (hs : v < 2147483648) : pF (mkM f z) q.2.1 a k (.ref v) = some (mkM (up f a (upd (f a) k (wI v))) z) := by
  refine ok_pW (x := .null) h h0 f (fun fs hf => ?_)
  have hw := okF_var _ _ _ hf hk
  exact ⟨_, hw, fun s e => by show va_rf (rfo (s k)) = _; rw [e, rfo_w hv hs]; rfl⟩
theorem ok_isC (h : okCl q (z.2.2 a) = true) (h0 : q.1 = 0) (f : Nat → Nat → Int32) : isC (mkM f z) q.2.1 a = true := by
  obtain ⟨fs, h1, h2⟩ := okO h h0
  unfold isC mkM
  dsimp only
  rw [h1]
  exact beq_self_eq_true _
theorem ok_lI (h : okCl q (z.2.2 a) = true) (h0 : q.1 = 1) (h1 : q.2.1 = 0) (f : Nat → Nat → Int32) {k : Nat} (hk : k < q.2.2.1) (hs : q.2.2.1 < 2147483648) : lI (mkM f z) a (wI k) = some (f a k) := by
  obtain ⟨g, e⟩ := okA1 h h0
  unfold lI mkM
  dsimp only
  rw [e, h1]
  show (bif true && inb (wI k) q.2.2.1 then some (f a (wI k).toNatClampNeg) else none) = _
  rw [inb_wI (by omega), wI_toNat (by omega), decide_eq_true hk]
  rfl
theorem ok_sI (h : okCl q (z.2.2 a) = true) (h0 : q.1 = 1) (h1 : q.2.1 = 0) (f : Nat → Nat → Int32) {k : Nat} (v : Int32) (hk : k < q.2.2.1) (hs : q.2.2.1 < 2147483648) : sI (mkM f z) a (wI k) v = some (mkM (up f a (upd (f a) k v)) z) := by
  obtain ⟨g, e⟩ := okA1 h h0
  have h3 : (mkM f z).2.2 a = .inl (0, q.2.2.1, .inl (f a)) := by
    show mkC (f a) (z.2.2 a) = _
    rw [e, h1]; rfl
  unfold sI
  rw [h3]
  show (bif true && inb (wI k) q.2.2.1 then some (setC _ _ (.inl (0, q.2.2.1, .inl (upd (f a) (wI k).toNatClampNeg v)))) else none) = _
  rw [inb_wI (by omega), wI_toNat (by omega), decide_eq_true hk]
  show some (setC _ _ _) = _
  rw [mk_setC f z a (upd (f a) k v)]
  rw [e, h1]; rfl
theorem ok_lB (h : okCl q (z.2.2 a) = true) (h0 : q.1 = 1) (h1 : q.2.1 = 1 ∨ q.2.1 = 2) (f : Nat → Nat → Int32) {k : Nat} (hk : k < q.2.2.1) (hs : q.2.2.1 < 2147483648) : lB (mkM f z) a (wI k) = some (f a k) := by
  obtain ⟨g, e⟩ := okA1 h h0
  unfold lB mkM
  dsimp only
  rw [e]
  rcases h1 with h1 | h1
  · rw [h1]
    show (bif true && inb (wI k) q.2.2.1 then some (f a (wI k).toNatClampNeg) else none) = _
    rw [inb_wI (by omega), wI_toNat (by omega), decide_eq_true hk]
    rfl
  · rw [h1]
    show (bif true && inb (wI k) q.2.2.1 then some (f a (wI k).toNatClampNeg) else none) = _
    rw [inb_wI (by omega), wI_toNat (by omega), decide_eq_true hk]
    rfl
theorem ok_sB1 (h : okCl q (z.2.2 a) = true) (h0 : q.1 = 1) (h1 : q.2.1 = 1) (f : Nat → Nat → Int32) {k : Nat} (v : Int32) (hk : k < q.2.2.1) (hs : q.2.2.1 < 2147483648) : sB (mkM f z) a (wI k) v = some (mkM (up f a (upd (f a) k (vp_nar .byte v))) z) := by
  obtain ⟨g, e⟩ := okA1 h h0
  have h3 : (mkM f z).2.2 a = .inl (1, q.2.2.1, .inl (f a)) := by
    show mkC (f a) (z.2.2 a) = _
    rw [e, h1]; rfl
  unfold sB
  rw [h3]
  show (bif true && inb (wI k) q.2.2.1 then some (setC _ _ (.inl (1, q.2.2.1, .inl (upd (f a) (wI k).toNatClampNeg (vp_nar .byte v))))) else none) = _
  rw [inb_wI (by omega), wI_toNat (by omega), decide_eq_true hk]
  show some (setC _ _ _) = _
  rw [mk_setC f z a (upd (f a) k (vp_nar .byte v))]
  rw [e, h1]; rfl
theorem ok_sB2 (h : okCl q (z.2.2 a) = true) (h0 : q.1 = 1) (h1 : q.2.1 = 2) (f : Nat → Nat → Int32) {k : Nat} (v : Int32) (hk : k < q.2.2.1) (hs : q.2.2.1 < 2147483648) : sB (mkM f z) a (wI k) v = some (mkM (up f a (upd (f a) k (vp_nar .boolean v))) z) := by
  obtain ⟨g, e⟩ := okA1 h h0
  have h3 : (mkM f z).2.2 a = .inl (2, q.2.2.1, .inl (f a)) := by
    show mkC (f a) (z.2.2 a) = _
    rw [e, h1]; rfl
  unfold sB
  rw [h3]
  show (bif true && inb (wI k) q.2.2.1 then some (setC _ _ (.inl (2, q.2.2.1, .inl (upd (f a) (wI k).toNatClampNeg (vp_nar .boolean v))))) else none) = _
  rw [inb_wI (by omega), wI_toNat (by omega), decide_eq_true hk]
  show some (setC _ _ _) = _
  rw [mk_setC f z a (upd (f a) k (vp_nar .boolean v))]
  rw [e, h1]; rfl
theorem ok_lL (h : okCl q (z.2.2 a) = true) (h0 : q.1 = 2) (h1 : q.2.1 = 3) (f : Nat → Nat → Int32) {k : Nat} (hk : k < q.2.2.1) (hs : q.2.2.1 < 2147483648) : lL (mkM f z) a (wI k) = some (f a k).toInt64 := by
  obtain ⟨g, e⟩ := okA2 h h0
  unfold lL mkM
  dsimp only
  rw [e, h1]
  show (bif true && inb (wI k) q.2.2.1 then some (f a (wI k).toNatClampNeg).toInt64 else none) = _
  rw [inb_wI (by omega), wI_toNat (by omega), decide_eq_true hk]
  rfl
theorem ok_sL (h : okCl q (z.2.2 a) = true) (h0 : q.1 = 2) (h1 : q.2.1 = 3) (f : Nat → Nat → Int32) {k : Nat} (v : Int32) (hk : k < q.2.2.1) (hs : q.2.2.1 < 2147483648) : sL (mkM f z) a (wI k) v.toInt64 = some (mkM (up f a (upd (f a) k v)) z) := by
  obtain ⟨g, e⟩ := okA2 h h0
  have h3 : (mkM f z).2.2 a = .inl (3, q.2.2.1, .inr (.inl (fun k => (f a k).toInt64))) := by
    show mkC (f a) (z.2.2 a) = _
    rw [e, h1]; rfl
  unfold sL
  rw [h3]
  show (bif true && inb (wI k) q.2.2.1 then some (setC _ _ (.inl (3, q.2.2.1, .inr (.inl (vp_updL (fun k => (f a k).toInt64) (wI k).toNatClampNeg v.toInt64))))) else none) = _
  rw [inb_wI (by omega), wI_toNat (by omega), decide_eq_true hk]
  show some (setC _ _ _) = _
  rw [mk_setC f z a (upd (f a) k v)]
  rw [e, h1]
  show Sum.inl (3, _, Sum.inr (Sum.inl _)) = Sum.inl (3, _, Sum.inr (Sum.inl _))
  congr 5
  funext j
  unfold upd vp_updL
  by_cases e : j = k
  · rw [if_pos e, if_pos e]
  · rw [if_neg e, if_neg e]
theorem ok_lQ (h : okCl q (z.2.2 a) = true) (h0 : q.1 = 3) (h1 : q.2.1 = 4 ∨ q.2.1 = 5) (f : Nat → Nat → Int32) {k : Nat} (hk : k < q.2.2.1) (hs : q.2.2.1 < 2147483648) : lQ (mkM f z) a (wI k) = some (rfo (f a k)) := by
  obtain ⟨g, e⟩ := okA3 h h0
  unfold lQ mkM
  dsimp only
  rw [e]
  rcases h1 with h1 | h1
  · rw [h1]
    show (bif true && inb (wI k) q.2.2.1 then some (rfo (f a (wI k).toNatClampNeg)) else none) = _
    rw [inb_wI (by omega), wI_toNat (by omega), decide_eq_true hk]
    rfl
  · rw [h1]
    show (bif true && inb (wI k) q.2.2.1 then some (rfo (f a (wI k).toNatClampNeg)) else none) = _
    rw [inb_wI (by omega), wI_toNat (by omega), decide_eq_true hk]
    rfl
theorem ok_sQ (h : okCl q (z.2.2 a) = true) (h0 : q.1 = 3) (h1 : q.2.1 = 4 ∨ q.2.1 = 5) (f : Nat → Nat → Int32) {k : Nat} {x : Option Nat} {v : Int32} (hv : rfo v = x) (hx : ∀ y, x = some y → isC (mkM f z) (bif q.2.1 == 4 then 5 else 1) y = true) (hk : k < q.2.2.1) (hs : q.2.2.1 < 2147483648) : sQ (mkM f z) a (wI k) x = some (mkM (up f a (upd (f a) k v)) z) := by
  obtain ⟨g, e⟩ := okA3 h h0
  have h3 : (mkM f z).2.2 a = .inl (q.2.1, q.2.2.1, .inr (.inr (.inr (.inr (fun k => rfo (f a k)))))) := by
    show mkC (f a) (z.2.2 a) = _
    rw [e]; rfl
  have h5 : (q.2.1 == 4 || q.2.1 == 5) = true := by
    rcases h1 with h1 | h1 <;> rw [h1] <;> rfl
  have key : setC (mkM f z) a (.inl (q.2.1, q.2.2.1, .inr (.inr (.inr (.inr (va_up (fun k => rfo (f a k)) k x)))))) = mkM (up f a (upd (f a) k v)) z := by
    rw [mk_setC f z a (upd (f a) k v)]
    rw [e]
    show Sum.inl (q.2.1, _, Sum.inr (Sum.inr (Sum.inr (Sum.inr _)))) = Sum.inl (q.2.1, _, Sum.inr (Sum.inr (Sum.inr (Sum.inr _))))
    congr 7
    funext j
    unfold upd va_up
    by_cases e : j = k
    · rw [if_pos e, if_pos e, hv]
    · rw [if_neg e, if_neg e]
  unfold sQ
  rw [h3]
  dsimp only
  rw [h5, inb_wI (by omega), wI_toNat (by omega), decide_eq_true hk]
  clear hv
  cases x with
  | none => exact congrArg some key
  | some y =>
    dsimp only
    rw [hx y rfl]
    exact congrArg some key
theorem ok_aln (h : okCl q (z.2.2 a) = true) (h0 : q.1 = 1) (h1 : q.2.1 < 7) (f : Nat → Nat → Int32) : aln (mkM f z) a = some (wI q.2.2.1) := by
  obtain ⟨g, e⟩ := okA1 h h0
  unfold aln mkM
  dsimp only
  rw [e]
  show (bif Nat.blt q.2.1 7 then some (wI q.2.2.1) else none) = _
  rw [show Nat.blt q.2.1 7 = true by rw [Nat.blt_eq]; exact h1]
  rfl
theorem ok_cpI {q2 : Nat × Nat × Nat × List Nat} {b : Nat} (h : okCl q (z.2.2 a) = true) (h0 : q.1 = 1) (h1 : q.2.1 = 0) (h' : okCl q2 (z.2.2 b) = true) (h0' : q2.1 = 1) (h1' : q2.2.1 = 0) (f : Nat → Nat → Int32) {n : Nat} (hn : n ≤ q.2.2.1) (hn' : n ≤ q2.2.2.1) (hs : n < 2147483648) : cpI (mkM f z) b 0 a 0 (wI n) = some (mkM (up f a (va_cpy (f b) (f a) 0 0 n)) z) := by
  obtain ⟨g, e⟩ := okA1 h h0
  obtain ⟨g', e'⟩ := okA1 h' h0'
  have h3 : (mkM f z).2.2 a = .inl (0, q.2.2.1, .inl (f a)) := by
    show mkC (f a) (z.2.2 a) = _
    rw [e, h1]; rfl
  have h4 : (mkM f z).2.2 b = .inl (0, q2.2.2.1, .inl (f b)) := by
    show mkC (f b) (z.2.2 b) = _
    rw [e', h1']; rfl
  unfold cpI
  rw [h4, h3]
  dsimp only
  rw [wI_toNat hs, show Int32.toNatClampNeg 0 = 0 from rfl]
  simp only [beq_self_eq_true, Bool.true_and, decide_eq_false (show ¬ (0 : Int32) < 0 by decide), Bool.not_false, Nat.zero_add,
    show decide (wI n < 0) = false from decide_eq_false (by rw [wI_lt0 hs]; exact fun h => h), show Nat.ble n q2.2.2.1 = true by rw [Nat.ble_eq]; exact hn', show Nat.ble n q.2.2.1 = true by rw [Nat.ble_eq]; exact hn, cond_true]
  rw [mk_setC f z a (va_cpy (f b) (f a) 0 0 n)]
  rw [e, h1]; rfl
end
